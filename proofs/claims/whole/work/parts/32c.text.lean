/-! TEXT: the reference where a kind is due -/
def PdM (M : QM) (pn : Nat) (sp : Nat → Int32) : Prop := M.1 0 0 = nI pn ∧ ∀ k, k < pn → M.1 1 k = sp k
theorem PdM_fr {M M2 : QM} {pn : Nat} {sp : Nat → Int32} {T F : List Nat} (h : PdM M pn sp) (f : Fr T M M2) (o : Fo F M M2) (hT : 1 ∉ T) (hF : 0 ∉ F) : PdM M2 pn sp :=
  ⟨by rw [o 0 hF]; exact h.1, fun k hk => by rw [(f 1 hT).1]; exact h.2 k hk⟩
def opn (M : QM) (d R : Nat) (nd : Int32) : QM := u_i (u_i (u_i (u_i M 8 d (nI R)) 9 d nd) 10 d (-1)) 0 10 (nI (d + 1))
section TX1
variable {M : QM} {pn k R d : Nat} {sp : Nat → Int32} {t : Tgt}
theorem b36_2 (h : PdM M pn sp) (hp : pn ≤ 100) (hk : k < pn) : Mo_faultOf_B36 (2, nI k, M) = if sp k = 123 then Mo_faultOf_L36_J137 (nI k) (sp k) (-6) M else if sp k = 91 then Mo_faultOf_L36_J137 (nI k) (sp k) (-6) M else Mo_faultOf_L36_J142 (nI k) (sp k) (-6) 0 M := by
  unfold Mo_faultOf_B36
  dsimp only
  rw [h.1, if_neg (show ¬ nI pn ≤ nI k by rw [nI_leI (by omega) (by omega)]; omega), ck_in (by omega) (by omega), ix_nI (by omega), h.2 k hk, if_neg (show ¬ (2 : Int32) = 0 by decide), if_neg (show ¬ (2 : Int32) = 1 by decide), if_pos rfl]
theorem m2_other (h : PdM M pn sp) (hp : pn ≤ 100) (hk : k < pn) (hc : ¬ okSign (sp k)) : Mo_faultOf_B36 (2, nI k, M) = Mo_faultOf_L36_J207 (nI k) (sp k) (-6) 0 0 0 M := by
  rw [b36_2 h hp hk]
  unfold okSign at hc
  simp only [not_or] at hc
  obtain ⟨c1, c2, c3, c4, c5, c6, c7, c8, c9⟩ := hc
  unfold Mo_faultOf_L36_J142 Mo_faultOf_L36_J179 Mo_faultOf_L36_J206
  rw [if_neg c6, if_neg c7, if_neg c1, if_neg c2, if_neg c3, if_neg c4, if_neg c5, if_neg c8, if_neg c9]
theorem m2_bad (h : PdM M pn sp) (hp : pn ≤ 100) (hk : k < pn) (hc : ¬ okSign (sp k)) (hn : ¬ (65 ≤ (sp k).toInt ∧ (sp k).toInt ≤ 72)) : Mo_faultOf_B36 (2, nI k, M) = Mo_faultOf_L36_J522 (nI k) (-6) M := by
  rw [m2_other h hp hk hc]
  unfold Mo_faultOf_L36_J207 Mo_in Mo_faultOf_L36_J382
  have e1 : (65 : Int32).toInt = 65 := by decide
  have e2 : (72 : Int32).toInt = 72 := by decide
  by_cases c : sp k < 65
  · rw [if_pos c, Option.bind_some, if_pos rfl, if_pos rfl, if_pos rfl, if_pos rfl]
  · rw [if_neg c, if_pos (show (72 : Int32) < sp k by rw [i_lt, e2]; rw [i_lt, e1] at c; omega), Option.bind_some, if_pos rfl, if_pos rfl, if_pos rfl, if_pos rfl]
theorem m2_name (h : PdM M pn sp) (hp : pn ≤ 100) (hk : k < pn) {x : Nat} (hx : x < 8) (hc : sp k = nI (65 + x)) : Mo_faultOf_B36 (2, nI k, M) = Option.bind (Mo_come (nI (100 + x)) M) (fun q => Mo_faultOf_L36_J522 (nI k) 5 q) := by
  have hno : ¬ okSign (sp k) := by
    rw [hc]
    have : ∀ x : Nat, x < 8 → ¬ (nI (65 + x) = 110 ∨ nI (65 + x) = 116 ∨ nI (65 + x) = 115 ∨ nI (65 + x) = 46 ∨ nI (65 + x) = 33 ∨ nI (65 + x) = 123 ∨ nI (65 + x) = 91 ∨ nI (65 + x) = 42 ∨ nI (65 + x) = 62) := by decide
    exact this x hx
  rw [m2_other h hp hk hno, hc]
  unfold Mo_faultOf_L36_J207 Mo_faultOf_L36_J382
  have hin := mo_in_1 (M := M) (c := 65 + x) (a := 65) (b := 72) (by omega) (by decide) (by decide)
  rw [if_pos (show 65 ≤ 65 + x ∧ 65 + x ≤ 72 by omega)] at hin
  rw [show Mo_in (nI (65 + x)) 65 72 M = some 1 from hin, Option.bind_some, if_neg one_ne]
  have e : (100 : Int32) + nI (65 + x) - 65 = nI (100 + x) := by
    rw [show (100 : Int32) = nI 100 from rfl, show (65 : Int32) = nI 65 from rfl, nI_add, nI_sub (by omega)]
    congr 1
    omega
  rw [e]
theorem m2_plain (h : PdM M pn sp) (hp : pn ≤ 100) (hk : k < pn) (hc : sp k = 110 ∨ sp k = 116 ∨ sp k = 115 ∨ sp k = 46 ∨ sp k = 33) : Mo_faultOf_B36 (2, nI k, M) = Mo_faultOf_L36_J252 (nI k) (sp k) 0 1 M := by
  rw [b36_2 h hp hk]
  rcases hc with e | e | e | e | e <;> rw [e] <;> rfl
theorem m2_both (h : PdM M pn sp) (hp : pn ≤ 100) (hk : k < pn) (hc : sp k = 123 ∨ sp k = 91) : Mo_faultOf_B36 (2, nI k, M) = Mo_faultOf_L36_J252 (nI k) (sp k) 1 0 M := by
  rw [b36_2 h hp hk]
  rcases hc with e | e <;> rw [e] <;> rfl
theorem m2_needs (h : PdM M pn sp) (hp : pn ≤ 100) (hk : k < pn) (hc : sp k = 42 ∨ sp k = 62) (hd : M.1 0 10 = nI d) (hd2 : d < 12) : Mo_faultOf_B36 (2, nI k, M) = Mo_faultOf_L36_J252 (nI k) (sp k) 0 0 M := by
  have e0 : ¬ (12 : Int32) ≤ M.1 0 10 := by rw [hd, l_12, nI_leI (by omega) (by omega)]; omega
  have key : Mo_faultOf_B36 (2, nI k, M) = Mo_faultOf_L36_J193 (nI k) (sp k) (-6) 0 0 M := by
    rw [b36_2 h hp hk]
    rcases hc with e | e <;> rw [e] <;> rfl
  rw [key]
  unfold Mo_faultOf_L36_J193
  rw [if_neg e0]
  rcases hc with e | e <;> rw [e] <;> rfl
theorem m2_deep (h : PdM M pn sp) (hp : pn ≤ 100) (hk : k < pn) (hc : sp k = 42 ∨ sp k = 62) (hd : M.1 0 10 = nI 12) : Mo_faultOf_B36 (2, nI k, M) = Mo_faultOf_L36_J522 (nI k) (-6) M := by
  have e0 : (12 : Int32) ≤ M.1 0 10 := by rw [hd]; decide
  have key : Mo_faultOf_B36 (2, nI k, M) = Mo_faultOf_L36_J193 (nI k) (sp k) (-6) 0 0 M := by
    rw [b36_2 h hp hk]
    rcases hc with e | e <;> rw [e] <;> rfl
  rw [key]
  unfold Mo_faultOf_L36_J193
  rw [if_pos e0]
  rcases hc with e | e <;> rw [e] <;> rfl
theorem m_blank (x2 x3 x5 x6 : Int32) (hR : R < 100) : ∃ M2, iter (Mo_faultOf_B269 x2 x3 x5 x6 (nI R)) FU ((0 : Int32), M) = some M2 ∧ Fr [6] M M2 ∧ (∀ s, s < 8 → M2.1 6 (8 * R + s) = -6) ∧ (∀ x, ¬ (8 * R ≤ x ∧ x < 8 * R + 8) → M2.1 6 x = M.1 6 x) := by
  obtain ⟨M2, b1, b2⟩ := iter_0 (B := Mo_faultOf_B269 x2 x3 x5 x6 (nI R))
    (fun t v => ∃ M2, v = (nI t, M2) ∧ Fr [6] M M2 ∧ (∀ s, s < t → M2.1 6 (8 * R + s) = -6) ∧ (∀ x, ¬ (8 * R ≤ x ∧ x < 8 * R + 8) → M2.1 6 x = M.1 6 x))
    (fun M2 => Fr [6] M M2 ∧ (∀ s, s < 8 → M2.1 6 (8 * R + s) = -6) ∧ (∀ x, ¬ (8 * R ≤ x ∧ x < 8 * R + 8) → M2.1 6 x = M.1 6 x))
    8 (by omega)
    (by
      rintro t v ht ⟨M2, rfl, c1, c2, c3⟩
      refine Or.inl ⟨_, ?_, u_i M2 6 (8 * R + t) (-6), rfl, Fr.i 6 c1 (by decide), fun s hs => ?_, fun x hx => ?_⟩
      · unfold Mo_faultOf_B269
        dsimp only
        rw [if_neg (show ¬ (8 : Int32) ≤ nI t by rw [l_8, nI_leI (by omega) (by omega)]; omega), l_8, nI_mul, nI_add, ck_in (by omega) (by omega), ix_nI (by omega), nI_1]
      · by_cases e : s = t
        · subst e; exact u_i_e
        · rw [u_i_k (by omega)]; exact c2 s (by omega)
      · rw [u_i_k (by omega)]; exact c3 x hx)
    (by
      rintro v ⟨M2, rfl, c⟩
      refine ⟨M2, ?_, c⟩
      unfold Mo_faultOf_B269
      dsimp only
      rw [if_pos (show (8 : Int32) ≤ nI 8 by decide)]) (0, M) ⟨M, rfl, Fr.rf, fun s hs => by omega, fun _ _ => rfl⟩
  exact ⟨M2, b1, b2⟩
/-- a node is written down -/
theorem m_node (hR : M.1 0 6 = nI R) (hR2 : R < 100) (c : Int32) (k : Nat) : ∃ M1, (∀ d, Hi M M1 d R) ∧ M1.1 0 6 = nI (R + 1) ∧ M1.1 0 10 = M.1 0 10 ∧ M1.1 5 R = c ∧ (∀ s, s < 8 → M1.1 6 (8 * R + s) = -6) ∧
    ∀ M2, Mo_come (nI R) M1 = some M2 → Mo_faultOf_L36_J252 (nI k) c 0 1 M = Mo_faultOf_L36_J522 (nI k) 5 M2 ∧
      ∀ d x5, M2.1 0 10 = nI d → d < 16 → Mo_faultOf_L36_J252 (nI k) c x5 0 M = Mo_faultOf_L36_J522 (nI k) 5 (opn M2 d R (if x5 = 0 then (if c = 42 then 1 else 2) else 100)) := by
  have blank : ∀ x5 x6 : Int32, iter (Mo_faultOf_B269 (nI k) c x5 x6 (nI R)) FU ((0 : Int32), u_i M 5 R c) = iter (Mo_faultOf_B269 0 0 0 0 (nI R)) FU ((0 : Int32), u_i M 5 R c) := fun _ _ => rfl
  obtain ⟨P, a1, a2, a3, a4⟩ := m_blank (M := u_i M 5 R c) (R := R) 0 0 0 0 hR2
  have p6 : P.1 0 6 = nI R := by rw [(a2 0 (by decide)).1, u_i_o (by decide)]; exact hR
  refine ⟨u_i P 0 6 (nI (R + 1)), fun d => ⟨Fr.i 0 (Fr.tr (Fr.i 5 Fr.rf (by decide)) (Fr.sub a2 (by decide))) (by decide), Fo.i 6 (fun x _ => by rw [(a2 0 (by decide)).1, u_i_o (by decide)]) (by decide), fun e _ => ?_, fun i hi => ?_, fun x hx => ?_⟩, u_i_e, ?_, ?_, fun s hs => ?_, fun M2 h2 => ⟨?_, fun d x5 hd hd2 => ?_⟩⟩
  · refine ⟨?_, ?_, ?_⟩
    · rw [u_i_o (by decide), (a2 8 (by decide)).1, u_i_o (by decide)]
    · rw [u_i_o (by decide), (a2 9 (by decide)).1, u_i_o (by decide)]
    · rw [u_i_o (by decide), (a2 10 (by decide)).1, u_i_o (by decide)]
  · rw [u_i_o (by decide), (a2 5 (by decide)).1, u_i_k (by omega)]
  · rw [u_i_o (by decide), a4 x (by omega), u_i_o (by decide)]
  · rw [u_i_k (by decide), (a2 0 (by decide)).1, u_i_o (by decide)]
  · rw [u_i_o (by decide), (a2 5 (by decide)).1, u_i_e]
  · rw [u_i_o (by decide)]; exact a3 s hs
  · unfold Mo_faultOf_L36_J252 Mo_faultOf_L36_J382
    rw [hR, ck_in hR2 (by omega), ix_nI (by omega), blank, a1, Option.bind_some, p6, nI_1, h2, Option.bind_some, if_neg one_ne]
  · unfold Mo_faultOf_L36_J252 Mo_faultOf_L36_J361 Mo_faultOf_L36_J382
    have b0 : ∀ (Q : QM) (o j : Nat) (v : Int32), 0 ≠ o → (u_i Q o j v).1 0 10 = Q.1 0 10 := fun Q o j v h => by rw [u_i_o h]
    rw [hR, ck_in hR2 (by omega), ix_nI (by omega), blank, a1, Option.bind_some, p6, nI_1, h2, Option.bind_some, if_pos rfl]
    simp only [b0 _ 9 _ _ (show 0 ≠ 9 by decide), b0 _ 10 _ _ (show 0 ≠ 10 by decide), b0 _ 8 _ _ (show 0 ≠ 8 by decide)]
    rw [hd, ck_in hd2 (by omega), ck_in hd2 (by omega), ck_in hd2 (by omega), ix_nI (by omega), nI_1]
    unfold opn
    by_cases c1 : x5 = 0
    · rw [if_pos c1, if_pos c1]
      by_cases c2 : c = 42
      · rw [if_pos c2, if_pos c2]
      · rw [if_neg c2, if_neg c2, ck_in hd2 (by omega), ck_in hd2 (by omega)]
    · rw [if_neg c1, if_neg c1, ck_in hd2 (by omega), ck_in hd2 (by omega)]
end TX1
