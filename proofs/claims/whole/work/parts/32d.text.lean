/-! TEXT: the reference, a kind begun; letters -/
section TX2
variable {M M2 : QM} {pn k R d : Nat} {sp : Nat → Int32} {t : Tgt}
theorem TgA_10 (h : TgA M d t) : M.1 0 10 = nI d := by
  cases t with
  | inl ow => obtain ⟨h1, h2, -⟩ := h; rw [h1]; exact h2
  | inr t =>
    obtain ⟨own, s, nd⟩ := t
    obtain ⟨e, h1, h2, -⟩ := h
    exact h2
theorem Came_keep {v : Int32} (h : Came M M2 d t v) : M2.1 0 = M.1 0 ∧ M2.1 1 = M.1 1 ∧ M2.1 5 = M.1 5 ∧ M2.1 8 = M.1 8 ∧ M2.1 10 = M.1 10 :=
  ⟨(h.1 0 (by decide)).1, (h.1 1 (by decide)).1, (h.1 5 (by decide)).1, (h.1 8 (by decide)).1, (h.1 10 (by decide)).1⟩
theorem Came_6 {v : Int32} {Mt : QM} (h : Came M M2 d t v) (hT : TgA Mt d t) (hR : ∀ own s nd, t = .inr (own, s, nd) → own < R) {x : Nat} (hx : 8 * R ≤ x) : M2.1 6 x = M.1 6 x := by
  cases t with
  | inl ow => rw [h.2.2.1]
  | inr t =>
    obtain ⟨own, s, nd⟩ := t
    obtain ⟨e, h1, h2, h3, h4, h5, -⟩ := hT
    have := hR own s nd rfl
    exact h.2.2.2.2.1 x (by omega)
theorem ref_name (h : PdM M pn sp) (hp : pn ≤ 100) (hk : k < pn) {x : Nat} (hx : x < 8) (hc : sp k = nI (65 + x)) (hT : TgA M d t) (hd : d ≤ 16) : ∃ M2, It 2 k M = Gs (k + 1) M2 ∧ RF M M2 d R t (100 + x) ∧ M2.1 0 6 = M.1 0 6 := by
  obtain ⟨M2, a1, a2⟩ := mo_come hd hT (nI (100 + x))
  have h10 : M2.1 0 10 = nI d := by rw [(Came_keep a2).1]; exact TgA_10 hT
  obtain ⟨b, hb⟩ := se_ex hd h10
  refine ⟨M2, itx_5 (by omega) hb ?_, ⟨M, M2, Hi_rf, a2, Hi_rf, h10⟩, by rw [(Came_keep a2).1]⟩
  rw [m2_name h hp hk hx hc, a1, Option.bind_some]
theorem ref_plain (h : PdM M pn sp) (hp : pn ≤ 100) (hk : k < pn) (hc : sp k = 110 ∨ sp k = 116 ∨ sp k = 115 ∨ sp k = 46 ∨ sp k = 33) (hT : TgA M d t) (hR : ∀ own s nd, t = .inr (own, s, nd) → own < R) (hd : d ≤ 16) (h6 : M.1 0 6 = nI R) (hR2 : R < 100) :
    ∃ M2, It 2 k M = Gs (k + 1) M2 ∧ RF M M2 d R t R ∧ M2.1 0 6 = nI (R + 1) ∧ M2.1 5 R = sp k ∧ ∀ s, s < 8 → M2.1 6 (8 * R + s) = -6 := by
  obtain ⟨M1, n1, n2, n3, n4, n5, n6⟩ := m_node h6 hR2 (sp k) k
  have hT1 := Tg_hi hT hR (n1 d) n3
  obtain ⟨M2, a1, a2⟩ := mo_come hd hT1 (nI R)
  have h10 : M2.1 0 10 = nI d := by rw [(Came_keep a2).1]; exact TgA_10 hT1
  obtain ⟨b, hb⟩ := se_ex hd h10
  refine ⟨M2, itx_5 (by omega) hb ?_, ⟨M1, M2, n1 d, a2, Hi_rf, h10⟩, by rw [(Came_keep a2).1]; exact n2, by rw [(Came_keep a2).2.2.1]; exact n4, fun s hs => by rw [Came_6 a2 hT1 hR (by omega)]; exact n5 s hs⟩
  rw [m2_plain h hp hk hc]
  exact (n6 M2 a1).1
/-- a node with parts is begun -/
def Opn (M M3 : QM) (pn k R d : Nat) (sp : Nat → Int32) (t : Tgt) (nd : Int32) : Prop :=
  It 2 k M = It (if nd = 100 then 3 else 2) (k + 1) M3 ∧ M3.1 0 10 = nI (d + 1) ∧ M3.1 0 6 = nI (R + 1) ∧ M3.1 8 d = nI R ∧ M3.1 9 d = nd ∧ M3.1 10 d = -1 ∧ M3.1 5 R = sp k ∧ (∀ s, s < 8 → M3.1 6 (8 * R + s) = -6) ∧ PdM M3 pn sp ∧ ∀ M4, Hi M3 M4 d R → M4.1 0 10 = nI d → RF M M4 d R t R
theorem ref_open (h : PdM M pn sp) (hp : pn ≤ 100) (hk : k < pn) {nd : Int32} (hc : (nd = 100 ∧ (sp k = 123 ∨ sp k = 91)) ∨ (d < 12 ∧ ((nd = 1 ∧ sp k = 42) ∨ (nd = 2 ∧ sp k = 62)))) (hT : TgA M d t) (hR : ∀ own s nd, t = .inr (own, s, nd) → own < R) (hd : d < 16) (h6 : M.1 0 6 = nI R) (hR2 : R < 100) :
    ∃ M3, Opn M M3 pn k R d sp t nd := by
  obtain ⟨M1, n1, n2, n3, n4, n5, n6⟩ := m_node h6 hR2 (sp k) k
  have hT1 := Tg_hi hT hR (n1 d) n3
  obtain ⟨M2, a1, a2⟩ := mo_come (by omega) hT1 (nI R)
  have h10 : M2.1 0 10 = nI d := by rw [(Came_keep a2).1]; exact TgA_10 hT1
  have g10 : (opn M2 d R nd).1 0 10 = nI (d + 1) := u_i_e
  have g9 : (opn M2 d R nd).1 9 d = nd := by unfold opn; rw [u_i_o (by decide), u_i_o (by decide), u_i_e]
  have hH : Hi M2 (opn M2 d R nd) d R := by
    unfold opn
    exact Hi_tr (Hi_tr (Hi_tr (Hi_8 _ (Nat.le_refl d)) (Hi_9 _ (Nat.le_refl d))) (Hi_A _ (Nat.le_refl d))) (Hi_10 _)
  have key : Mo_faultOf_B36 (2, nI k, M) = Mo_faultOf_L36_J522 (nI k) 5 (opn M2 d R nd) := by
    rcases hc with ⟨e1, e2⟩ | ⟨e0, ⟨e1, e2⟩ | ⟨e1, e2⟩⟩
    · rw [m2_both h hp hk e2, (n6 M2 a1).2 d 1 h10 hd, if_neg one_ne, e1]
    · rw [m2_needs h hp hk (Or.inl e2) (TgA_10 hT) e0, (n6 M2 a1).2 d 0 h10 hd, if_pos rfl, if_pos e2, e1]
    · rw [m2_needs h hp hk (Or.inr e2) (TgA_10 hT) e0, (n6 M2 a1).2 d 0 h10 hd, if_pos rfl, if_neg (by rw [e2]; decide), e1]
  have hnd : nd ≠ 0 := by
    rcases hc with ⟨e1, -⟩ | ⟨-, ⟨e1, -⟩ | ⟨e1, -⟩⟩ <;> rw [e1] <;> decide
  refine ⟨opn M2 d R nd, ?_, g10, ?_, ?_, g9, ?_, ?_, fun s hs => ?_, ?_, fun M4 q1 q2 => ⟨M1, M2, n1 d, a2, Hi_tr hH q1, q2⟩⟩
  · rw [itx_5 (by omega) (se_n hd g10 (by rw [g9]; exact hnd)) key, gs_need hd g10 (by rw [g9]; exact hnd), g9]
  · unfold opn
    rw [u_i_k (by decide), u_i_o (by decide), u_i_o (by decide), u_i_o (by decide), (Came_keep a2).1]; exact n2
  · unfold opn
    rw [u_i_o (by decide), u_i_o (by decide), u_i_o (by decide), u_i_e]
  · unfold opn
    rw [u_i_o (by decide), u_i_e]
  · unfold opn
    rw [u_i_o (by decide), u_i_o (by decide), u_i_o (by decide), u_i_o (by decide), (Came_keep a2).2.2.1]; exact n4
  · unfold opn
    rw [u_i_o (by decide), u_i_o (by decide), u_i_o (by decide), u_i_o (by decide), Came_6 a2 hT1 hR (by omega)]; exact n5 s hs
  · refine PdM_fr (T := [0, 5, 6, 7, 8, 9, 10]) (F := [6, 10]) h (Fr.tr (Fr.sub (n1 d).1 (by decide)) (Fr.tr (Fr.sub a2.1 (by decide)) (Fr.sub hH.1 (by decide)))) (Fo.tr (n1 d).2.1 (Fo.tr (fun x _ => by rw [(Came_keep a2).1]) hH.2.1)) (by decide) (by decide)
/-! letters -/
theorem low1 {low : Nat} (h : low ≤ 8) : (nI low - 1).toInt = (low : Int) - 1 := by
  have : ∀ l : Nat, l < 9 → (nI l - 1).toInt = (l : Int) - 1 := by decide
  exact this low (by omega)
theorem b36_3 (h : PdM M pn sp) (hp : pn ≤ 100) (hk : k < pn) (h10 : M.1 0 10 = nI (d + 1)) (hd : d < 16) (h8 : M.1 8 d = nI R) (hR : R < 100) : Mo_faultOf_B36 (3, nI k, M) = Mo_faultOf_L36_J420 (nI k) (sp k) (-6) (nI d) (if M.1 5 R = 123 then 1 else 0) M := by
  unfold Mo_faultOf_B36
  dsimp only
  rw [h.1, if_neg (show ¬ nI pn ≤ nI k by rw [nI_leI (by omega) (by omega)]; omega), ck_in (by omega) (by omega), ix_nI (by omega), h.2 k hk, if_neg (show ¬ (3 : Int32) = 0 by decide), if_neg (show ¬ (3 : Int32) = 1 by decide), if_neg (show ¬ (3 : Int32) = 2 by decide), if_pos rfl, h10, nI_pred1 (by omega), Nat.add_sub_cancel, ck_in hd (by omega), ix_nI (by omega), h8, ck_in hR (by omega), ix_nI (by omega)]
  split <;> rfl
theorem m3_letter (h : PdM M pn sp) (hp : pn ≤ 100) (hk : k < pn) (h10 : M.1 0 10 = nI (d + 1)) (hd : d < 12) (h8 : M.1 8 d = nI R) (hR : R < 100) {low s : Nat} (hl : M.1 10 d = nI low - 1) (hs : s < 8) (hls : low ≤ s) (hc : sp k = nI (97 + s)) : It 3 k M = It 2 (k + 1) (u_i M 10 d (nI s)) := by
  refine it_go (by omega) ?_ (by decide) (by decide)
  rw [b36_3 h hp hk h10 (by omega) h8 hR, hc]
  unfold Mo_faultOf_L36_J420 Mo_faultOf_L36_J500
  have hin := mo_in_1 (M := M) (c := 97 + s) (a := 97) (b := 104) (by omega) (by decide) (by decide)
  rw [if_pos (show 97 ≤ 97 + s ∧ 97 + s ≤ 104 by omega)] at hin
  have e : nI (97 + s) - 97 = nI s := by
    rw [show (97 : Int32) = nI 97 from rfl, nI_sub (by omega)]
    congr 1
    omega
  rw [show Mo_in (nI (97 + s)) 97 104 M = some 1 from hin, Option.bind_some, if_neg one_ne, ck_in (by omega) (by omega), ck_in (by omega) (by omega), ix_nI (by omega), hl, e, if_neg (show ¬ nI s ≤ nI low - 1 by rw [i_le, nI_toInt (by omega), low1 (by omega)]; omega), h10, if_neg (show ¬ (12 : Int32) < nI (d + 1) by rw [l_12, nI_ltI (by omega) (by omega)]; omega)]
theorem m3_close (h : PdM M pn sp) (hp : pn ≤ 100) (hk : k < pn) (h10 : M.1 0 10 = nI (d + 1)) (hd : d < 16) (h8 : M.1 8 d = nI R) (hR : R < 100) (hc : (M.1 5 R = 123 ∧ sp k = 125) ∨ (M.1 5 R = 91 ∧ sp k = 93)) : It 3 k M = Gs (k + 1) (u_i M 9 d 0) := by
  obtain ⟨b, hb⟩ := se_ex (M := u_i M 9 d 0) (d := d + 1) (by omega) (by rw [u_i_o (by decide)]; exact h10)
  refine itx_5 (by omega) hb ?_
  rw [b36_3 h hp hk h10 hd h8 hR]
  have key : Mo_faultOf_L36_J420 (nI k) (sp k) (-6) (nI d) (if M.1 5 R = 123 then 1 else 0) M = Mo_faultOf_L36_J486 (nI k) (-6) (nI d) (sp k) (sp k) M := by
    rcases hc with ⟨e1, e2⟩ | ⟨e1, e2⟩ <;> rw [e1, e2] <;> rfl
  rw [key]
  unfold Mo_faultOf_L36_J486 Mo_faultOf_L36_J500
  rw [if_pos rfl, ck_in hd (by omega), ix_nI (by omega)]
theorem m3_bad (h : PdM M pn sp) (hp : pn ≤ 100) (hk : k < pn) (h10 : M.1 0 10 = nI (d + 1)) (hd : d ≤ 12) (h8 : M.1 8 d = nI R) (hR : R < 100) {low : Nat} (hl : M.1 10 d = nI low - 1) (hlow : low ≤ 8) (hc : (M.1 5 R = 123 ∧ sp k ≠ 125) ∨ (M.1 5 R = 91 ∧ sp k ≠ 93)) (hs : ∀ s, s < 8 → low ≤ s → d < 12 → sp k ≠ nI (97 + s)) : Fl (It 3 k M) k := by
  refine it_bad (by omega) ?_
  rw [b36_3 h hp hk h10 (by omega) h8 hR]
  have key : Mo_faultOf_L36_J473 (nI k) (sp k) (-6) (nI d) (if M.1 5 R = 123 then 1 else 0) M = Mo_faultOf_L36_J522 (nI k) (-6) M := by
    unfold Mo_faultOf_L36_J473 Mo_faultOf_L36_J486 Mo_faultOf_L36_J500
    rcases hc with ⟨e1, e2⟩ | ⟨e1, e2⟩
    · rw [e1, if_pos rfl, if_neg one_ne, if_neg e2]
    · rw [e1, if_neg (show ¬ (91 : Int32) = 123 by decide), if_pos rfl, if_neg e2]
  unfold Mo_faultOf_L36_J420
  rcases nd_cases (sp k - 97) 8 (by omega) with ⟨s, hs8, hsp⟩ | hsp
  · have hsp' : sp k = nI (97 + s) := by
      rw [← nI_add, ← hsp, show nI 97 = (97 : Int32) from rfl, Int32.add_comm, Int32.sub_add_cancel]
    have hin := mo_in_1 (M := M) (c := 97 + s) (a := 97) (b := 104) (by omega) (by decide) (by decide)
    rw [if_pos (show 97 ≤ 97 + s ∧ 97 + s ≤ 104 by omega), ← hsp'] at hin
    rw [show Mo_in (sp k) 97 104 M = some 1 from hin, Option.bind_some, if_neg one_ne, ck_in (by omega) (by omega), ix_nI (by omega), hl, hsp]
    by_cases c : low ≤ s
    · rw [if_neg (show ¬ nI s ≤ nI low - 1 by rw [i_le, nI_toInt (by omega), low1 (by omega)]; omega), h10]
      have hd12 : ¬ d < 12 := fun z => hs s hs8 c z hsp'
      rw [if_pos (show (12 : Int32) < nI (d + 1) by rw [l_12, nI_ltI (by omega) (by omega)]; omega)]
      exact key
    · rw [if_pos (show nI s ≤ nI low - 1 by rw [i_le, nI_toInt (by omega), low1 (by omega)]; omega)]
      exact key
  · have hin : Mo_in (sp k) 97 104 M = some 0 := by
      unfold Mo_in
      by_cases c : sp k < 97
      · rw [if_pos c]
      · rw [if_neg c]
        by_cases c2 : (104 : Int32) < sp k
        · rw [if_pos c2]
        · exfalso
          have e1 : (97 : Int32).toInt = 97 := by decide
          have e2 : (104 : Int32).toInt = 104 := by decide
          rw [i_lt, e1] at c
          rw [i_lt, e2] at c2
          obtain ⟨m, hm, hm2⟩ : ∃ m : Nat, m < 8 ∧ sp k = nI (97 + m) := by
            refine ⟨((sp k).toInt - 97).toNat, by omega, ?_⟩
            rw [i_eq, nI_toInt (by omega)]
            omega
          apply hsp
          have e3 : sp k - 97 = nI m := by
            rw [hm2, show (97 : Int32) = nI 97 from rfl, nI_sub (by omega)]
            congr 1
            omega
          rw [e3, nI_toInt (by omega)]
          omega
    rw [hin, Option.bind_some, if_pos rfl]
    exact key
end TX2
