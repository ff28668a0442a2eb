/-! JOIN: one look of the program that landed -/
theorem bind_eta {α β : Type} (x : Option (α × β)) : Option.bind x (fun q => some (q.1, q.2)) = x := by cases x <;> rfl
theorem bind_eta1 {α : Type} (x : Option α) : Option.bind x (fun q => some q) = x := by cases x <;> rfl
theorem upf_comm {g : Nat → Nat} {a b x y : Nat} (h : a ≠ b) : upf (upf g a x) b y = upf (upf g b y) a x := by
  funext z
  unfold upf
  by_cases e1 : z = b
  · subst e1; rw [if_pos rfl, if_neg (fun e => h e.symm), if_pos rfl]
  · rw [if_neg e1, if_neg e1]
theorem upd2_ne {D : Nat → Nat → Nat} {n s v a b : Nat} (h : ¬ (a = n ∧ b = s)) : upd2 D n s v a b = D a b := by unfold upd2; rw [if_neg h]
theorem upd2_e {D : Nat → Nat → Nat} {n s v : Nat} : upd2 D n s v n s = v := by unfold upd2; rw [if_pos ⟨rfl, rfl⟩]
section JN3
variable {M M0 : QM} {N A : Nat} {sg : Nat → Int32} {pt : Nat → Nat → Option Nat} {nm : Nat → Option Nat} {f : Nat → Tq} {na nx : Nat → Nat} {D D2 : Nat → Nat → Nat} {K : List Nat}
theorem jP_up {n s : Nat} (hn : N ≤ n) (hx : nx n = s) (hD2 : ∀ a b, ¬ (a = n ∧ b = s) → D2 a b = D a b) (a b : Nat) : jP N sg pt f (upf nx n (s + 1)) D2 a b = if a = n ∧ b = s then jx (jtk sg pt (f n) s) (D2 n s) (jkp sg pt (f n) s) else jP N sg pt f nx D a b := by
  unfold jP
  by_cases c : a < N
  · rw [if_pos c, if_neg (by omega), if_pos c]
  · rw [if_neg c, if_neg c]
    by_cases e : a = n
    · subst e
      rw [upf_e, hx]
      by_cases e2 : b = s
      · subst e2; rw [if_pos (by omega), if_pos ⟨rfl, rfl⟩]
      · rw [if_neg (show ¬ (a = a ∧ b = s) from fun h => e2 h.2)]
        by_cases c3 : b < s
        · rw [if_pos (by omega), if_pos c3, hD2 a b (fun h => e2 h.2)]
        · rw [if_neg (by omega), if_neg c3]
    · rw [upf_ne e, if_neg (show ¬ (a = n ∧ b = s) from fun h => e h.1), hD2 a b (fun h => e h.1)]
theorem icp_sign (hW : WF N sg pt nm) {q : Tq} (h : Icp N sg pt q) (e : sg q.1 = sg q.2.1) : sg q.1 = 123 ∨ sg q.1 = 91 ∨ sg q.1 = 42 ∨ sg q.1 = 62 := by
  apply Classical.byContradiction
  intro hno
  have hp := hW.2.2.2.2.2.2 q.1 h.1 (fun z => hno (by rw [z]; decide)) (fun z => hno (by rw [z]; decide)) (fun z => hno (by rw [z]; decide)) (fun z => hno (by rw [z]; decide))
  refine h.2.2.2.1 (fun r hd => ?_)
  have hm : ¬ mis sg pt q.1 q.2.1 := by
    rintro ⟨-, z | ⟨z, -⟩ | ⟨z, -⟩⟩
    · exact z e
    · exact hno (Or.inl z)
    · exact hno (Or.inr (Or.inl z))
  cases r with
  | zero => exact hm hd
  | succ r =>
    rcases hd with z | ⟨s, a, b, -, hb, -⟩
    · exact hm z
    · obtain ⟨x, y, h1, -⟩ := beh_inv hb
      rw [hp s] at h1
      cases h1
theorem jo_keeps {x : Int32} {w : Nat} (hw : w < 2) : Jo_keepsAll x (nI w) M = some (if x = 123 ∧ w = 1 ∨ x = 91 ∧ w = 0 then 1 else 0) := by
  unfold Jo_keepsAll Jo_keepsAll_J11
  have : w = 0 ∨ w = 1 := by omega
  by_cases c1 : x = 123
  · subst c1
    rcases this with rfl | rfl <;> rfl
  · by_cases c2 : x = 91
    · subst c2
      rcases this with rfl | rfl <;> rfl
    · rw [if_neg c1, if_neg c2, if_neg (by rintro (⟨h, -⟩ | ⟨h, -⟩); exact c1 h; exact c2 h)]
theorem jo_has {x : Int32} : Jo_hasParts x M = some (if x = 123 ∨ x = 91 ∨ x = 42 ∨ x = 62 then 1 else 0) := by
  unfold Jo_hasParts
  by_cases c1 : x = 123
  · rw [if_pos c1, if_pos (Or.inl c1)]
  · rw [if_neg c1]
    by_cases c2 : x = 91
    · rw [if_pos c2, if_pos (Or.inr (Or.inl c2))]
    · rw [if_neg c2]
      by_cases c3 : x = 42
      · rw [if_pos c3, if_pos (Or.inr (Or.inr (Or.inl c3)))]
      · rw [if_neg c3]
        by_cases c4 : x = 62
        · rw [if_pos c4, if_pos (Or.inr (Or.inr (Or.inr c4)))]
        · rw [if_neg c4, if_neg (by rintro (h | h | h | h); exact c1 h; exact c2 h; exact c3 h; exact c4 h)]
theorem jtk_v {q : Tq} {s : Nat} {t : Tq} (hW : WF N sg pt nm) (h1 : q.1 < N) (h2 : q.2.1 < N) (h3 : q.2.2 < 2) (h : jtk sg pt q s = some t) : t.1 < N ∧ t.2.1 < N ∧ t.2.2 < 2 := by
  unfold jtk at h
  by_cases c : sg q.1 = sg q.2.1
  · rw [if_pos c] at h
    cases e1 : pt q.1 s with
    | none => rw [e1] at h; cases h
    | some a =>
      cases e2 : pt q.2.1 s with
      | none => rw [e1, e2] at h; cases h
      | some b =>
        rw [e1, e2] at h
        cases h
        refine ⟨(hW.2.2.1 _ _ _ h1 e1).1, (hW.2.2.1 _ _ _ h2 e2).1, ?_⟩
        show (if sg q.1 = 62 ∧ s = 0 then 1 - q.2.2 else q.2.2) < 2
        split <;> omega
  · rw [if_neg c] at h; cases h
theorem jo_part (hW : WF N sg pt nm) (hNA : N ≤ A) (hA : A ≤ 60) {n s : Nat} (hn : N ≤ n) (hn2 : n < A) (hs : s < 8) (hi : Icp N sg pt (f n)) (hJ : JK M0 M N sg pt nm A f na nx D K) :
    (jtk sg pt (f n) s = none ∧ Jo_partFor (nI n) (nI s) M = some (enc (jkp sg pt (f n) s), M)) ∨
    (∃ t, jtk sg pt (f n) s = some t ∧ Jo_partFor (nI n) (nI s) M = Jo_nodeFor (nI t.1) (nI t.2.1) (nI t.2.2) M) := by
  have hN := hW.1
  have hi' := hi
  obtain ⟨q1, q2, q3, -, -⟩ := hi
  obtain ⟨k1, k2, k3, -⟩ := hJ.2.2.2.2.2.1 n hn hn2
  have sgn := kn_sign hJ.1 hA hn2
  rw [jS_new hn] at sgn
  have p1 : Ne_partAt (nI (f n).1) (nI s) M = some (enc (pt (f n).1 s)) := by rw [kn_part hJ.1 hA (by omega) hs, jP_old q1]
  have p2 : Ne_partAt (nI (f n).2.1) (nI s) M = some (enc (pt (f n).2.1 s)) := by rw [kn_part hJ.1 hA (by omega) hs, jP_old q2]
  unfold Jo_partFor
  rw [if_neg (nI_pos (by omega)), if_neg (show ¬ (60 : Int32) ≤ nI n by rw [l_60, nI_leI (by omega) (by omega)]; omega), sgn, Option.bind_some, jo_has, Option.bind_some]
  by_cases c : sg (f n).1 = sg (f n).2.1
  · have hsg : jsg sg (f n) = sg (f n).1 := by unfold jsg; rw [if_pos c]
    rw [hsg, if_pos (icp_sign hW hi' c), if_neg one_ne, ck_in (by omega) (by omega), ix_nI (by omega), k1, k2, p1, Option.bind_some, ck_in (by omega) (by omega), p2, Option.bind_some]
    have j126 : ∀ x3 x4 : Int32, Jo_partFor_J126 (nI n) x3 x4 M = if sg (f n).1 = 123 ∧ (f n).2.2 = 1 ∨ sg (f n).1 = 91 ∧ (f n).2.2 = 0 then some (if x3 < x4 then x4 else x3, M) else some (-6, M) := by
      intro x3 x4
      unfold Jo_partFor_J126
      rw [sgn, Option.bind_some, hsg, ck_in (by omega) (by omega), ix_nI (by omega), k3, jo_keeps q3, Option.bind_some]
      by_cases d : sg (f n).1 = 123 ∧ (f n).2.2 = 1 ∨ sg (f n).1 = 91 ∧ (f n).2.2 = 0
      · rw [if_pos d, if_pos d, if_neg one_ne]
      · rw [if_neg d, if_neg d, if_pos rfl]
    cases e1 : pt (f n).1 s with
    | none =>
      have t0 : jtk sg pt (f n) s = none := by unfold jtk; rw [if_pos c, e1]
      refine Or.inl ⟨t0, ?_⟩
      rw [enc_none, if_pos rfl, j126]
      unfold jkp
      by_cases d : sg (f n).1 = 123 ∧ (f n).2.2 = 1 ∨ sg (f n).1 = 91 ∧ (f n).2.2 = 0
      · rw [if_pos d, if_pos (show sg (f n).1 = sg (f n).2.1 ∧ (sg (f n).1 = 123 ∧ (f n).2.2 = 1 ∨ sg (f n).1 = 91 ∧ (f n).2.2 = 0) from ⟨c, d⟩), e1]
        cases e2 : pt (f n).2.1 s with
        | none => rfl
        | some b =>
          have := (hW.2.2.1 _ _ _ q2 e2).1
          rw [enc_some, if_pos (show (-6 : Int32) < nI b by rw [i_lt, nI_toInt (by omega)]; have : (-6 : Int32).toInt = -6 := by decide
                                                            omega)]
      · rw [if_neg d, if_neg (fun z => d z.2)]; rfl
    | some a =>
      have la := (hW.2.2.1 _ _ _ q1 e1).1
      rw [enc_some, if_neg (nI_neg6 (by omega))]
      cases e2 : pt (f n).2.1 s with
      | none =>
        have t0 : jtk sg pt (f n) s = none := by unfold jtk; rw [if_pos c, e1, e2]
        refine Or.inl ⟨t0, ?_⟩
        rw [enc_none, if_pos rfl, j126]
        unfold jkp
        by_cases d : sg (f n).1 = 123 ∧ (f n).2.2 = 1 ∨ sg (f n).1 = 91 ∧ (f n).2.2 = 0
        · rw [if_pos d, if_pos (show sg (f n).1 = sg (f n).2.1 ∧ (sg (f n).1 = 123 ∧ (f n).2.2 = 1 ∨ sg (f n).1 = 91 ∧ (f n).2.2 = 0) from ⟨c, d⟩), e1, e2]
          rw [if_neg (show ¬ nI a < (-6 : Int32) by rw [i_lt, nI_toInt (by omega)]; have : (-6 : Int32).toInt = -6 := by decide
                                                    omega)]
          rfl
        · rw [if_neg d, if_neg (fun z => d z.2)]; rfl
      | some b =>
        have lb := (hW.2.2.1 _ _ _ q2 e2).1
        have t0 : jtk sg pt (f n) s = some (a, b, if sg (f n).1 = 62 ∧ s = 0 then 1 - (f n).2.2 else (f n).2.2) := by unfold jtk; rw [if_pos c, e1, e2]
        refine Or.inr ⟨_, t0, ?_⟩
        rw [enc_some, if_neg (nI_neg6 (by omega)), Option.bind_some]
        unfold Jo_partFor_J92 Jo_partFor_J93 Jo_partFor_J122 Jo_turn
        rw [bind_eta, if_neg one_ne, if_pos (show (0 : Int32) = 0 from rfl), ck_in (by omega) (by omega), ck_in (by omega) (by omega), ix_nI (by omega), k3]
        by_cases d1 : sg (f n).1 = 62
        · rw [if_pos d1]
          by_cases d2 : s = 0
          · rw [if_pos (show nI s = 0 by rw [d2]; rfl), if_pos (show sg (f n).1 = 62 ∧ s = 0 from ⟨d1, d2⟩)]
            have : (f n).2.2 = 0 ∨ (f n).2.2 = 1 := by omega
            rcases this with z | z <;> rw [z]
            · rw [if_pos (show nI 0 = 0 from rfl), Option.bind_some, bind_eta]; rfl
            · rw [if_neg (by decide), Option.bind_some, bind_eta]; rfl
          · rw [if_neg (show ¬ nI s = 0 from fun h => d2 ((nI_eq (b := 0) (by omega) (by omega)).mp h)), if_neg (fun z => d2 z.2)]
        · rw [if_neg d1, if_neg (fun z => d1 z.1)]
  · have hsg : ¬ (jsg sg (f n) = 123 ∨ jsg sg (f n) = 91 ∨ jsg sg (f n) = 42 ∨ jsg sg (f n) = 62) := by
      unfold jsg
      rw [if_neg c]
      split <;> decide
    rw [if_neg hsg, if_pos rfl]
    refine Or.inl ⟨by unfold jtk; rw [if_neg c], ?_⟩
    unfold jkp
    rw [if_neg (fun z => c z.1)]
    rfl
end JN3
