/-! JOIN: the reference, its stack and its shapes -/
def enA (x : Option Nat) : Int32 := match x with
  | none => -1
  | some j => nI j
def StkM (M : QM) : List (Tq × Option Nat) → Prop
  | [] => True
  | t :: T => M.1 15 T.length = nI (2 * (60 * t.1.1 + t.1.2.1) + t.1.2.2) ∧ M.1 16 T.length = enA t.2 ∧ StkM M T
theorem StkM_eq {M M2 : QM} {T : List (Tq × Option Nat)} (h : StkM M T) (e : ∀ x, x < T.length → M2.1 15 x = M.1 15 x ∧ M2.1 16 x = M.1 16 x) : StkM M2 T := by
  induction T with
  | nil => trivial
  | cons t T ih => exact ⟨by rw [(e T.length (by simp)).1]; exact h.1, by rw [(e T.length (by simp)).2]; exact h.2.1, ih h.2.2 (fun x hx => e x (by simp; omega))⟩
/-- what is asked for at the last r slots -/
def tks (sg : Nat → Int32) (pt : Nat → Nat → Option Nat) (q : Tq) (n : Nat) : Nat → List (Tq × Option Nat)
  | 0 => []
  | r + 1 => (match jtk sg pt q (7 - r) with
    | some t => [(t, some (8 * n + (7 - r)))]
    | none => []) ++ tks sg pt q n r
def jy (o : Option Tq) (k : Option Nat) : Option Nat := match o with
  | some _ => none
  | none => k
section JN5
variable {M M0 : QM} {N A : Nat} {sg : Nat → Int32} {pt : Nat → Nat → Option Nat} {nm : Nat → Option Nat} {f : Nat → Tq} {T : List (Tq × Option Nat)} {q : Tq}
theorem tks_none {n r : Nat} (h : jtk sg pt q (7 - r) = none) : tks sg pt q n (r + 1) = tks sg pt q n r := by
  rw [tks, h]; rfl
theorem tks_some {n r : Nat} {t : Tq} (h : jtk sg pt q (7 - r) = some t) : tks sg pt q n (r + 1) = (t, some (8 * n + (7 - r))) :: tks sg pt q n r := by
  rw [tks, h]; rfl
theorem tks_nil {n : Nat} : ∀ r, r ≤ 8 → (∀ s, 8 - r ≤ s → s < 8 → jtk sg pt q s = none) → tks sg pt q n r = [] := by
  intro r
  induction r with
  | zero => intro _ _; rfl
  | succ r ih =>
    intro hr h
    rw [tks_none (h (7 - r) (by omega) (by omega))]
    exact ih (by omega) (fun s h1 h2 => h s (by omega) h2)
theorem tks_len {n : Nat} : ∀ r, (tks sg pt q n r).length ≤ r := by
  intro r
  induction r with
  | zero => exact Nat.le_refl 0
  | succ r ih =>
    cases h : jtk sg pt q (7 - r) with
    | none => rw [tks_none h]; omega
    | some t => rw [tks_some h, List.length_cons]; omega
theorem mo_wait (h : M.1 0 21 = nI T.length) (hs : StkM M T) (hl : T.length < 600) (a b w : Nat) (x : Option Nat) :
    ∃ M2, Mo_waitFor (nI a) (nI b) (nI w) (enA x) M = some M2 ∧ M2.1 0 21 = nI (T.length + 1) ∧ StkM M2 (((a, b, w), x) :: T) ∧ Fr [0, 15, 16] M M2 ∧ Fo [21] M M2 := by
  unfold Mo_waitFor
  have b0 : ∀ (P : QM) (o k : Nat) (v : Int32), 0 ≠ o → (u_i P o k v).1 0 21 = P.1 0 21 := fun P o k v h => by rw [u_i_o h]
  rw [b0 _ 16 _ _ (by decide), b0 _ 15 _ _ (by decide), h, ck_in hl (by omega), ck_in hl (by omega), ix_nI (by omega), nI_1, l_60, l_2, nI_mul, nI_add, nI_mul, nI_add]
  refine ⟨_, rfl, u_i_e, ⟨?_, ?_, StkM_eq hs (fun x hx => ⟨?_, ?_⟩)⟩, Fr.i 0 (Fr.i 16 (Fr.i 15 Fr.rf (by decide)) (by decide)) (by decide), Fo.i 21 (Fo.o 16 (Fo.o 15 Fo.rf (by decide)) (by decide)) (by decide)⟩
  · rw [u_i_o (by decide), u_i_o (by decide), u_i_e]
  · rw [u_i_o (by decide), u_i_e]
  · rw [u_i_o (by decide), u_i_o (by decide), u_i_k (by omega)]
  · rw [u_i_o (by decide), u_i_k (by omega), u_i_o (by decide)]
theorem mo_blank (x1 x2 x3 x5 x6 : Int32) (hA : A < 60) : ∃ M2, iter (Mo_shape_B93 x1 x2 x3 (nI A) x5 x6) FU ((0 : Int32), M) = some M2 ∧ Fr [3] M M2 ∧ (∀ s, s < 8 → M2.1 3 (8 * A + s) = -6) ∧ (∀ x, ¬ (8 * A ≤ x ∧ x < 8 * A + 8) → M2.1 3 x = M.1 3 x) := by
  obtain ⟨M2, b1, b2⟩ := iter_0 (B := Mo_shape_B93 x1 x2 x3 (nI A) x5 x6)
    (fun t v => ∃ M2, v = (nI t, M2) ∧ Fr [3] M M2 ∧ (∀ s, s < t → M2.1 3 (8 * A + s) = -6) ∧ (∀ x, ¬ (8 * A ≤ x ∧ x < 8 * A + 8) → M2.1 3 x = M.1 3 x))
    (fun M2 => Fr [3] M M2 ∧ (∀ s, s < 8 → M2.1 3 (8 * A + s) = -6) ∧ (∀ x, ¬ (8 * A ≤ x ∧ x < 8 * A + 8) → M2.1 3 x = M.1 3 x))
    8 (by omega)
    (by
      rintro t v ht ⟨M2, rfl, c1, c2, c3⟩
      refine Or.inl ⟨_, ?_, u_i M2 3 (8 * A + t) (-6), rfl, Fr.i 3 c1 (by decide), fun s hs => ?_, fun x hx => ?_⟩
      · unfold Mo_shape_B93
        dsimp only
        rw [if_neg (show ¬ (8 : Int32) ≤ nI t by rw [l_8, nI_leI (by omega) (by omega)]; omega), l_8, nI_mul, nI_add, ck_in (by omega) (by omega), ix_nI (by omega), nI_1]
      · by_cases e : s = t
        · subst e; exact u_i_e
        · rw [u_i_k (by omega)]; exact c2 s (by omega)
      · rw [u_i_k (by omega)]; exact c3 x hx)
    (by
      rintro v ⟨M2, rfl, c⟩
      refine ⟨M2, ?_, c⟩
      unfold Mo_shape_B93
      dsimp only
      rw [if_pos (show (8 : Int32) ≤ nI 8 by decide)]) (0, M) ⟨M, rfl, Fr.rf, fun s hs => by omega, fun _ _ => rfl⟩
  exact ⟨M2, b1, b2⟩
/-- the slots of two that have letters -/
theorem mo_slots (hW : WF N sg pt nm) (h1 : q.1 < N) (h2 : q.2.1 < N) (h3 : q.2.2 < 2) (hc : sg q.1 = sg q.2.1) (h62 : sg q.1 ≠ 62) (hNA : N ≤ A) (hA : A < 60) (hp : ∀ i s, i < N → s < 8 → M.1 3 (8 * i + s) = enc (pt i s)) (hb : ∀ s, s < 8 → M.1 3 (8 * A + s) = -6) (h21 : M.1 0 21 = nI T.length) (hS : StkM M T) (hl : T.length + 8 ≤ 600)
    {al : Int32} (hal : (al = 1 ∧ (sg q.1 = 123 ∧ q.2.2 = 1 ∨ sg q.1 = 91 ∧ q.2.2 = 0)) ∨ (al = 0 ∧ ¬ (sg q.1 = 123 ∧ q.2.2 = 1 ∨ sg q.1 = 91 ∧ q.2.2 = 0))) :
    ∃ M2, iter (Mo_shape_B273 (nI q.1) (nI q.2.1) (nI q.2.2) (nI A) al) FU ((7 : Int32), M) = some M2 ∧ M2.1 0 21 = nI (tks sg pt q A 8 ++ T).length ∧ StkM M2 (tks sg pt q A 8 ++ T) ∧ Fr [0, 3, 15, 16] M M2 ∧ Fo [21] M M2 ∧ (∀ s, s < 8 → M2.1 3 (8 * A + s) = enc (jy (jtk sg pt q s) (jkp sg pt q s))) ∧ (∀ x, ¬ (8 * A ≤ x ∧ x < 8 * A + 8) → M2.1 3 x = M.1 3 x) := by
  have hN := hW.1
  obtain ⟨M2, b1, b2⟩ := iter_0 (B := Mo_shape_B273 (nI q.1) (nI q.2.1) (nI q.2.2) (nI A) al)
    (fun r v => ∃ M2, v = (nI (8 - r) - 1, M2) ∧ M2.1 0 21 = nI (tks sg pt q A r ++ T).length ∧ StkM M2 (tks sg pt q A r ++ T) ∧ Fr [0, 3, 15, 16] M M2 ∧ Fo [21] M M2 ∧ (∀ s, s < 8 → M2.1 3 (8 * A + s) = if 8 - r ≤ s then enc (jy (jtk sg pt q s) (jkp sg pt q s)) else -6) ∧ (∀ x, ¬ (8 * A ≤ x ∧ x < 8 * A + 8) → M2.1 3 x = M.1 3 x))
    (fun M2 => M2.1 0 21 = nI (tks sg pt q A 8 ++ T).length ∧ StkM M2 (tks sg pt q A 8 ++ T) ∧ Fr [0, 3, 15, 16] M M2 ∧ Fo [21] M M2 ∧ (∀ s, s < 8 → M2.1 3 (8 * A + s) = enc (jy (jtk sg pt q s) (jkp sg pt q s))) ∧ (∀ x, ¬ (8 * A ≤ x ∧ x < 8 * A + 8) → M2.1 3 x = M.1 3 x))
    8 (by omega)
    (by
      rintro r v hr ⟨M2, rfl, c1, c2, c3, c4, c5, c6⟩
      refine Or.inl ?_
      have hlen := tks_len (sg := sg) (pt := pt) (q := q) (n := A) r
      have hll : (tks sg pt q A r ++ T).length < 600 := by rw [List.length_append]; omega
      have e7 : nI (8 - r) - 1 = nI (7 - r) := by rw [nI_pred1 (by omega)]; congr 1; omega
      have e6 : nI (7 - r) - 1 = nI (8 - (r + 1)) - 1 := by congr 2; omega
      have r1 : M2.1 3 (8 * q.1 + (7 - r)) = enc (pt q.1 (7 - r)) := by rw [c6 _ (by omega)]; exact hp _ _ h1 (by omega)
      have r2 : M2.1 3 (8 * q.2.1 + (7 - r)) = enc (pt q.2.1 (7 - r)) := by rw [c6 _ (by omega)]; exact hp _ _ h2 (by omega)
      unfold Mo_shape_B273 Mo_shape_L273_J336 Mo_shape_L273_J365
      dsimp only
      rw [e7, if_neg (nI_pos (by omega)), l_8, nI_mul, nI_mul, nI_mul, nI_add, nI_add, nI_add, ck_in (by omega) (by omega), ck_in (by omega) (by omega), ix_nI (by omega), ix_nI (by omega), ix_nI (by omega), r1, r2, e6, ck_in (by omega) (by omega), ck_in (by omega) (by omega)]
      have stay : ∀ (P : QM), P.1 0 21 = nI (tks sg pt q A r ++ T).length → jtk sg pt q (7 - r) = none → StkM P (tks sg pt q A r ++ T) → Fr [0, 3, 15, 16] M P → Fo [21] M P → (P.1 3 (8 * A + (7 - r)) = enc (jkp sg pt q (7 - r))) → (∀ x, x ≠ 8 * A + (7 - r) → P.1 3 x = M2.1 3 x) → ∃ a2, some (Sum.inr (nI (8 - (r + 1)) - 1, P)) = (some (Sum.inr a2) : Option (QM ⊕ (Int32 × QM))) ∧ ∃ M2, a2 = (nI (8 - (r + 1)) - 1, M2) ∧ M2.1 0 21 = nI (tks sg pt q A (r + 1) ++ T).length ∧ StkM M2 (tks sg pt q A (r + 1) ++ T) ∧ Fr [0, 3, 15, 16] M M2 ∧ Fo [21] M M2 ∧ (∀ s, s < 8 → M2.1 3 (8 * A + s) = if 8 - (r + 1) ≤ s then enc (jy (jtk sg pt q s) (jkp sg pt q s)) else -6) ∧ (∀ x, ¬ (8 * A ≤ x ∧ x < 8 * A + 8) → M2.1 3 x = M.1 3 x) := by
        intro P q1 q2 q3 q4 q5 q6 q7
        refine ⟨_, rfl, P, rfl, by rw [tks_none q2]; exact q1, by rw [tks_none q2]; exact q3, q4, q5, fun s hs => ?_, fun x hx => by rw [q7 x (by omega)]; exact c6 x hx⟩
        by_cases e : s = 7 - r
        · subst e
          rw [if_pos (by omega), q2, q6]
          rfl
        · rw [q7 _ (by omega), c5 s hs]
          by_cases c : 8 - r ≤ s
          · rw [if_pos c, if_pos (by omega)]
          · rw [if_neg c, if_neg (by omega)]
      cases p1 : pt q.1 (7 - r) with
      | none =>
        have t0 : jtk sg pt q (7 - r) = none := by unfold jtk; rw [if_pos hc, p1]
        rw [enc_none, if_pos (show (-6 : Int32) < 0 by decide), if_pos (show (-6 : Int32) < 0 by decide)]
        rcases hal with ⟨ha, hk⟩ | ⟨ha, hk⟩
        · rw [ha, if_neg one_ne]
          refine stay _ (by rw [u_i_o (by decide)]; exact c1) t0 (StkM_eq c2 (fun x _ => ⟨by rw [u_i_o (by decide)], by rw [u_i_o (by decide)]⟩)) (Fr.i 3 c3 (by decide)) (Fo.o 3 c4 (by decide)) ?_ (fun x hx => by rw [u_i_k hx])
          rw [u_i_e]
          unfold jkp
          rw [if_pos ⟨hc, hk⟩, p1]
          cases pt q.2.1 (7 - r) <;> rfl
        · rw [ha, if_pos rfl]
          refine stay _ c1 t0 c2 c3 c4 ?_ (fun _ _ => rfl)
          rw [c5 _ (by omega), if_neg (by omega)]
          unfold jkp
          rw [if_neg (fun z => hk z.2)]; rfl
      | some a =>
        have la := (hW.2.2.1 _ _ _ h1 p1).1
        rw [enc_some, if_neg (nI_pos (by omega)), if_neg (nI_pos (by omega))]
        cases p2 : pt q.2.1 (7 - r) with
        | none =>
          have t0 : jtk sg pt q (7 - r) = none := by unfold jtk; rw [if_pos hc, p1, p2]
          rw [enc_none, if_pos (show (-6 : Int32) < 0 by decide)]
          rcases hal with ⟨ha, hk⟩ | ⟨ha, hk⟩
          · rw [ha, if_neg one_ne]
            refine stay _ (by rw [u_i_o (by decide)]; exact c1) t0 (StkM_eq c2 (fun x _ => ⟨by rw [u_i_o (by decide)], by rw [u_i_o (by decide)]⟩)) (Fr.i 3 c3 (by decide)) (Fo.o 3 c4 (by decide)) ?_ (fun x hx => by rw [u_i_k hx])
            rw [u_i_e]
            unfold jkp
            rw [if_pos ⟨hc, hk⟩, p1, p2]
            rfl
          · rw [ha, if_pos rfl]
            refine stay _ c1 t0 c2 c3 c4 ?_ (fun _ _ => rfl)
            rw [c5 _ (by omega), if_neg (by omega)]
            unfold jkp
            rw [if_neg (fun z => hk z.2)]; rfl
        | some b =>
          have lb := (hW.2.2.1 _ _ _ h2 p2).1
          have t0 : jtk sg pt q (7 - r) = some (a, b, q.2.2) := by unfold jtk; rw [if_pos hc, p1, p2, if_neg (fun z => h62 z.1)]
          rw [enc_some, if_neg (nI_pos (by omega))]
          obtain ⟨M3, d1, d2, d3, d4, d5⟩ := mo_wait c1 c2 hll a b q.2.2 (some (8 * A + (7 - r)))
          rw [show nI (8 * A + (7 - r)) = enA (some (8 * A + (7 - r))) from rfl, d1, Option.bind_some]
          refine ⟨_, rfl, M3, rfl, by rw [tks_some t0]; exact d2, by rw [tks_some t0]; exact d3, Fr.tr c3 (Fr.sub d4 (by decide)), Fo.tr c4 d5, fun s hs => ?_, fun x hx => by rw [(d4 3 (by decide)).1]; exact c6 x hx⟩
          rw [(d4 3 (by decide)).1, c5 s hs]
          by_cases e : s = 7 - r
          · subst e
            rw [if_neg (by omega), if_pos (by omega), t0]
            rfl
          · by_cases c : 8 - r ≤ s
            · rw [if_pos c, if_pos (by omega)]
            · rw [if_neg c, if_neg (by omega)])
    (by
      rintro v ⟨M2, rfl, c1, c2, c3, c4, c5, c6⟩
      refine ⟨M2, ?_, c1, c2, c3, c4, fun s hs => by rw [c5 s hs, if_pos (by omega)], c6⟩
      unfold Mo_shape_B273
      dsimp only
      rw [if_pos (show nI (8 - 8) - 1 < 0 by decide)]) (7, M) ⟨M, rfl, h21, hS, Fr.rf, Fo.rf, fun s hs => by rw [if_neg (by omega)]; exact hb s hs, fun _ _ => rfl⟩
  exact ⟨M2, b1, b2⟩
end JN5
