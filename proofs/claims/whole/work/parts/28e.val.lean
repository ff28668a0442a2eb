/-! both read the pad as a value -/
def vT (sg : Nat → Int32) (pt : Nat → Nat → Option Nat) (c : Nat → Nat) (D : Option Nat) : Nat → VA
  | 0 => (0, D, 0, none, [])
  | k + 1 => (vstep sg pt (c k) k (vT sg pt c D k)).getD (vT sg pt c D k)
def Traj (sg : Nat → Int32) (pt : Nat → Nat → Option Nat) (c : Nat → Nat) (D : Option Nat) (k : Nat) : Prop := ∀ j, j < k → vstep sg pt (c j) j (vT sg pt c D j) = some (vT sg pt c D (j + 1))
/-- the pad of both: pn signs -/
def PadC (MK MM : QM) (pn : Nat) (c : Nat → Nat) : Prop := pn ≤ 100 ∧ MK.1 1 1 = nI pn ∧ MM.1 0 0 = nI pn ∧ ∀ k, k < pn → MK.1 2 k = nI (c k) ∧ MM.1 1 k = nI (c k) ∧ c k < 127 ∧ 33 ≤ c k
theorem padC {MK MM : QM} (h : PadR MK MM) : ∃ pn c, PadC MK MM pn c := by
  obtain ⟨pn, h1, h2, h3, h4⟩ := h
  refine ⟨pn, fun k => (MM.1 1 k).toInt.toNat, h1, h2, h3, fun k hk => ?_⟩
  obtain ⟨g1, g2, g3⟩ := h4 k hk
  have e : MM.1 1 k = nI (MM.1 1 k).toInt.toNat := by rw [i_eq, nI_toInt (by omega)]; omega
  exact ⟨by rw [g1]; exact e, e, by dsimp only; omega, by dsimp only; omega⟩
theorem VI_0 {N : Nat} {sg : Nat → Int32} {D : Option Nat} (hD : ∀ j, D = some j → j < N) : VI N sg 0 (0, D, 0, none, []) :=
  ⟨Nat.le_refl 0, Nat.le_refl 0, (show (0 : Nat) ≤ 6 by decide), hD, (fun j hj => by cases hj), (fun e he => by cases he), (fun h => absurd (show (0 : Nat) = 1 from h) (by decide)), (fun h => absurd (show (0 : Nat) = 2 from h) (by decide)), (fun h => absurd (show (0 : Nat) = 3 from h) (by decide)), (fun h => absurd (show (0 : Nat) = 4 from h) (by decide))⟩
theorem VI_T {N : Nat} {sg : Nat → Int32} {pt : Nat → Nat → Option Nat} {nm : Nat → Option Nat} (hW : WF N sg pt nm) {c : Nat → Nat} {D : Option Nat} (hD : ∀ j, D = some j → j < N) : ∀ k, Traj sg pt c D k → VI N sg k (vT sg pt c D k) := by
  intro k
  induction k with
  | zero => intro _; exact VI_0 hD
  | succ k ih => intro h; exact vstep_VI hW (ih (fun j hj => h j (by omega))) (h k (by omega))
theorem pa_sign {M : QM} {pn k : Nat} (h : M.1 1 1 = nI pn) (hk : k < pn) (hp : pn ≤ 100) : Pa_signAt (nI k) M = some (M.1 2 k) := by
  unfold Pa_signAt
  rw [h, if_neg (nI_pos (by omega)), if_neg (show ¬ nI pn ≤ nI k by rw [nI_leI (by omega) (by omega)]; omega), if_neg (show ¬ (100 : Int32) ≤ nI k by rw [l_100, nI_leI (by omega) (by omega)]; omega), ck_in (by omega) (by omega), ix_nI (by omega)]
theorem read_both {MK MM : QM} {N : Nat} {sg : Nat → Int32} {pt : Nat → Nat → Option Nat} {nm : Nat → Option Nat} (hW : WF N sg pt nm) (hK : NetK MK N sg pt nm) {pn : Nat} {c : Nat → Nat} (hP : PadC MK MM pn c) (D : Option Nat) (hD : ∀ j, D = some j → j < N) :
    ∃ a MK2 MM2, Va_read (encW D) MK = some (a, MK2) ∧ Mo_slipOf MM = some (a, MM2) ∧ ((∃ k, k ≤ pn ∧ a = nI k) ∨ (a = -6 ∧ Traj sg pt c D pn ∧ (vT sg pt c D pn).w = 6 ∧ AK MK2 (vT sg pt c D pn) ∧ AM MM2 (vT sg pt c D pn))) := by
  obtain ⟨p1, p2, p3, p4⟩ := hP
  have key := iter_2 (B := Va_read_B28) (B' := Mo_slipOf_B14)
    (fun k a a' => a.1 = nI k ∧ a'.2.1 = nI k ∧ a'.1 = nI (ws (vT sg pt c D k).w) ∧ AK a.2 (vT sg pt c D k) ∧ AM a'.2.2 (vT sg pt c D k) ∧ Traj sg pt c D k ∧ Fr [24, 25, 26, 27] MK a.2 ∧ Fr [0, 17, 18] MM a'.2.2 ∧ Fo [24, 27] MM a'.2.2)
    (fun b b' => (∃ k M M', k < pn ∧ b = .inl (nI k, M) ∧ b' = .inl (nI k, M')) ∨ (∃ M M', b = .inr M ∧ b' = .inr (nI (ws (vT sg pt c D pn).w), M') ∧ AK M (vT sg pt c D pn) ∧ AM M' (vT sg pt c D pn) ∧ Traj sg pt c D pn ∧ M.1 1 1 = nI pn ∧ M'.1 0 0 = nI pn))
    pn (by omega)
    (by
      rintro k ⟨idx, M⟩ ⟨st, idx', M'⟩ hk ⟨h1, h2, h3, h4, h5, h6, h7, h8, h9⟩
      dsimp only at h1 h2 h3 h4 h5 h7 h8 h9
      subst h1 h2 h3
      have hI := VI_T hW hD k h6
      have hK1 : NetK M N sg pt nm := NetK_fr h7 (by decide) hK
      have q2 : M.1 1 1 = nI pn := by rw [(h7 1 (by decide)).1]; exact p2
      have q3 : M'.1 0 0 = nI pn := by rw [h9 0 (by decide)]; exact p3
      obtain ⟨r1, r2, r3, r4⟩ := p4 k hk
      have q4 : M.1 2 k = nI (c k) := by rw [(h7 2 (by decide)).1]; exact r1
      have q5 : M'.1 1 k = nI (c k) := by rw [(h8 1 (by decide)).1]; exact r2
      have hs1 := va_step hK1 hW h4 hI (by omega) r3
      have hs2 := sl_step (pt := pt) h5 hI q3 hk p1 r3 q5
      have hB : Va_read_B28 (nI k, M) = Option.bind (Va_goesOn (nI (c k)) (nI k) M) (fun q3 => (if q3.1 = 0 then some (.inl (.inl (nI k, q3.2))) else some (.inr (nI k + (1 : Int32), q3.2)))) := by
        unfold Va_read_B28 Pa_length
        dsimp only
        rw [Option.bind_some, q2, if_neg (show ¬ nI pn ≤ nI k by rw [nI_leI (by omega) (by omega)]; omega), pa_sign q2 hk p1, Option.bind_some, q4]
      cases hv : vstep sg pt (c k) k (vT sg pt c D k) with
      | none =>
        rw [hv] at hs1 hs2
        obtain ⟨M2, e1⟩ := hs1
        obtain ⟨M2', e2⟩ := hs2
        refine Or.inr ⟨_, _, ?_, e2, Or.inl ⟨k, M2, M2', hk, rfl, rfl⟩⟩
        rw [hB, e1]; rfl
      | some A2 =>
        rw [hv] at hs1 hs2
        obtain ⟨M2, e1, f1⟩ := hs1
        obtain ⟨M2', e2, f2⟩ := hs2
        have hT : vT sg pt c D (k + 1) = A2 := by rw [vT, hv]; rfl
        refine Or.inl ⟨(nI (k + 1), M2), _, ?_, e2, rfl, rfl, ?_, ?_, ?_, ?_, ?_, ?_, ?_⟩
        · rw [hB, e1]
          show some (Sum.inr (nI k + 1, M2)) = _
          rw [nI_1]
        · dsimp only; rw [hT]
        · dsimp only; rw [hT]; exact f1
        · dsimp only; rw [hT]; exact f2
        · intro j hj
          by_cases hjk : j = k
          · subst hjk; rw [hv, hT]
          · exact h6 j (by omega)
        · have := F_Va_goesOn e1
          exact Fr.tr h7 this
        · exact Fr.tr h8 (F_Mo_slipOf_B14 e2)
        · exact Fo.tr h9 (F0_Mo_slipOf_B14 e2))
    (by
      rintro ⟨idx, M⟩ ⟨st, idx', M'⟩ ⟨h1, h2, h3, h4, h5, h6, h7, h8, h9⟩
      dsimp only at h1 h2 h3 h4 h5 h7 h8 h9
      subst h1 h2 h3
      have q2 : M.1 1 1 = nI pn := by rw [(h7 1 (by decide)).1]; exact p2
      have q3 : M'.1 0 0 = nI pn := by rw [h9 0 (by decide)]; exact p3
      refine ⟨.inr M, .inr (nI (ws (vT sg pt c D pn).w), M'), ?_, ?_, Or.inr ⟨M, M', rfl, rfl, h4, h5, h6, q2, q3⟩⟩
      · unfold Va_read_B28 Pa_length
        dsimp only
        rw [Option.bind_some, q2, if_pos (show nI pn ≤ nI pn by rw [nI_leI (by omega) (by omega)]; omega)]
      · unfold Mo_slipOf_B14
        dsimp only
        rw [q3, if_pos (show nI pn ≤ nI pn by rw [nI_leI (by omega) (by omega)]; omega)])
    ((0 : Int32), u_i (u_i (u_i (u_i (u_i MK 24 5 (0 : Int32)) 24 6 (0 : Int32)) 24 7 (encW D)) 24 8 (0 : Int32)) 24 9 (-6 : Int32)) ((0 : Int32), (0 : Int32), u_i (u_i MM 0 24 (0 : Int32)) 0 27 (0 : Int32))
    (by
      refine ⟨rfl, rfl, rfl, ⟨rfl, rfl, rfl, rfl, rfl, trivial⟩, ⟨rfl, rfl, trivial⟩, fun j hj => by omega, ?_, ?_, ?_⟩
      · exact Fr.i 24 (Fr.i 24 (Fr.i 24 (Fr.i 24 (Fr.i 24 Fr.rf (by decide)) (by decide)) (by decide)) (by decide)) (by decide)
      · exact Fr.i 0 (Fr.i 0 Fr.rf (by decide)) (by decide)
      · exact Fo.i 27 (Fo.i 24 Fo.rf (by decide)) (by decide))
  obtain ⟨b, b', e1, e2, hQ⟩ := key
  unfold Va_read Mo_slipOf
  rw [e1, e2, Option.bind_some, Option.bind_some]
  rcases hQ with ⟨k, M, M', hk, rfl, rfl⟩ | ⟨M, M', rfl, rfl, f1, f2, f3, f4, f5⟩
  · exact ⟨nI k, M, M', rfl, rfl, Or.inl ⟨k, by omega, rfl⟩⟩
  · dsimp only [Sum.elim_inr]
    have hI := VI_T hW hD pn f3
    obtain ⟨w, hw⟩ : ∃ w, w = (vT sg pt c D pn).w := ⟨_, rfl⟩
    have hw6 : w ≤ 6 := by rw [hw]; exact hI.2.2.1
    rw [f1.2.1, ← hw]
    by_cases h6 : w = 6
    · subst h6
      rw [if_pos (show nI 6 = 6 from rfl), if_pos (show nI (ws 6) = 6 from rfl)]
      exact ⟨-6, M, M', rfl, rfl, Or.inr ⟨rfl, f3, rfl, f1, f2⟩⟩
    · have hws : ws w < 7 ∧ ws w ≠ 6 := by unfold ws; split <;> first | omega | (split <;> omega)
      rw [if_neg (show ¬ nI w = 6 from fun h => h6 ((nI_eq (a := w) (b := 6) (by omega) (by decide)).mp h)), if_neg (show ¬ nI (ws w) = 6 from fun h => hws.2 ((nI_eq (a := ws w) (b := 6) (by omega) (by decide)).mp h))]
      unfold Pa_length
      rw [f4, f5, Option.bind_some]
      exact ⟨nI pn, M, M', rfl, rfl, Or.inl ⟨pn, by omega, rfl⟩⟩
