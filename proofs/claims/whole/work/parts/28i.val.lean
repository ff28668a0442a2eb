/-! slip, size, fits -/
theorem vT_keep {sg : Nat → Int32} {pt : Nat → Nat → Option Nat} {c : Nat → Nat} {D : Option Nat} {pn k j : Nat} (hT : Traj sg pt c D pn) (hm : (vT sg pt c D k).mf = some j) : ∀ d, k + d ≤ pn → (vT sg pt c D (k + d)).mf = some j := by
  intro d
  induction d with
  | zero => intro _; exact hm
  | succ d ih => intro h; exact vstep_keep (hT (k + d) (by omega)) (ih (by omega))
section FS
variable {MM : QM} {N : Nat} {sg : Nat → Int32} {pt : Nat → Nat → Option Nat} {nm : Nat → Option Nat}
theorem ft_all (hW : WF N sg pt nm) (hM0 : NetM MM N sg pt nm) {pn : Nat} {c : Nat → Nat} {i : Nat} (hi : i < N) (hp : pn ≤ 100) (h00 : MM.1 0 0 = nI pn) (hc : ∀ k, k < pn → MM.1 1 k = nI (c k) ∧ c k < 127)
    (hT : Traj sg pt c (some i) pn) (h6 : (vT sg pt c (some i) pn).w = 6) :
    ∃ b, iter Mo_fits_B29 FU (nI i, 0, u_i MM 0 27 0) = some b ∧ ((∃ k M', b = .inl (nI k, M') ∧ (vT sg pt c (some i) pn).mf = some k) ∨ (∃ M', b = .inr M' ∧ (vT sg pt c (some i) pn).mf = none)) := by
  have hN := hW.1
  refine iter_m (B := Mo_fits_B29) (fun a => ∃ k, k ≤ pn ∧ FI sg pt c (some i) MM k a) (fun b => (∃ k M', b = .inl (nI k, M') ∧ (vT sg pt c (some i) pn).mf = some k) ∨ (∃ M', b = .inr M' ∧ (vT sg pt c (some i) pn).mf = none)) (fun a => 200 - a.2.1.toNatClampNeg) ?_ FU _ ?_ ⟨0, by omega, rfl, rfl, rfl, ?_, ?_, rfl, trivial, ?_, ?_⟩
  · rintro a ⟨k, hk, hF⟩
    by_cases hkp : k = pn
    · subst hkp
      refine Or.inr ⟨.inr a.2.2, ?_, Or.inr ⟨_, rfl, hF.2.2.1⟩⟩
      unfold Mo_fits_B29
      rw [show a.2.2.1 0 0 = nI k by rw [hF.2.2.2.2.2.2.2.2 0 (by decide)]; exact h00, hF.1, if_pos (show nI k ≤ nI k by rw [nI_leI (by omega) (by omega)]; omega)]
    · rcases ft_step hW hM0 (D0 := some i) (by intro j hj; cases hj; exact hi) hp h00 hc hT h6 (k := k) (by omega) hF with ⟨a2, k2, e, h1, h2, h3⟩ | ⟨M', e, k2, h1, h2⟩
      · refine Or.inl ⟨a2, e, ⟨k2, h2, h3⟩, ?_⟩
        rw [hF.1, h3.1, ix_nI (by omega), ix_nI (by omega)]
        omega
      · refine Or.inr ⟨_, e, Or.inl ⟨k, M', rfl, ?_⟩⟩
        have := vT_keep hT h2 (pn - k2) (by omega)
        rw [show k2 + (pn - k2) = pn by omega] at this
        exact this
  · show 200 - (0 : Int32).toNatClampNeg < FU
    decide
  · exact (show (0 : Nat) ≠ 3 by decide)
  · exact (show (0 : Nat) ≠ 5 by decide)
  · exact Fr.i 0 Fr.rf (by decide)
  · exact Fo.i 27 Fo.rf (by decide)
end FS
theorem fits_op {MK MM : QM} {N : Nat} {sg : Nat → Int32} {pt : Nat → Nat → Option Nat} {nm : Nat → Option Nat} (hW : WF N sg pt nm) (hK : NetK MK N sg pt nm) (hM : NetM MM N sg pt nm) (hP : PadR MK MM) (x : Int32) :
    ∃ r MK2 MM2, Kn_fits x MK = some (r, MK2) ∧ Mo_fits x MM = some (r, MM2) := by
  have hN := hW.1
  obtain ⟨pn, c, hPC⟩ := padC hP
  rcases nd_cases x N (by omega) with ⟨i, hi, rfl⟩ | hx
  · obtain ⟨a, MK2, MM2, e1, e2, hr⟩ := read_both hW hK hPC (some i) (by intro j hj; cases hj; exact hi)
    have hfr := F_Mo_slipOf e2
    have hfo := F0_Mo_slipOf e2
    dsimp only at hfr hfo
    unfold Kn_fits Mo_fits
    rw [kn_has hK hN hi, mo_isNode hM hN hi, Option.bind_some, Option.bind_some, if_neg (show ¬ (1 : Int32) = 0 by decide), if_neg (show ¬ (1 : Int32) = 0 by decide), show nI i = encW (some i) from rfl, e1, e2, Option.bind_some, Option.bind_some]
    dsimp only
    obtain ⟨p1, p2, p3, p4⟩ := hPC
    rcases hr with ⟨k, hk, rfl⟩ | ⟨rfl, hT, h6, hAK, hAM⟩
    · rw [if_neg (nI_neg6 (by omega)), if_neg (nI_pos (by omega))]
      exact ⟨_, _, _, rfl, rfl⟩
    · rw [if_pos rfl, if_pos (show (-6 : Int32) < 0 by decide)]
      have hM2 : NetM MM2 N sg pt nm := NetM_fr hfr (hfo 2 (by decide)) (by decide) hM
      obtain ⟨b, eb, hb⟩ := ft_all hW hM2 hi p1 (by rw [hfo 0 (by decide)]; exact p3) (fun k hk => by rw [(hfr 1 (by decide)).1]; exact ⟨(p4 k hk).2.1, (p4 k hk).2.2.1⟩) hT h6
      rw [show encW (some i) = nI i from rfl, eb, Option.bind_some]
      unfold Va_misfitPlace
      rw [Option.bind_some, hAK.2.2.2.2.1]
      rcases hb with ⟨k, M', rfl, hm⟩ | ⟨M', rfl, hm⟩
      · rw [hm]; exact ⟨_, _, _, rfl, rfl⟩
      · rw [hm]; exact ⟨_, _, _, rfl, rfl⟩
  · unfold Kn_fits Mo_fits
    rw [kn_has_no hK hN hx, mo_isNode_no hM hN hx, Option.bind_some, Option.bind_some, if_pos rfl, if_pos rfl]
    exact ⟨_, _, _, rfl, rfl⟩
theorem slip_op {MK MM : QM} {N : Nat} {sg : Nat → Int32} {pt : Nat → Nat → Option Nat} {nm : Nat → Option Nat} (hW : WF N sg pt nm) (hK : NetK MK N sg pt nm) (hP : PadR MK MM) :
    ∃ r MK2 MM2, Kn_slip MK = some (r, MK2) ∧ Mo_slip MM = some (r, MM2) := by
  obtain ⟨pn, c, hPC⟩ := padC hP
  obtain ⟨a, MK2, MM2, e1, e2, hr⟩ := read_both hW hK hPC none (by intro j hj; cases hj)
  unfold Kn_slip Mo_slip
  rw [show (-7 : Int32) = encW none from rfl, e1, e2]
  exact ⟨_, _, _, rfl, rfl⟩
theorem size_op {MK MM : QM} {N : Nat} {sg : Nat → Int32} {pt : Nat → Nat → Option Nat} {nm : Nat → Option Nat} (hW : WF N sg pt nm) (hK : NetK MK N sg pt nm) (hP : PadR MK MM) :
    ∃ r MK2 MM2, Kn_size MK = some (r, MK2) ∧ Mo_size MM = some (r, MM2) := by
  obtain ⟨pn, c, hPC⟩ := padC hP
  obtain ⟨a, MK2, MM2, e1, e2, hr⟩ := read_both hW hK hPC none (by intro j hj; cases hj)
  have p1 := hPC.1
  unfold Kn_size Mo_size
  rw [show (-7 : Int32) = encW none from rfl, e1, e2, Option.bind_some, Option.bind_some]
  dsimp only
  rcases hr with ⟨k, hk, rfl⟩ | ⟨rfl, hT, h6, hAK, hAM⟩
  · rw [if_neg (nI_neg6 (by omega)), if_neg (nI_pos (by omega))]
    exact ⟨_, _, _, rfl, rfl⟩
  · rw [if_pos rfl, if_pos (show (-6 : Int32) < 0 by decide)]
    unfold Va_valuesRead
    rw [Option.bind_some, hAK.2.2.2.1, hAM.2.1]
    exact ⟨_, _, _, rfl, rfl⟩
