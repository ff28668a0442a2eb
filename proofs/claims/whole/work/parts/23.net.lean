/-! reading the net, in the program and in the reference -/
theorem l_0 : (0 : Int32) = nI 0 := rfl
theorem l_1 : (1 : Int32) = nI 1 := rfl
theorem l_2 : (2 : Int32) = nI 2 := rfl
theorem l_7 : (7 : Int32) = nI 7 := rfl
theorem l_8 : (8 : Int32) = nI 8 := rfl
theorem l_60 : (60 : Int32) = nI 60 := rfl
theorem l_100 : (100 : Int32) = nI 100 := rfl
theorem bit_and (m s : Nat) (hm : m < 256) (hs : s < 8) : ((nI m >>> (nI s &&& 31)) &&& nI 1 = nI 1) ↔ m.testBit s = true := by
  have h : ∀ m : Nat, m < 256 → ∀ s : Nat, s < 8 → (((nI m >>> (nI s &&& 31)) &&& nI 1 = nI 1) ↔ m.testBit s = true) := by decide +kernel
  exact h m hm s hs
section NK
variable {M : QM} {N : Nat} {sg : Nat → Int32} {pt : Nat → Nat → Option Nat} {nm : Nat → Option Nat}
theorem kn_has (h : NetK M N sg pt nm) (hN : N ≤ 60) {i : Nat} (hi : i < N) : Ne_has (nI i) M = some 1 := by
  obtain ⟨h0, h5, -⟩ := h
  unfold Ne_has
  rw [h0, h5]
  simp (disch := omega) only [l_0, l_60, nI_ltI, nI_leI, if_neg, if_pos]
theorem kn_has_no (h : NetK M N sg pt nm) (hN : N ≤ 60) {x : Int32} (hx : ¬ (0 ≤ x.toInt ∧ x.toInt < N)) : Ne_has x M = some 0 := by
  obtain ⟨h0, h5, -⟩ := h
  unfold Ne_has
  rw [h0, h5]
  by_cases h1 : x < 0
  · rw [if_pos h1]
  · rw [if_neg h1]
    have h2 : 0 ≤ x.toInt := by rw [i_lt] at h1; have : (0 : Int32).toInt = 0 := rfl; omega
    have h3 : nI N ≤ x := by rw [i_le, nI_toInt (by omega)]; omega
    rw [if_pos h3]
theorem kn_sign (h : NetK M N sg pt nm) (hN : N ≤ 60) {i : Nat} (hi : i < N) : Ne_signOf (nI i) M = some (sg i) := by
  obtain ⟨h0, h5, h4, -⟩ := h
  unfold Ne_signOf
  rw [h0, h5]
  simp (disch := omega) only [l_0, l_60, nI_ltI, nI_leI, if_neg, if_pos, ck_in, ix_nI]
  rw [h4 i hi]
theorem kn_slots (h : NetK M N sg pt nm) (hN : N ≤ 60) {i : Nat} (hi : i < N) : ∃ m : Nat, m < 256 ∧ Ne_slotsOf (nI i) M = some (nI m) ∧ ∀ s, s < 8 → m.testBit s = (pt i s).isSome := by
  obtain ⟨h0, h5, h4, h6, -⟩ := h
  obtain ⟨m, hm, hm2, hm3⟩ := h6 i hi
  refine ⟨m, hm, ?_, hm3⟩
  unfold Ne_slotsOf
  rw [h0, h5]
  simp (disch := omega) only [l_0, l_60, nI_ltI, nI_leI, if_neg, if_pos, ck_in, ix_nI]
  rw [hm2]
theorem kn_part (h : NetK M N sg pt nm) (hN : N ≤ 60) {i s : Nat} (hi : i < N) (hs : s < 8) : Ne_partAt (nI i) (nI s) M = some (enc (pt i s)) := by
  obtain ⟨h0, h5, h4, h6, h7, -⟩ := h
  obtain ⟨m, hm, hm2, hm3⟩ := h6 i hi
  unfold Ne_partAt
  rw [h0, h5]
  simp (disch := omega) only [l_0, l_1, l_8, l_60, nI_ltI, nI_leI, if_neg, if_pos, ck_in, ix_nI, nI_mul, nI_add]
  rw [hm2]
  by_cases hb : m.testBit s = true
  · rw [if_pos ((bit_and m s hm hs).mpr hb)]
    cases hp : pt i s with
    | none => rw [hm3 s hs, hp] at hb; cases hb
    | some j => rw [Nat.mul_comm i 8, h7 i s j hi hp]; rfl
  · rw [if_neg (fun z => hb ((bit_and m s hm hs).mp z))]
    cases hp : pt i s with
    | none => rfl
    | some j => rw [hm3 s hs, hp] at hb; exact absurd rfl hb
theorem kn_part_no {x s : Int32} (hx : x < 0) : Ne_partAt x s M = some (-6) := by
  unfold Ne_partAt
  rw [if_pos hx]
theorem kn_nodes (h : NetK M N sg pt nm) : Ne_nodes M = some (nI N) := by
  unfold Ne_nodes
  rw [h.2.1]
theorem kn_name (h : NetK M N sg pt nm) {k : Nat} (hk : k < 8) : Ne_nameAt (nI k) M = some (enc (nm k)) := by
  unfold Ne_nameAt
  simp (disch := omega) only [l_0, l_8, nI_ltI, nI_leI, if_neg, ck_in, ix_nI]
  rw [h.2.2.2.2.2 k hk]
theorem mo_isNode (h : NetM M N sg pt nm) (hN : N ≤ 60) {i : Nat} (hi : i < N) : Mo_isNode (nI i) M = some 1 := by
  unfold Mo_isNode Mo_in
  rw [h.1]
  have e : nI N - 1 = nI (N - 1) := nI_sub (b := 1) (by omega)
  rw [e]
  simp (disch := omega) only [l_0, nI_ltI, if_neg, Option.bind_some]
  rfl
theorem mo_isNode_no (h : NetM M N sg pt nm) (hN : N ≤ 60) {x : Int32} (hx : ¬ (0 ≤ x.toInt ∧ x.toInt < N)) : Mo_isNode x M = some 0 := by
  unfold Mo_isNode Mo_in
  rw [h.1]
  by_cases h1 : x < 0
  · rw [if_pos h1]; rfl
  · rw [if_neg h1]
    have h2 : 0 ≤ x.toInt := by rw [i_lt] at h1; have : (0 : Int32).toInt = 0 := rfl; omega
    have h3 : nI N - 1 < x := by
      by_cases hN0 : N = 0
      · subst hN0
        rw [i_lt]
        have : (nI 0 - 1 : Int32).toInt = -1 := by decide
        omega
      · rw [show (1 : Int32) = nI 1 from rfl, nI_sub (by omega), i_lt, nI_toInt (by omega)]
        omega
    rw [if_pos h3]; rfl
theorem mo_part (h : NetM M N sg pt nm) {i s : Nat} (hi : i < N) (hs : s < 8) : M.1 3 (8 * i + s) = enc (pt i s) := h.2.2.1 i s hi hs
theorem mo_areNodes (h : NetM M N sg pt nm) (hN : N ≤ 60) {i k : Nat} (hi : i < N) (hk : k < N) : Mo_areNodes (nI i) (nI k) M = some 1 := by
  unfold Mo_areNodes
  rw [mo_isNode h hN hi, mo_isNode h hN hk]
  rfl
theorem mo_areNodes_no (h : NetM M N sg pt nm) (hN : N ≤ 60) {x y : Int32} (hxy : ¬ (0 ≤ x.toInt ∧ x.toInt < N) ∨ ¬ (0 ≤ y.toInt ∧ y.toInt < N)) : Mo_areNodes x y M = some 0 := by
  unfold Mo_areNodes
  rcases nd_cases x N (by omega) with ⟨i, hi, rfl⟩ | hx
  · rw [mo_isNode h hN hi]
    have hy : ¬ (0 ≤ y.toInt ∧ y.toInt < N) := by
      rcases hxy with h1 | h1
      · rw [nI_toInt (by omega)] at h1; omega
      · exact h1
    rw [mo_isNode_no h hN hy]
    rfl
  · rw [mo_isNode_no h hN hx]
    rfl
end NK
