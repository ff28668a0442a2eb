/-! the simple calls -/
theorem op_slip : Stp_slip Rel := by
  rintro n MK MM - ⟨N, sg, pt, nm, hb⟩
  obtain ⟨r, MK2, MM2, e1, e2⟩ := slip_op (MK := MK) (MM := MM) hb.1 hb.2.2.1 hb.2.1
  have f1 := F_Kn_slip e1
  have f2 := F_Mo_slip e2
  have f3 := F0_Mo_slip e2
  exact ⟨r, MK2, MM2, e1, e2, Rel_keep hb f1 f2 f3 (by decide) (by decide) (by decide)⟩
theorem op_size : Stp_size Rel := by
  rintro n MK MM - ⟨N, sg, pt, nm, hb⟩
  obtain ⟨r, MK2, MM2, e1, e2⟩ := size_op (MK := MK) (MM := MM) hb.1 hb.2.2.1 hb.2.1
  have f1 := F_Kn_size e1
  have f2 := F_Mo_size e2
  have f3 := F0_Mo_size e2
  exact ⟨r, MK2, MM2, e1, e2, Rel_keep hb f1 f2 f3 (by decide) (by decide) (by decide)⟩
theorem op_fits : Stp_fits Rel := by
  rintro n MK MM - ⟨N, sg, pt, nm, hb⟩ x
  obtain ⟨r, MK2, MM2, e1, e2⟩ := fits_op (MK := MK) (MM := MM) hb.1 hb.2.2.1 hb.2.2.2.1 hb.2.1 x
  have f1 := F_Kn_fits e1
  have f2 := F_Mo_fits e2
  have f3 := F0_Mo_fits e2
  exact ⟨r, MK2, MM2, e1, e2, Rel_keep hb f1 f2 f3 (by decide) (by decide) (by decide)⟩
theorem i_33 {x : Int32} : (x < 33 ↔ x.toInt < 33) ∧ (x ≤ 126 ↔ x.toInt ≤ 126) ∧ (126 < x ↔ 126 < x.toInt) := by
  have e1 : (33 : Int32).toInt = 33 := by decide
  have e2 : (126 : Int32).toInt = 126 := by decide
  rw [i_lt, i_le, i_lt, e1, e2]
  exact ⟨Iff.rfl, Iff.rfl, Iff.rfl⟩
theorem op_say : Stp_say Rel := by
  rintro n MK MM - hR x
  have hR' := hR
  obtain ⟨N, sg, pt, nm, hb⟩ := hR
  obtain ⟨h1, h2, h3, h4, h5, h6, h7, h8, h9, h10⟩ := hb
  obtain ⟨pn, p1, p2, p3, p4⟩ := h2
  unfold Kn_say Mo_say Mo_in
  obtain ⟨q1, q2, q3⟩ := i_33 (x := x)
  by_cases a1 : x < 33
  · rw [if_pos a1, if_pos a1, Option.bind_some, if_pos rfl]
    exact ⟨_, _, _, rfl, rfl, Rel_up hR'⟩
  rw [if_neg a1, if_neg a1]
  by_cases a2 : x ≤ 126
  · rw [if_pos a2, if_neg (show ¬ 126 < x by rw [q3]; rw [q2] at a2; omega), Option.bind_some, if_neg (show ¬ (1 : Int32) = 0 by decide)]
    unfold Pa_lay Pa_length
    rw [p2, p3, if_neg (nI_pos (by omega))]
    by_cases a3 : pn < 100
    · rw [if_pos (show nI pn < 100 by rw [l_100, nI_ltI (by omega) (by omega)]; exact a3), ck_in a3 (by omega), ck_in a3 (by omega), if_neg (show ¬ nI pn = 100 from fun h => by have := (nI_eq (a := pn) (b := 100) (by omega) (by decide)).mp h; omega), Option.bind_some, ix_nI (by omega)]
      have b1 : (u_i MK 2 pn x).1 1 1 = nI pn := p2
      have b2 : (u_i MM 1 pn x).1 0 0 = nI pn := p3
      rw [b1, b2, nI_1]
      refine ⟨nI (pn + 1), u_i (u_i MK 2 pn x) 1 1 (nI (pn + 1)), u_i (u_i MM 1 pn x) 0 0 (nI (pn + 1)), ?_, ?_, N, sg, pt, nm, h1, ?_, ?_, ?_, ?_, ?_, ?_, ?_, ?_, ?_⟩
      · rw [if_neg (show ¬ (1 : Int32) = 0 by decide), Option.bind_some, u_i_e]
      · rw [u_i_e]
      · refine ⟨pn + 1, by omega, u_i_e, u_i_e, fun k hk => ?_⟩
        by_cases hkp : k = pn
        · subst hkp
          have c1 : (u_i (u_i MK 2 k x) 1 1 (nI (k + 1))).1 2 k = x := by simp [u_i]
          have c2 : (u_i (u_i MM 1 k x) 0 0 (nI (k + 1))).1 1 k = x := by simp [u_i]
          rw [c1, c2]
          rw [q1] at a1
          rw [q2] at a2
          exact ⟨rfl, by omega, a2⟩
        · have c1 : (u_i (u_i MK 2 pn x) 1 1 (nI (pn + 1))).1 2 k = MK.1 2 k := by simp [u_i, hkp]
          have c2 : (u_i (u_i MM 1 pn x) 0 0 (nI (pn + 1))).1 1 k = MM.1 1 k := by simp [u_i, hkp]
          rw [c1, c2]
          exact p4 k (by omega)
      · exact h3
      · exact h4
      · exact h5
      · exact h6
      · exact ReK_eq h7 rfl (u_i_o (by decide))
      · exact h8
      · exact h9
      · exact h10
    · have : pn = 100 := by omega
      subst this
      rw [if_neg (show ¬ nI 100 < 100 by decide), if_pos (show nI 100 = 100 from rfl), Option.bind_some, if_pos rfl]
      exact ⟨_, _, _, rfl, rfl, Rel_up hR'⟩
  · rw [if_neg a2, if_pos (show 126 < x by rw [q3]; rw [q2] at a2; omega), Option.bind_some, if_pos rfl]
    exact ⟨_, _, _, rfl, rfl, Rel_up hR'⟩
theorem op_wipe : Stp_wipe Rel := by
  rintro n MK MM - hR
  obtain ⟨N, sg, pt, nm, h1, h2, h3, h4, h5, h6, h7, h8, h9, h10⟩ := hR
  obtain ⟨pn, p1, p2, p3, p4⟩ := h2
  unfold Kn_wipe Mo_wipe Pa_length Pa_clear
  rw [Option.bind_some, Option.bind_some, p2, p3]
  refine ⟨_, _, _, rfl, rfl, N, sg, pt, nm, h1, ⟨0, by omega, u_i_e, u_i_e, fun k hk => by omega⟩, h3, h4, h5, h6, ReK_eq h7 rfl rfl, h8, h9, h10⟩
theorem op_name : Stp_name Rel := by
  rintro n MK MM - ⟨N, sg, pt, nm, hb⟩ x
  obtain ⟨h1, h2, h3, h4, h5⟩ := hb
  have hN := h1.1
  unfold Kn_name Mo_name
  rcases nd_cases x 8 (by decide) with ⟨k, hk, rfl⟩ | hx
  · rw [if_neg (nI_pos (by omega)), if_pos (show nI k < 8 by rw [l_8, nI_ltI (by omega) (by omega)]; exact hk), kn_name h3 hk, Option.bind_some]
    rw [l_0, l_7, mo_in_1 (by omega) (by decide) (by decide), Option.bind_some, if_pos (show 0 ≤ k ∧ k ≤ 7 by omega), if_neg (show ¬ (1 : Int32) = nI 0 by decide), ck_in hk (by omega), ix_nI (by omega), h4.2.2.2 k hk]
    exact ⟨_, rfl, rfl⟩
  · unfold Mo_in
    have e8 : (8 : Int32).toInt = 8 := by decide
    have e7 : (7 : Int32).toInt = 7 := by decide
    by_cases a1 : x < 0
    · rw [if_pos a1, if_pos a1]
      exact ⟨_, rfl, rfl⟩
    · have a2 : 0 ≤ x.toInt := by rw [i_lt] at a1; have : (0 : Int32).toInt = 0 := rfl; omega
      rw [if_neg a1, if_neg a1, if_neg (show ¬ x < 8 by rw [i_lt, e8]; omega), if_pos (show (7 : Int32) < x by rw [i_lt, e7]; omega)]
      exact ⟨_, rfl, rfl⟩
theorem bitc (m : Nat) (hm : m < 256) (M : QM) : In_bitCount (nI m) M = some (nI (((List.range 8).filter (fun s => m.testBit s)).length)) := by
  have h : ∀ m : Nat, m < 256 → In_bitCount (nI m) (fun _ _ => 0, fun _ _ => 0) = some (nI (((List.range 8).filter (fun s => m.testBit s)).length)) := by decide +kernel
  exact h m hm
theorem mo_parts {M : QM} {N : Nat} {sg : Nat → Int32} {pt : Nat → Nat → Option Nat} {nm : Nat → Option Nat} (hW : WF N sg pt nm) (hM : NetM M N sg pt nm) {i : Nat} (hi : i < N) : Mo_partsOf (nI i) M = some (nI (((List.range 8).filter (fun s => (pt i s).isSome)).length)) := by
  have hN := hW.1
  unfold Mo_partsOf
  obtain ⟨b, hb, hq⟩ := iter_0 (B := Mo_partsOf_B4 (nI i) M) (fun k v => v.2 = nI k ∧ v.1 = nI (((List.range k).filter (fun s => (pt i s).isSome)).length)) (fun b => b = nI (((List.range 8).filter (fun s => (pt i s).isSome)).length)) 8 (by decide)
    (by
      rintro k ⟨a, b⟩ hk ⟨h1, h2⟩
      dsimp only at h1 h2
      subst h1 h2
      have hf : (List.range (k + 1)).filter (fun s => (pt i s).isSome) = (List.range k).filter (fun s => (pt i s).isSome) ++ (if (pt i k).isSome = true then [k] else []) := by
        rw [List.range_succ, List.filter_append]
        congr 1
        simp only [List.filter_cons, List.filter_nil]
      unfold Mo_partsOf_B4
      dsimp only
      rw [if_neg (show ¬ (8 : Int32) ≤ nI k by rw [l_8, nI_leI (by omega) (by omega)]; omega), l_8, nI_mul, nI_add, ck_in (by omega) (by omega), ix_nI (by omega), mo_part hM hi hk, nI_1, nI_1]
      cases hp : pt i k with
      | none =>
        rw [enc_none, if_pos (by decide)]
        refine Or.inl ⟨_, rfl, rfl, ?_⟩
        rw [hf, hp]
        show _ + (0 : Int32) = _
        rw [Int32.add_zero]
        simp
      | some j =>
        have := hW.2.2.1 i k j hi hp
        rw [enc_some, if_neg (nI_pos (by omega))]
        refine Or.inl ⟨_, rfl, rfl, ?_⟩
        rw [hf, hp]
        simp)
    (by
      rintro ⟨a, b⟩ ⟨h1, h2⟩
      dsimp only at h1 h2
      subst h1 h2
      refine ⟨_, ?_, rfl⟩
      unfold Mo_partsOf_B4
      dsimp only
      rw [if_pos (show (8 : Int32) ≤ nI 8 by decide)]) (0, 0) ⟨rfl, rfl⟩
  rw [hb, hq]
  rfl
theorem op_node : Stp_node Rel := by
  rintro n MK MM - ⟨N, sg, pt, nm, hb⟩ x y
  obtain ⟨h1, h2, h3, h4, h5⟩ := hb
  have hN := h1.1
  unfold Kn_node Mo_node
  rcases nd_cases x N (by omega) with ⟨i, hi, rfl⟩ | hx
  · rw [kn_has h3 hN hi, mo_isNode h4 hN hi, Option.bind_some, Option.bind_some, if_neg (show ¬ (1 : Int32) = 0 by decide), if_neg (show ¬ (1 : Int32) = 0 by decide)]
    have e8 : (8 : Int32).toInt = 8 := by decide
    have e7 : (7 : Int32).toInt = 7 := by decide
    have e0 : (0 : Int32).toInt = 0 := by decide
    have em : (-1 : Int32).toInt = -1 := by decide
    by_cases b1 : y = -1
    · subst b1
      rw [if_neg (by decide), if_pos (by decide), if_pos rfl, if_pos rfl, kn_sign h3 hN hi, ck_in (by omega) (by omega), ix_nI (by omega), h4.2.1 i hi]
      exact ⟨_, rfl, rfl⟩
    rw [if_neg b1, if_neg b1]
    by_cases b2 : y = 8
    · subst b2
      obtain ⟨m, hm, hm2, hm3⟩ := kn_slots h3 hN hi
      rw [if_neg (by decide), if_pos (by decide), if_pos rfl, if_pos rfl, hm2, Option.bind_some, bitc m hm, Option.bind_some, mo_parts h1 h4 hi, Option.bind_some]
      refine ⟨_, rfl, ?_⟩
      congr 3
      apply List.filter_congr
      intro s hs
      rw [List.mem_range] at hs
      exact (hm3 s hs).symm
    rw [if_neg b2, if_neg b2]
    rcases nd_cases y 8 (by decide) with ⟨s, hs, rfl⟩ | hy
    · rw [if_neg (show ¬ nI s < -1 by rw [i_lt, nI_toInt (by omega), em]; omega), if_pos (show nI s ≤ 8 by rw [l_8, nI_leI (by omega) (by omega)]; omega), kn_part h3 hN hi hs, Option.bind_some, l_0, l_7, mo_in_1 (by omega) (by decide) (by decide), Option.bind_some, if_pos (show 0 ≤ s ∧ s ≤ 7 by omega), if_neg (show ¬ (1 : Int32) = nI 0 by decide), l_8, nI_mul, nI_add, ck_in (by omega) (by omega), ix_nI (by omega), mo_part h4 hi hs]
      exact ⟨_, rfl, rfl⟩
    · have hyn : ¬ y.toInt = -1 := fun h => b1 (by rw [i_eq, em]; exact h)
      have hy8 : ¬ y.toInt = 8 := fun h => b2 (by rw [i_eq, e8]; exact h)
      unfold Mo_in
      by_cases b3 : y < -1
      · rw [if_pos b3, if_pos (show y < 0 by rw [i_lt, e0]; rw [i_lt, em] at b3; omega), Option.bind_some, if_pos rfl]
        exact ⟨_, rfl, rfl⟩
      · have b3' := b3
        rw [i_lt, em] at b3'
        have y8 : ¬ y ≤ 8 := by rw [i_le, e8]; omega
        have y0 : ¬ y < 0 := by rw [i_lt, e0]; omega
        have y7 : (7 : Int32) < y := by rw [i_lt, e7]; omega
        rw [if_neg b3, if_neg y8, if_neg y0, if_pos y7, Option.bind_some, if_pos rfl]
        exact ⟨_, rfl, rfl⟩
  · rw [kn_has_no h3 hN hx, mo_isNode_no h4 hN hx, Option.bind_some, Option.bind_some, if_pos rfl, if_pos rfl]
    exact ⟨_, rfl, rfl⟩
