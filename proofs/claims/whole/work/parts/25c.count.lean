/-! COUNT: the reference's answer -/
section CO3
variable {M : QM} {N : Nat} {sg : Nat → Int32} {pt : Nat → Nat → Option Nat} {nm : Nat → Option Nat}
theorem mo_countCell (hW : WF N sg pt nm) (hM : NetM M N sg pt nm) {i s : Nat} (hi : i < N) (h1 : 1 ≤ s) (h2 : s ≤ 12) (hT : TabM M N s (cN sg pt)) (x1 x2 : Int32) :
    ∃ M2, Mo_count_B55 x1 x2 (nI s) (nI i, M) = some (.inr (nI (i + 1), u_l M2 21 (13 * i + s) (lN (cN sg pt i s)))) ∧ Fr [22, 23] M M2 := by
  have hN := hW.1
  have hb : ∀ i t, t ≤ 12 → cN sg pt i t ≤ 1000000000 := fun i t ht => cN_le sg pt i t ht
  have hix : (13 : Int32) * nI i + nI s = nI (13 * i + s) := by rw [l_13, nI_mul, nI_add]
  have J : ∀ (M2 : QM) (v : Int64), Mo_count_L55_J188 x1 x2 (nI s) (nI i) v (nI (13 * i + s)) M2 = some (.inr (nI (i + 1), u_l M2 21 (13 * i + s) v)) := by
    intro M2 v
    unfold Mo_count_L55_J188
    rw [ck_in (by omega) (by omega), ix_nI (by omega), nI_1]
  obtain ⟨Mr, r1, r2⟩ := mo_record hW hM hi h1 h2 hT hb
  have hch := mo_choice hW hM hi h1 h2 hT hb
  have e1 : (nI s = (1 : Int32)) ↔ s = 1 := by rw [l_1, nI_eq (by omega) (by omega)]
  unfold Mo_count_B55
  simp only
  rw [hM.1, if_neg (by rw [nI_leI (by omega) (by omega)]; omega), ck_in (by omega) (by omega), ix_nI (by omega), hM.2.1 i hi]
  have hcn := cN_eq sg pt i s h1 h2
  have hok := hW.2.1 i hi
  unfold okSign at hok
  have plain : ∀ (a : Nat) (w : Int64), w = lN a → sg i ≠ 123 → sg i ≠ 91 → sg i ≠ 42 → cN sg pt i s = (if s = 1 then a else 0) → Mo_count_L55_J113 x1 x2 (nI s) (nI i) (sg i) w M = some (.inr (nI (i + 1), u_l M 21 (13 * i + s) (lN (cN sg pt i s)))) := by
    intro a w hw n1 n2 n3 hv
    unfold Mo_count_L55_J113
    rw [if_neg n1, if_neg n2, if_neg n3, hix, J, J, hv, hw]
    by_cases hs : s = 1
    · rw [if_pos (e1.mpr hs), if_pos hs]
    · rw [if_neg (fun z => hs (e1.mp z)), if_neg hs]; rfl
  rcases hok with h | h | h | h | h | h | h | h | h
  · refine ⟨M, ?_, Fr.rf⟩
    rw [if_pos h]
    exact plain 10 _ rfl (by rw [h]; decide) (by rw [h]; decide) (by rw [h]; decide) (by rw [hcn]; simp [CF, h])
  · refine ⟨M, ?_, Fr.rf⟩
    rw [if_neg (by rw [h]; decide), if_pos h]
    exact plain 2 _ rfl (by rw [h]; decide) (by rw [h]; decide) (by rw [h]; decide) (by rw [hcn]; simp [CF, h])
  · refine ⟨M, ?_, Fr.rf⟩
    rw [if_neg (by rw [h]; decide), if_neg (by rw [h]; decide), if_pos h]
    exact plain 26 _ rfl (by rw [h]; decide) (by rw [h]; decide) (by rw [h]; decide) (by rw [hcn]; simp [CF, h])
  · refine ⟨M, ?_, Fr.rf⟩
    rw [if_neg (by rw [h]; decide), if_neg (by rw [h]; decide), if_neg (by rw [h]; decide)]
    exact plain 0 _ rfl (by rw [h]; decide) (by rw [h]; decide) (by rw [h]; decide) (by rw [hcn]; simp [CF, h])
  · refine ⟨M, ?_, Fr.rf⟩
    rw [if_neg (by rw [h]; decide), if_neg (by rw [h]; decide), if_neg (by rw [h]; decide)]
    exact plain 0 _ rfl (by rw [h]; decide) (by rw [h]; decide) (by rw [h]; decide) (by rw [hcn]; simp [CF, h])
  · refine ⟨Mr, ?_, r2⟩
    rw [if_neg (by rw [h]; decide), if_neg (by rw [h]; decide), if_neg (by rw [h]; decide)]
    unfold Mo_count_L55_J113
    rw [if_pos h, r1]
    simp only [Option.bind_some]
    rw [hix, J, hcn]
    unfold CF
    rw [h, if_neg (by decide), if_neg (by decide), if_pos rfl]
  · refine ⟨M, ?_, Fr.rf⟩
    rw [if_neg (by rw [h]; decide), if_neg (by rw [h]; decide), if_neg (by rw [h]; decide)]
    unfold Mo_count_L55_J113
    rw [if_neg (by rw [h]; decide), if_pos h, hch]
    simp only [Option.bind_some]
    rw [hix, J, hcn]
    unfold CF
    rw [h, if_neg (by decide), if_pos rfl]
  · obtain ⟨Ml, l1, l2⟩ := mo_list hW hM hi h1 h2 hT h
    refine ⟨Ml, ?_, Fr.sub l2 (by decide)⟩
    rw [if_neg (by rw [h]; decide), if_neg (by rw [h]; decide), if_neg (by rw [h]; decide)]
    unfold Mo_count_L55_J113
    rw [if_neg (by rw [h]; decide), if_neg (by rw [h]; decide), if_pos h, l1]
    simp only [Option.bind_some]
    rw [hix, J]
  · refine ⟨M, ?_, Fr.rf⟩
    rw [if_neg (by rw [h]; decide), if_neg (by rw [h]; decide), if_neg (by rw [h]; decide)]
    exact plain 0 _ rfl (by rw [h]; decide) (by rw [h]; decide) (by rw [h]; decide) (by rw [hcn]; simp [CF, h])
theorem mo_count (hW : WF N sg pt nm) (hM : NetM M N sg pt nm) {i s : Nat} (hi : i < N) (h1 : 1 ≤ s) (h2 : s ≤ 12) :
    ∃ M2, Mo_count (nI i) (nI s) M = some ((lN (cN sg pt i s)).toInt32, M2) ∧ Fr [21, 22, 23] M M2 := by
  have hN := hW.1
  unfold Mo_count
  rw [mo_isNode hM hN hi]
  simp only [Option.bind_some]
  have hin : Mo_in (nI s) 1 12 M = some 1 := by
    unfold Mo_in
    rw [l_1, l_12, if_neg (by rw [nI_ltI (by omega) (by omega)]; omega), if_neg (by rw [nI_ltI (by omega) (by omega)]; omega)]
  rw [if_neg (by decide), hin]
  simp only [Option.bind_some]
  rw [if_neg (by decide)]
  obtain ⟨Ma, a1, a2, a3⟩ := iter_0 (B := Mo_count_B25 (nI i) (nI s))
    (fun k a => ∃ M1, a = (nI k, M1) ∧ Fr [21, 22, 23] M M1 ∧ ∀ x, x < k → M1.2 21 x = lN 0)
    (fun M1 => Fr [21, 22, 23] M M1 ∧ ∀ x, x < 780 → M1.2 21 x = lN 0) 780 (by omega) (fun k a hk ha => by
      obtain ⟨M1, rfl, hF, hv⟩ := ha
      refine Or.inl ⟨(nI (k + 1), u_l M1 21 k (lN 0)), ?_, _, rfl, Fr.l 21 hF (by decide), fun x hx => ?_⟩
      · unfold Mo_count_B25
        simp only
        rw [if_neg (by rw [show (780 : Int32) = nI 780 from rfl, nI_leI (by omega) (by omega)]; omega), ck_in (by omega) (by omega), ix_nI (by omega), nI_1]; rfl
      · by_cases hxk : x = k
        · subst hxk; rw [u_l_e]
        · rw [u_l_k hxk]; exact hv x (by omega))
    (fun a ha => by
      obtain ⟨M1, rfl, hF, hv⟩ := ha
      refine ⟨M1, ?_, hF, hv⟩
      unfold Mo_count_B25
      simp only
      rw [if_pos (by decide)])
    ((0 : Int32), M) ⟨M, rfl, Fr.rf, fun x hx => by omega⟩
  rw [a1]
  simp only [Option.bind_some]
  obtain ⟨Mb, b1, b2, b3⟩ := iter_0 (B := Mo_count_B47 (nI i) (nI s))
    (fun k a => ∃ M1, a = (nI (k + 1), M1) ∧ Fr [21, 22, 23] M M1 ∧ TabM M1 N (k + 1) (cN sg pt))
    (fun M1 => Fr [21, 22, 23] M M1 ∧ TabM M1 N (s + 1) (cN sg pt)) s (by omega) (fun k a hk ha => by
      obtain ⟨M1, rfl, hF, hv⟩ := ha
      left
      obtain ⟨M2, e1, e2, e3⟩ := iter_0 (B := Mo_count_B55 (nI i) (nI s) (nI (k + 1)))
        (fun n a => ∃ M2, a = (nI n, M2) ∧ Fr [21, 22, 23] M M2 ∧ ∀ x t, x < N → (t < k + 1 ∨ (t = k + 1 ∧ x < n)) → M2.2 21 (13 * x + t) = lN (cN sg pt x t))
        (fun M2 => Fr [21, 22, 23] M M2 ∧ TabM M2 N (k + 1 + 1) (cN sg pt)) N (by omega) (fun n a hn ha => by
          obtain ⟨M2, rfl, hF2, hv2⟩ := ha
          left
          have hM2 : NetM M2 N sg pt nm := NetM_fr hF2 (by rw [(hF2 0 (by decide)).1]) (by decide) hM
          have hT2 : TabM M2 N (k + 1) (cN sg pt) := fun x t hx ht => hv2 x t hx (Or.inl ht)
          obtain ⟨M3, g1, g2⟩ := mo_countCell hW hM2 hn (s := k + 1) (by omega) (by omega) hT2 (nI i) (nI s)
          refine ⟨_, g1, _, rfl, Fr.l 21 (Fr.tr hF2 (Fr.sub g2 (by decide))) (by decide), fun x t hx hor => ?_⟩
          by_cases he : 13 * x + t = 13 * n + (k + 1)
          · have h5 : x = n := by omega
            have h6 : t = k + 1 := by omega
            subst h5; subst h6
            rw [u_l_e]
          · rw [u_l_k he, (g2 21 (by decide)).2]
            exact hv2 x t hx (by omega))
        (fun a ha => by
          obtain ⟨M2, rfl, hF2, hv2⟩ := ha
          have hM2 : NetM M2 N sg pt nm := NetM_fr hF2 (by rw [(hF2 0 (by decide)).1]) (by decide) hM
          refine ⟨M2, ?_, hF2, fun x t hx ht => hv2 x t hx (by omega)⟩
          unfold Mo_count_B55
          simp only
          rw [hM2.1, if_pos (by rw [nI_leI (by omega) (by omega)]; omega)])
        ((0 : Int32), M1) ⟨M1, rfl, hF, fun x t hx hor => hv x t hx (by omega)⟩
      refine ⟨(nI (k + 1 + 1), M2), ?_, M2, rfl, e2, e3⟩
      unfold Mo_count_B47
      simp only
      rw [if_neg (by rw [nI_ltI (by omega) (by omega)]; omega), e1]
      simp only [Option.bind_some, nI_1])
    (fun a ha => by
      obtain ⟨M1, rfl, hF, hv⟩ := ha
      refine ⟨M1, ?_, hF, hv⟩
      unfold Mo_count_B47
      simp only
      rw [if_pos (by rw [nI_ltI (by omega) (by omega)]; omega)])
    ((1 : Int32), Ma) ⟨Ma, rfl, a2, fun x t hx ht => by
      have : t = 0 := by omega
      subst this
      rw [cN_0]; exact a3 _ (by omega)⟩
  rw [b1]
  simp only [Option.bind_some]
  rw [l_13, nI_mul, nI_add, ck_in (by omega) (by omega), ix_nI (by omega), b3 i s hi (by omega)]
  exact ⟨Mb, rfl, b2⟩
end CO3
