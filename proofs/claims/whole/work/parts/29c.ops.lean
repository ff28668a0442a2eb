/-! calls that ask of pairs, counts, leasts; told -/
theorem one_ne : ¬ (1 : Int32) = 0 := by decide
theorem nd2 (x y : Int32) (N : Nat) (hN : N ≤ 60) : (∃ i k, i < N ∧ k < N ∧ x = nI i ∧ y = nI k) ∨ (¬ (0 ≤ x.toInt ∧ x.toInt < N) ∨ ¬ (0 ≤ y.toInt ∧ y.toInt < N)) := by
  rcases nd_cases x N (by omega) with ⟨i, hi, hx⟩ | hx
  · rcases nd_cases y N (by omega) with ⟨k, hk, hy⟩ | hy
    · exact Or.inl ⟨i, k, hi, hk, hx, hy⟩
    · exact Or.inr (Or.inr hy)
  · exact Or.inr (Or.inl hx)
section OPS
variable {n : Nat} {MK MM MK2 MM2 : QM} {N : Nat} {sg : Nat → Int32} {pt : Nat → Nat → Option Nat} {nm : Nat → Option Nat}
theorem RelB_keep {TK TM F : List Nat} (h : RelB n MK MM N sg pt nm) (fK : Fr TK MK MK2) (fM : Fr TM MM MM2) (fO : Fo F MM MM2) (hK : ∀ o, o ∈ [1, 2, 3, 4, 5, 6, 7, 9, 14, 15, 17, 28, 29, 31, 32] → o ∉ TK) (hM : ∀ o, o ∈ [1, 2, 3, 4, 11, 12] → o ∉ TM) (hF : ∀ o, o ∈ [0, 2, 15] → o ∉ F) : RelB n MK2 MM2 N sg pt nm := by
  obtain ⟨h1, h2, h3, h4, h5, h6, h7, h8, h9, h10⟩ := h
  refine ⟨h1, ?_, ?_, ?_, ?_, ?_, ?_, ?_, ?_, ?_⟩
  · exact PadR_eq h2 (fK 1 (hK 1 (by decide))).1 (fK 2 (hK 2 (by decide))).1 (fO 0 (hF 0 (by decide))) (fM 1 (hM 1 (by decide))).1
  · exact NetK_fr fK ⟨hK 3 (by decide), hK 4 (by decide), hK 5 (by decide), hK 6 (by decide), hK 7 (by decide)⟩ h3
  · exact NetM_eq h4 (fO 2 (hF 2 (by decide))) (fM 2 (hM 2 (by decide))).1 (fM 3 (hM 3 (by decide))).1 (fM 4 (hM 4 (by decide))).1
  · exact StK_eq h5 (by rw [(fK 14 (hK 14 (by decide))).1]) (fK 15 (hK 15 (by decide))).1
  · exact LaM_eq h6 (fO 15 (hF 15 (by decide))) (fM 11 (hM 11 (by decide))).1 (fM 12 (hM 12 (by decide))).1
  · obtain ⟨r, a1, a2, a3⟩ := h7
    exact ⟨r, a1, by rw [(fK 14 (hK 14 (by decide))).1]; exact a2, fun i hi => by rw [(fK 17 (hK 17 (by decide))).1]; exact a3 i hi⟩
  · exact CoK_eq h8 (by rw [(fK 28 (hK 28 (by decide))).1]) (fK 29 (hK 29 (by decide))).2
  · exact LeK_eq h9 (by rw [(fK 31 (hK 31 (by decide))).1]) (fK 32 (hK 32 (by decide))).1
  · rw [(fK 9 (hK 9 (by decide))).1]; exact h10
theorem no_may (h3 : NetK MK N sg pt nm) (h4 : NetM MM N sg pt nm) (hN : N ≤ 60) {x y : Int32} (h : ¬ (0 ≤ x.toInt ∧ x.toInt < N) ∨ ¬ (0 ≤ y.toInt ∧ y.toInt < N)) : Kn_may x y MK = some (-1, MK) ∧ Mo_may x y MM = some (-1, MM) := by
  unfold Kn_may Mo_may
  rw [mo_areNodes_no h4 hN h, Option.bind_some, if_pos rfl]
  refine ⟨?_, rfl⟩
  rcases nd_cases x N (by omega) with ⟨i, hi, rfl⟩ | hx
  · rw [kn_has h3 hN hi, Option.bind_some, if_neg one_ne]
    rcases nd_cases y N (by omega) with ⟨k, hk, rfl⟩ | hy
    · exfalso
      rw [nI_toInt (by omega), nI_toInt (by omega)] at h
      omega
    · rw [kn_has_no h3 hN hy, Option.bind_some, if_pos rfl]
  · rw [kn_has_no h3 hN hx, Option.bind_some, if_pos rfl]
theorem no_alike (h3 : NetK MK N sg pt nm) (h4 : NetM MM N sg pt nm) (hN : N ≤ 60) {x y : Int32} (h : ¬ (0 ≤ x.toInt ∧ x.toInt < N) ∨ ¬ (0 ≤ y.toInt ∧ y.toInt < N)) : Kn_alike x y MK = some (-1, MK) ∧ Mo_alike x y MM = some (-1, MM) := by
  unfold Kn_alike Mo_alike
  rw [mo_areNodes_no h4 hN h, Option.bind_some, if_pos rfl]
  refine ⟨?_, rfl⟩
  rcases nd_cases x N (by omega) with ⟨i, hi, rfl⟩ | hx
  · rw [kn_has h3 hN hi, Option.bind_some, if_neg one_ne]
    rcases nd_cases y N (by omega) with ⟨k, hk, rfl⟩ | hy
    · exfalso
      rw [nI_toInt (by omega), nI_toInt (by omega)] at h
      omega
    · rw [kn_has_no h3 hN hy, Option.bind_some, if_pos rfl]
  · rw [kn_has_no h3 hN hx, Option.bind_some, if_pos rfl]
theorem no_end (h3 : NetK MK N sg pt nm) (h4 : NetM MM N sg pt nm) (hN : N ≤ 60) {x y : Int32} (h : ¬ (0 ≤ x.toInt ∧ x.toInt < N) ∨ ¬ (0 ≤ y.toInt ∧ y.toInt < N)) : Kn_end x y MK = some (-1, MK) ∧ Mo_end x y MM = some (-1, MM) := by
  unfold Kn_end Mo_end
  rw [mo_areNodes_no h4 hN h, Option.bind_some, if_pos rfl]
  refine ⟨?_, rfl⟩
  rcases nd_cases x N (by omega) with ⟨i, hi, rfl⟩ | hx
  · rw [kn_has h3 hN hi, Option.bind_some, if_neg one_ne]
    rcases nd_cases y N (by omega) with ⟨k, hk, rfl⟩ | hy
    · exfalso
      rw [nI_toInt (by omega), nI_toInt (by omega)] at h
      omega
    · rw [kn_has_no h3 hN hy, Option.bind_some, if_pos rfl]
  · rw [kn_has_no h3 hN hx, Option.bind_some, if_pos rfl]
theorem no_way (h3 : NetK MK N sg pt nm) (h4 : NetM MM N sg pt nm) (hN : N ≤ 60) {x y : Int32} {z : Int32} (h : ¬ (0 ≤ x.toInt ∧ x.toInt < N) ∨ ¬ (0 ≤ y.toInt ∧ y.toInt < N)) : Kn_way x y z MK = some (-1, MK) ∧ Mo_way x y z MM = some (-1, MM) := by
  unfold Kn_way Mo_way
  rw [mo_areNodes_no h4 hN h, Option.bind_some, if_pos rfl]
  refine ⟨?_, rfl⟩
  rcases nd_cases x N (by omega) with ⟨i, hi, rfl⟩ | hx
  · rw [kn_has h3 hN hi, Option.bind_some, if_neg one_ne]
    rcases nd_cases y N (by omega) with ⟨k, hk, rfl⟩ | hy
    · exfalso
      rw [nI_toInt (by omega), nI_toInt (by omega)] at h
      omega
    · rw [kn_has_no h3 hN hy, Option.bind_some, if_pos rfl]
  · rw [kn_has_no h3 hN hx, Option.bind_some, if_pos rfl]
theorem no_join (h3 : NetK MK N sg pt nm) (h4 : NetM MM N sg pt nm) (hN : N ≤ 60) {x y : Int32} {z : Int32} (h : ¬ (0 ≤ x.toInt ∧ x.toInt < N) ∨ ¬ (0 ≤ y.toInt ∧ y.toInt < N)) : Kn_join x y z MK = some (-1, MK) ∧ Mo_join x y z MM = some (-1, MM) := by
  unfold Kn_join Mo_join
  rw [mo_areNodes_no h4 hN h, Option.bind_some, if_pos rfl]
  refine ⟨?_, rfl⟩
  rcases nd_cases x N (by omega) with ⟨i, hi, rfl⟩ | hx
  · rw [kn_has h3 hN hi, Option.bind_some, if_neg one_ne]
    rcases nd_cases y N (by omega) with ⟨k, hk, rfl⟩ | hy
    · exfalso
      rw [nI_toInt (by omega), nI_toInt (by omega)] at h
      omega
    · rw [kn_has_no h3 hN hy, Option.bind_some, if_pos rfl]
  · rw [kn_has_no h3 hN hx, Option.bind_some, if_pos rfl]
theorem st_alike (hN : N ≤ 60) (hD : DokK MK N sg pt) {i k : Nat} (hi : i < N) (hk : k < N) : ((My sg pt i k ∧ My sg pt k i) ∧ St_areAlike (nI i) (nI k) MK = some 1) ∨ (¬ (My sg pt i k ∧ My sg pt k i) ∧ St_areAlike (nI i) (nI k) MK = some 0) := by
  unfold St_areAlike
  rcases st_may (by omega) (by omega) (hD i k hi hk) with ⟨a1, a2⟩ | ⟨a1, a2⟩
  · rw [a2, Option.bind_some, if_neg one_ne]
    rcases st_may (by omega) (by omega) (hD k i hk hi) with ⟨b1, b2⟩ | ⟨b1, b2⟩
    · rw [b2, Option.bind_some, if_neg one_ne]
      exact Or.inl ⟨⟨a1, b1⟩, rfl⟩
    · rw [b2, Option.bind_some, if_pos rfl]
      exact Or.inr ⟨fun h => b1 h.2, rfl⟩
  · rw [a2, Option.bind_some, if_pos rfl]
    exact Or.inr ⟨fun h => a1 h.1, rfl⟩
theorem mo_alike (hN : N ≤ 60) (hD : DokM MM N sg pt) {i k : Nat} (hi : i < N) (hk : k < N) : ((My sg pt i k ∧ My sg pt k i) ∧ Mo_areAlike (nI i) (nI k) MM = some 1) ∨ (¬ (My sg pt i k ∧ My sg pt k i) ∧ Mo_areAlike (nI i) (nI k) MM = some 0) := by
  unfold Mo_areAlike
  rw [l_60, nI_mul, nI_mul, nI_add, nI_add, ck_in (by omega) (by omega), ck_in (by omega) (by omega), ix_nI (by omega), ix_nI (by omega)]
  rcases (hD i k hi hk).2 with ⟨a1, a2⟩ | ⟨a1, a2⟩
  · rw [a2, if_neg one_ne]
    rcases (hD k i hk hi).2 with ⟨b1, b2⟩ | ⟨b1, b2⟩
    · rw [b2, if_neg one_ne]
      exact Or.inl ⟨⟨a1, b1⟩, rfl⟩
    · rw [b2, if_pos rfl]
      exact Or.inr ⟨fun h => b1 h.2, rfl⟩
  · rw [a2, if_pos rfl]
    exact Or.inr ⟨fun h => a1 h.1, rfl⟩
end OPS
theorem op_may : Stp_may Rel := by
  rintro n MK MM - ⟨N, sg, pt, nm, hb⟩ x y
  have h1 := hb.1
  have h3 := hb.2.2.1
  have h4 := hb.2.2.2.1
  have hN := h1.1
  rcases nd2 x y N hN with ⟨i, k, hi, hk, rfl, rfl⟩ | hno
  · obtain ⟨MK1, MM1, e1, e2, hb1, d1, d2, -⟩ := catch_both hb
    have ka : Kn_may (nI i) (nI k) MK = Option.bind (St_mayStand (nI i) (nI k) MK1) (fun q4 => if q4 = 0 then some ((0 : Int32), MK1) else some ((1 : Int32), MK1)) := by
      unfold Kn_may
      rw [kn_has h3 hN hi, Option.bind_some, if_neg one_ne, kn_has h3 hN hk, Option.bind_some, if_neg one_ne, e1, Option.bind_some]
    have ma : Mo_may (nI i) (nI k) MM = if MM1.1 11 (60 * i + k) = 0 then some ((0 : Int32), MM1) else some ((1 : Int32), MM1) := by
      unfold Mo_may
      rw [mo_areNodes h4 hN hi hk, Option.bind_some, if_neg one_ne, e2, Option.bind_some, l_60, nI_mul, nI_add, ck_in (by omega) (by omega), ix_nI (by omega)]
    rcases st_may (by omega) (by omega) (d1 i k hi hk) with ⟨a1, a2⟩ | ⟨a1, a2⟩
    · rcases (d2 i k hi hk).2 with ⟨b1, b2⟩ | ⟨b1, b2⟩
      · exact ⟨1, MK1, MM1, by rw [ka, a2, Option.bind_some, if_neg one_ne], by rw [ma, b2, if_neg one_ne], N, sg, pt, nm, hb1⟩
      · exact absurd a1 b1
    · rcases (d2 i k hi hk).2 with ⟨b1, b2⟩ | ⟨b1, b2⟩
      · exact absurd b1 a1
      · exact ⟨0, MK1, MM1, by rw [ka, a2, Option.bind_some, if_pos rfl], by rw [ma, b2, if_pos rfl], N, sg, pt, nm, hb1⟩
  · obtain ⟨e1, e2⟩ := no_may h3 h4 hN hno
    exact ⟨_, _, _, e1, e2, Rel_up ⟨N, sg, pt, nm, hb⟩⟩
theorem op_alike : Stp_alike Rel := by
  rintro n MK MM - ⟨N, sg, pt, nm, hb⟩ x y
  have h1 := hb.1
  have h3 := hb.2.2.1
  have h4 := hb.2.2.2.1
  have hN := h1.1
  rcases nd2 x y N hN with ⟨i, k, hi, hk, rfl, rfl⟩ | hno
  · obtain ⟨MK1, MM1, e1, e2, hb1, d1, d2, -⟩ := catch_both hb
    have ka : Kn_alike (nI i) (nI k) MK = Option.bind (St_areAlike (nI i) (nI k) MK1) (fun q4 => if q4 = 0 then some ((0 : Int32), MK1) else some ((1 : Int32), MK1)) := by
      unfold Kn_alike
      rw [kn_has h3 hN hi, Option.bind_some, if_neg one_ne, kn_has h3 hN hk, Option.bind_some, if_neg one_ne, e1, Option.bind_some]
    have ma : Mo_alike (nI i) (nI k) MM = Option.bind (Mo_areAlike (nI i) (nI k) MM1) (fun q3 => if q3 = 0 then some ((0 : Int32), MM1) else some ((1 : Int32), MM1)) := by
      unfold Mo_alike
      rw [mo_areNodes h4 hN hi hk, Option.bind_some, if_neg one_ne, e2, Option.bind_some]
    rcases st_alike hN d1 hi hk with ⟨a1, a2⟩ | ⟨a1, a2⟩
    · rcases mo_alike hN d2 hi hk with ⟨b1, b2⟩ | ⟨b1, b2⟩
      · exact ⟨1, MK1, MM1, by rw [ka, a2, Option.bind_some, if_neg one_ne], by rw [ma, b2, Option.bind_some, if_neg one_ne], N, sg, pt, nm, hb1⟩
      · exact absurd a1 b1
    · rcases mo_alike hN d2 hi hk with ⟨b1, b2⟩ | ⟨b1, b2⟩
      · exact absurd b1 a1
      · exact ⟨0, MK1, MM1, by rw [ka, a2, Option.bind_some, if_pos rfl], by rw [ma, b2, Option.bind_some, if_pos rfl], N, sg, pt, nm, hb1⟩
  · obtain ⟨e1, e2⟩ := no_alike h3 h4 hN hno
    exact ⟨_, _, _, e1, e2, Rel_up ⟨N, sg, pt, nm, hb⟩⟩
theorem op_end : Stp_end Rel := by
  rintro n MK MM - ⟨N, sg, pt, nm, hb⟩ x y
  have h1 := hb.1
  have h3 := hb.2.2.1
  have h4 := hb.2.2.2.1
  have hN := h1.1
  rcases nd2 x y N hN with ⟨i, k, hi, hk, rfl, rfl⟩ | hno
  · obtain ⟨MK1, MM1, e1, e2, hb1, d1, d2, -⟩ := catch_both hb
    have k3 := hb1.2.2.1
    have k4 := hb1.2.2.2.1
    have ka : Kn_end (nI i) (nI k) MK = Option.bind (St_endOfWay (nI i) (nI k) MK1) (fun q4 => some (q4, MK1)) := by
      unfold Kn_end
      rw [kn_has h3 hN hi, Option.bind_some, if_neg one_ne, kn_has h3 hN hk, Option.bind_some, if_neg one_ne, e1, Option.bind_some]
    have ma : Mo_end (nI i) (nI k) MM = if MM1.1 11 (60 * i + k) = 0 then Option.bind (Mo_follow (nI i) (nI k) (-6 : Int32) MM1) (fun q4 => some (((100 : Int32) * ((q4.2.1 0 18) / (60 : Int32))) + ((q4.2.1 0 18) - (q4.2.1 0 18) / (60 : Int32) * (60 : Int32)), q4.2)) else some ((-6 : Int32), MM1) := by
      unfold Mo_end
      rw [mo_areNodes h4 hN hi hk, Option.bind_some, if_neg one_ne, e2, Option.bind_some]
      have hx : (60 : Int32) * nI i + nI k = nI (60 * i + k) := by rw [l_60, nI_mul, nI_add]
      rw [hx, ck_in (by omega) (by omega), ix_nI (by omega)]
    rcases (d2 i k hi hk).2 with ⟨b1, b2⟩ | ⟨b1, b2⟩
    · refine ⟨-6, MK1, MM1, ?_, by rw [ma, b2, if_neg one_ne], N, sg, pt, nm, hb1⟩
      rw [ka]
      unfold St_endOfWay
      rw [st_down_my d1 hN hi hk b1, Option.bind_some, if_pos rfl, Option.bind_some]
    · rcases My_or (sg := sg) (pt := pt) (i := i) (k := k) with c | ⟨v, hv⟩
      · exact absurd c b1
      have hlt := Dv_lt h1 hi hk hv
      obtain ⟨own, MM2, a, b, f1, f2, f3, f4, f5, -⟩ := mo_follow h1 k4 d2 hi hk hv (-6)
      obtain ⟨a2, b2', g1, g2⟩ := st_after h1 k3 d1 hi hk hv (Nat.le_refl v)
      obtain ⟨rfl, rfl⟩ := Pth_uniq g1 f5
      refine ⟨(100 : Int32) * (nI (60 * a2 + b2') / 60) + (nI (60 * a2 + b2') - nI (60 * a2 + b2') / 60 * 60), MK1, MM2, ?_, ?_, N, sg, pt, nm, RelB_keep (TK := []) (TM := [0]) (F := [18]) hb1 Fr.rf f2 (fun x hx => f3 x (fun e => hx (by rw [e]; exact List.mem_singleton.mpr rfl))) (by decide) (by decide) (by decide)⟩
      · rw [ka]
        unfold St_endOfWay
        rw [st_down_v h1 d1 hi hk hv, Option.bind_some, if_neg (nI_neg6 (by omega)), g2, Option.bind_some, Option.bind_some]
      · rw [ma, b2, if_pos rfl, f1, Option.bind_some, f4]
  · obtain ⟨e1, e2⟩ := no_end h3 h4 hN hno
    exact ⟨_, _, _, e1, e2, Rel_up ⟨N, sg, pt, nm, hb⟩⟩
theorem st_through {M : QM} (x : Int32) {s : Nat} : St_stepThrough x (nI s) M = some (nI (cOf x s)) := by
  unfold St_stepThrough cOf
  by_cases h1 : x = 42
  · rw [if_pos h1, if_pos h1]; rfl
  · rw [if_neg h1, if_neg h1]
    by_cases h2 : x = 62
    · rw [if_pos h2, if_pos h2, show (9 : Int32) = nI 9 from rfl, nI_add]
    · rw [if_neg h2, if_neg h2]
theorem op_way : Stp_way Rel := by
  rintro n MK MM - ⟨N, sg, pt, nm, hb⟩ x y z
  have h1 := hb.1
  have h3 := hb.2.2.1
  have h4 := hb.2.2.2.1
  have hN := h1.1
  rcases nd2 x y N hN with ⟨i, k, hi, hk, rfl, rfl⟩ | hno
  · obtain ⟨MK1, MM1, e1, e2, hb1, d1, d2, -⟩ := catch_both hb
    have k3 := hb1.2.2.1
    have k4 := hb1.2.2.2.1
    have ka : Kn_way (nI i) (nI k) z MK = if z = (-1 : Int32) then Option.bind (St_stepsDown (nI i) (nI k) MK1) (fun q5 => some (q5, MK1)) else Option.bind (St_stepDown (nI i) (nI k) z MK1) (fun q4 => some (q4, MK1)) := by
      unfold Kn_way
      rw [kn_has h3 hN hi, Option.bind_some, if_neg one_ne, kn_has h3 hN hk, Option.bind_some, if_neg one_ne, e1, Option.bind_some]
    have ma : Mo_way (nI i) (nI k) z MM = if MM1.1 11 (60 * i + k) = 0 then (if z = (-1 : Int32) then some (MM1.1 12 (60 * i + k), MM1) else Option.bind (Mo_follow (nI i) (nI k) z MM1) (fun q4 => some (q4.1, q4.2))) else some ((-6 : Int32), MM1) := by
      unfold Mo_way
      rw [mo_areNodes h4 hN hi hk, Option.bind_some, if_neg one_ne, e2, Option.bind_some]
      have hx : (60 : Int32) * nI i + nI k = nI (60 * i + k) := by rw [l_60, nI_mul, nI_add]
      rw [hx, ck_in (by omega) (by omega), ck_in (by omega) (by omega), ix_nI (by omega)]
    have e0 : (0 : Int32).toInt = 0 := by decide
    have e6 : (-6 : Int32).toInt = -6 := by decide
    rcases (d2 i k hi hk).2 with ⟨b1, b2⟩ | ⟨b1, b2⟩
    · refine ⟨-6, MK1, MM1, ?_, by rw [ma, b2, if_neg one_ne], N, sg, pt, nm, hb1⟩
      rw [ka]
      by_cases hz : z = -1
      · rw [if_pos hz, st_down_my d1 hN hi hk b1, Option.bind_some]
      · rw [if_neg hz]
        unfold St_stepDown
        by_cases z0 : z < 0
        · rw [if_pos z0, Option.bind_some]
        · rw [if_neg z0, st_down_my d1 hN hi hk b1, Option.bind_some, if_neg (show ¬ z < -6 by rw [i_lt, e6]; rw [i_lt, e0] at z0; omega), Option.bind_some]
    · rcases My_or (sg := sg) (pt := pt) (i := i) (k := k) with c | ⟨v, hv⟩
      · exact absurd c b1
      have hlt := Dv_lt h1 hi hk hv
      by_cases hz : z = -1
      · refine ⟨nI v, MK1, MM1, ?_, ?_, N, sg, pt, nm, hb1⟩
        · rw [ka, if_pos hz, st_down_v h1 d1 hi hk hv, Option.bind_some]
        · rw [ma, b2, if_pos rfl, if_pos hz, (Dok_is (d2 i k hi hk).1 (by omega) (by omega) hlt).mpr hv]
      · obtain ⟨own, MM2, a, b, f1, f2, f3, f4, f5, f6⟩ := mo_follow h1 k4 d2 hi hk hv z
        refine ⟨own, MK1, MM2, ?_, ?_, N, sg, pt, nm, RelB_keep (TK := []) (TM := [0]) (F := [18]) hb1 Fr.rf f2 (fun x hx => f3 x (fun e => hx (by rw [e]; exact List.mem_singleton.mpr rfl))) (by decide) (by decide) (by decide)⟩
        · rw [ka, if_neg hz]
          unfold St_stepDown
          rcases f6 with ⟨u, x, y, s, a', b', u1, rfl, u3, u4, u5⟩ | ⟨u1, u2⟩
          · obtain ⟨p, q, g1, g2⟩ := st_after h1 k3 d1 hi hk hv (Nat.le_of_lt u1)
            obtain ⟨rfl, rfl⟩ := Pth_uniq g1 u3
            obtain ⟨w1, w2, w3⟩ := Pth_fact h1 hi hk hv (Nat.le_of_lt u1) g1
            rw [if_neg (nI_pos (by omega)), st_down_v h1 d1 hi hk hv, Option.bind_some, if_pos (by rw [nI_ltI (by omega) (by omega)]; exact u1), g2, Option.bind_some, (div_60 p q (by omega) (by omega)).1, kn_sign k3 hN w1, Option.bind_some]
            have w4 : Dv sg pt p q (v - u - 1 + 1) := by
              have : v - u - 1 + 1 = v - u := by omega
              rw [this]; exact w3
            rw [st_first h1 k3 d1 w1 w2 w4 u4, Option.bind_some, st_through, Option.bind_some, Option.bind_some, u5]
          · by_cases z0 : z < 0
            · rw [if_pos z0, Option.bind_some, u2]
            · rw [if_neg z0, st_down_v h1 d1 hi hk hv, Option.bind_some, if_neg, Option.bind_some, u2]
              intro hzv
              rw [i_lt, nI_toInt (by omega)] at hzv
              rw [i_lt, e0] at z0
              refine u1 z.toInt.toNat (by omega) ?_
              rw [i_eq, nI_toInt (by omega)]
              omega
        · rw [ma, b2, if_pos rfl, if_neg hz, f1, Option.bind_some]
  · obtain ⟨e1, e2⟩ := no_way h3 h4 hN (z := z) hno
    exact ⟨_, _, _, e1, e2, Rel_up ⟨N, sg, pt, nm, hb⟩⟩
theorem op_count : Stp_count Rel := by
  rintro n MK MM - ⟨N, sg, pt, nm, hb⟩ x y
  have hR : Rel n MK MM := ⟨N, sg, pt, nm, hb⟩
  obtain ⟨h1, h2, h3, h4, h5, h6, h7, h8, h9, h10⟩ := hb
  have hN := h1.1
  rcases nd_cases x N (by omega) with ⟨i, hi, rfl⟩ | hx
  · have e1 : (1 : Int32).toInt = 1 := by decide
    have e12 : (12 : Int32).toInt = 12 := by decide
    by_cases hy : 1 ≤ y.toInt ∧ y.toInt ≤ 12
    · obtain ⟨s, hs1, hs2, rfl⟩ : ∃ s : Nat, 1 ≤ s ∧ s ≤ 12 ∧ y = nI s := ⟨y.toInt.toNat, by omega, by omega, by rw [i_eq, nI_toInt (by omega)]; omega⟩
      obtain ⟨MK2, c1, c2, c3, c4⟩ := co_catchUp h1 h3 h8
      obtain ⟨MM2, m1, m2⟩ := mo_count h1 h4 hi hs1 hs2
      refine ⟨_, MK2, MM2, ?_, m1, N, sg, pt, nm, h1, ?_, ?_, ?_, ?_, ?_, ?_, ?_, ?_, ?_⟩
      · unfold Kn_count Co_valuesOf
        rw [kn_has h3 hN hi, Option.bind_some, if_neg one_ne, if_neg (show ¬ nI s < 1 by rw [i_lt, nI_toInt (by omega), e1]; omega), if_pos (show nI s ≤ 12 by rw [i_le, nI_toInt (by omega), e12]; omega), c1, Option.bind_some, co_found (by omega) hs1 hs2, Option.bind_some, Option.bind_some, c4 i s hi hs1 hs2]
      · exact PadR_eq h2 (c2 1 (by decide)).1 (c2 2 (by decide)).1 (by rw [(m2 0 (by decide)).1]) (m2 1 (by decide)).1
      · exact NetK_fr c2 (by decide) h3
      · exact NetM_fr m2 (by rw [(m2 0 (by decide)).1]) (by decide) h4
      · exact StK_eq h5 (by rw [(c2 14 (by decide)).1]) (c2 15 (by decide)).1
      · exact LaM_eq h6 (by rw [(m2 0 (by decide)).1]) (m2 11 (by decide)).1 (m2 12 (by decide)).1
      · exact ReK_eq h7 (by rw [(c2 14 (by decide)).1]) (c2 17 (by decide)).1
      · exact ⟨N, Nat.le_refl N, c3, fun i s j hi hj => (h1.2.2.1 i s j hi hj).1, c4⟩
      · exact LeK_eq h9 (by rw [(c2 31 (by decide)).1]) (c2 32 (by decide)).1
      · rw [(c2 9 (by decide)).1]; exact h10
    · refine ⟨-2, MK, MM, ?_, ?_, Rel_up hR⟩
      · unfold Kn_count
        rw [kn_has h3 hN hi, Option.bind_some, if_neg one_ne]
        by_cases y1 : y < 1
        · rw [if_pos y1]
        · rw [if_neg y1, if_neg]
          rw [i_lt, e1] at y1
          rw [i_le, e12]
          omega
      · unfold Mo_count Mo_in
        rw [mo_isNode h4 hN hi, Option.bind_some, if_neg one_ne]
        by_cases y1 : y < 1
        · rw [if_pos y1, Option.bind_some, if_pos rfl]
        · rw [if_neg y1, if_pos, Option.bind_some, if_pos rfl]
          rw [i_lt, e1] at y1
          rw [i_lt, e12]
          omega
  · refine ⟨-1, MK, MM, ?_, ?_, Rel_up hR⟩
    · unfold Kn_count
      rw [kn_has_no h3 hN hx, Option.bind_some, if_pos rfl]
    · unfold Mo_count
      rw [mo_isNode_no h4 hN hx, Option.bind_some, if_pos rfl]
section LEA
variable {n : Nat} {MK MM : QM} {N : Nat} {sg : Nat → Int32} {pt : Nat → Nat → Option Nat} {nm : Nat → Option Nat}
theorem least_both (hb : RelB n MK MM N sg pt nm) : ∃ (MK2 MM2 : QM) (f g : Nat → Nat), Le_catchUp MK = some MK2 ∧ Mo_layLeast MM = some MM2 ∧ RelB (n + 1) MK2 MM2 N sg pt nm ∧ (∀ i, i < N → MK2.1 32 i = nI (f i) ∧ f i ≤ 41) ∧ (∀ i, i < N → MM2.1 24 i = nI (g i) ∧ g i ≤ 100000) ∧ ∀ i, i < N → (f i ≤ 40 ∧ g i = f i) ∨ (40 < f i ∧ 40 < g i) := by
  obtain ⟨h1, h2, h3, h4, h5, h6, h7, h8, h9, h10⟩ := hb
  obtain ⟨MK2, f, c1, c2, c3, c4, c5⟩ := le_catchUp h1 h3 h9
  obtain ⟨MM2, g, m1, m2, m3, m4⟩ := mo_layLeast h1 h4
  have hc : Clo N pt := fun i s j hi hj => (h1.2.2.1 i s j hi hj).1
  refine ⟨MK2, MM2, f, g, c1, m1, ⟨h1, ?_, ?_, ?_, ?_, ?_, ?_, ?_, ?_, ?_⟩, fun i hi => ⟨(c5 i hi).1, (c5 i hi).2.2⟩, m4, ?_⟩
  · exact PadR_eq h2 (c2 1 (by decide)).1 (c2 2 (by decide)).1 (by rw [(m2 0 (by decide)).1]) (m2 1 (by decide)).1
  · exact NetK_fr c2 (by decide) h3
  · exact NetM_fr m2 (by rw [(m2 0 (by decide)).1]) (by decide) h4
  · exact StK_eq h5 (by rw [(c2 14 (by decide)).1]) (c2 15 (by decide)).1
  · exact LaM_eq h6 (by rw [(m2 0 (by decide)).1]) (m2 11 (by decide)).1 (m2 12 (by decide)).1
  · exact ReK_eq h7 (by rw [(c2 14 (by decide)).1]) (c2 17 (by decide)).1
  · exact CoK_eq h8 (by rw [(c2 28 (by decide)).1]) (c2 29 (by decide)).2
  · exact ⟨N, f, Nat.le_refl N, c3, hc, c4, c5⟩
  · rw [(c2 9 (by decide)).1]; exact h10
  · intro i hi
    have key := IsL_le (T := 41) hc (by omega) (by omega) c4 m3
    by_cases hf : f i ≤ 40
    · exact Or.inl ⟨hf, (key (f i) (by omega) i hi).mp rfl⟩
    · refine Or.inr ⟨by omega, ?_⟩
      by_cases hg : g i ≤ 40
      · have := (key (g i) (by omega) i hi).mpr rfl
        omega
      · omega
end LEA
theorem op_least : Stp_least Rel := by
  rintro n MK MM - ⟨N, sg, pt, nm, hb⟩ x
  have h1 := hb.1
  have h3 := hb.2.2.1
  have h4 := hb.2.2.2.1
  have hN := h1.1
  unfold Kn_least Mo_least
  rcases nd_cases x N (by omega) with ⟨i, hi, rfl⟩ | hx
  · obtain ⟨MK2, MM2, f, g, c1, m1, hb2, c2, m2, hfg⟩ := least_both hb
    unfold Le_leastOf
    rw [kn_has h3 hN hi, Option.bind_some, if_neg one_ne, c1, Option.bind_some, le_found (by omega), Option.bind_some, (c2 i hi).1, mo_isNode h4 hN hi, Option.bind_some, Option.bind_some, if_neg one_ne, m1, Option.bind_some, ck_in (by omega) (by omega), ck_in (by omega) (by omega), ix_nI (by omega), (m2 i hi).1]
    have b1 := (c2 i hi).2
    have b2 := (m2 i hi).2
    rcases hfg i hi with ⟨q1, q2⟩ | ⟨q1, q2⟩
    · rw [if_pos (show nI (f i) ≤ 40 by rw [l_40, nI_leI (by omega) (by omega)]; exact q1), if_pos (show nI (g i) ≤ 40 by rw [l_40, nI_leI (by omega) (by omega)]; omega), Option.bind_some, q2]
      exact ⟨_, _, _, rfl, rfl, N, sg, pt, nm, hb2⟩
    · rw [if_neg (show ¬ nI (f i) ≤ 40 by rw [l_40, nI_leI (by omega) (by omega)]; omega), if_neg (show ¬ nI (g i) ≤ 40 by rw [l_40, nI_leI (by omega) (by omega)]; omega), Option.bind_some]
      exact ⟨_, _, _, rfl, rfl, N, sg, pt, nm, hb2⟩
  · rw [kn_has_no h3 hN hx, Option.bind_some, if_pos rfl, mo_isNode_no h4 hN hx, Option.bind_some, if_pos rfl]
    exact ⟨_, _, _, rfl, rfl, Rel_up ⟨N, sg, pt, nm, hb⟩⟩
/-! counting -/
noncomputable def bl (p : Prop) : Nat := @ite Nat p (Classical.propDecidable p) 1 0
theorem bl_1 {p : Prop} (h : p) : bl p = 1 := by unfold bl; rw [if_pos h]
theorem bl_0 {p : Prop} (h : ¬ p) : bl p = 0 := by unfold bl; rw [if_neg h]
theorem bl_le {p : Prop} : bl p ≤ 1 := by unfold bl; split <;> omega
theorem tot_s (f : Nat → Nat) (n : Nat) : tot f (n + 1) = tot f n + f n := rfl
theorem bl_tot_le (p : Nat → Prop) (n : Nat) : tot (fun k => bl (p k)) n ≤ n := by
  induction n with
  | zero => exact Nat.le_refl 0
  | succ n ih => rw [tot_s]; have := bl_le (p := p n); omega
/-- a loop that counts -/
theorem iter_cnt {B : Int32 × Int32 → Option (Int32 ⊕ (Int32 × Int32))} (p : Nat → Prop) (m c : Nat) (hm : m < 10000000)
    (hs : ∀ k, k < m → ∀ a : Int32, B (a, nI k) = some (.inr (a + nI (bl (p k)), nI (k + 1))))
    (hf : ∀ a : Int32, B (a, nI m) = some (.inl a)) : iter B FU (nI c, (0 : Int32)) = some (nI (c + tot (fun k => bl (p k)) m)) := by
  obtain ⟨b, hb, hq⟩ := iter_0 (B := B) (fun k v => v = (nI (c + tot (fun k => bl (p k)) k), nI k)) (fun b => b = nI (c + tot (fun k => bl (p k)) m)) m hm
    (fun k a hk ha => by
      subst ha
      refine Or.inl ⟨_, hs k hk _, ?_⟩
      rw [nI_add, tot_s, Nat.add_assoc])
    (fun a ha => by
      subst ha
      exact ⟨_, hf _, rfl⟩) (nI c, 0) rfl
  rw [hb, hq]
theorem a0 (a : Int32) {p : Prop} (h : ¬ p) : a + nI (bl p) = a := by rw [bl_0 h]; exact Int32.add_zero a
theorem a1 (a : Int32) {p : Prop} (h : p) : a + nI (bl p) = a + 1 := by rw [bl_1 h]; rfl
theorem op_told : Stp_told Rel := by
  rintro n MK MM - ⟨N, sg, pt, nm, hb⟩ x
  have hR : Rel n MK MM := ⟨N, sg, pt, nm, hb⟩
  have h1 := hb.1
  have h3 := hb.2.2.1
  have h4 := hb.2.2.2.1
  have hN := h1.1
  unfold Kn_told Mo_told
  by_cases c0 : x = 0
  · rw [if_pos c0, if_pos c0]
    obtain ⟨pn, p1, p2, p3, p4⟩ := hb.2.1
    unfold Pa_length
    rw [Option.bind_some, p2, p3]
    exact ⟨_, _, _, rfl, rfl, Rel_up hR⟩
  rw [if_neg c0, if_neg c0]
  by_cases c1 : x = 1
  · rw [if_pos c1, if_pos c1, kn_nodes h3, Option.bind_some, h4.1]
    exact ⟨_, _, _, rfl, rfl, Rel_up hR⟩
  rw [if_neg c1, if_neg c1]
  by_cases c2 : x = 2
  · rw [if_pos c2, if_pos c2]
    have hj : ∀ k j, nm k = some j → j < 2 ^ 31 := fun k j h => by have := h1.2.2.2.1 k j h; omega
    have ka : iter (Ne_namesTold_B4 MK) FU ((0 : Int32), (0 : Int32)) = some (nI (0 + tot (fun k => bl (nm k ≠ none)) 8)) := by
      refine iter_cnt (c := 0) (fun k => nm k ≠ none) 8 (by omega) (fun k hk a => ?_) (fun a => ?_)
      · unfold Ne_namesTold_B4
        dsimp only
        rw [if_neg (show ¬ (8 : Int32) ≤ nI k by rw [l_8, nI_leI (by omega) (by omega)]; omega), kn_name h3 hk, Option.bind_some, nI_1]
        by_cases hn : nm k = none
        · rw [if_pos ((enc_none_iff (hj k)).mpr hn), a0 a (by simp [hn])]
        · rw [if_neg (fun h => hn ((enc_none_iff (hj k)).mp h)), a1 a hn]
      · unfold Ne_namesTold_B4
        dsimp only
        rw [if_pos (show (8 : Int32) ≤ nI 8 by decide)]
    have ma : iter (Mo_told_B48 MM) FU ((0 : Int32), (0 : Int32)) = some (nI (0 + tot (fun k => bl (nm k ≠ none)) 8)) := by
      refine iter_cnt (c := 0) (fun k => nm k ≠ none) 8 (by omega) (fun k hk a => ?_) (fun a => ?_)
      · unfold Mo_told_B48
        dsimp only
        rw [if_neg (show ¬ (8 : Int32) ≤ nI k by rw [l_8, nI_leI (by omega) (by omega)]; omega), ck_in hk (by omega), ix_nI (by omega), h4.2.2.2 k hk, nI_1]
        by_cases hn : nm k = none
        · rw [if_pos ((enc_neg (hj k)).mpr hn), a0 a (by simp [hn]), Int32.add_zero]
        · rw [if_neg (fun h => hn ((enc_neg (hj k)).mp h)), a1 a hn]
      · unfold Mo_told_B48
        dsimp only
        rw [if_pos (show (8 : Int32) ≤ nI 8 by decide)]
    unfold Ne_namesTold
    rw [ka, ma, Option.bind_some, Option.bind_some, Option.bind_some]
    exact ⟨_, _, _, rfl, rfl, Rel_up hR⟩
  rw [if_neg c2, if_neg c2]
  by_cases c3 : x = 3
  · rw [if_pos c3, if_pos c3]
    obtain ⟨MK2, MM2, f, g, q1, m1, hb2, q2, m2, hfg⟩ := least_both hb
    have k3 := hb2.2.2.1
    have k4 := hb2.2.2.2.1
    have ka : iter (Le_emptyNodes_B8 MK2) FU ((0 : Int32), (0 : Int32)) = some (nI (0 + tot (fun k => bl (40 < f k)) N)) := by
      refine iter_cnt (c := 0) (fun k => 40 < f k) N (by omega) (fun k hk a => ?_) (fun a => ?_)
      · have b1 := (q2 k hk).2
        unfold Le_emptyNodes_B8
        dsimp only
        rw [kn_nodes k3, Option.bind_some, if_neg (show ¬ nI N ≤ nI k by rw [nI_leI (by omega) (by omega)]; omega), le_found (by omega), Option.bind_some, (q2 k hk).1, nI_1]
        by_cases hn : f k ≤ 40
        · rw [if_pos (show nI (f k) ≤ 40 by rw [l_40, nI_leI (by omega) (by omega)]; exact hn), a0 a (by omega)]
        · rw [if_neg (show ¬ nI (f k) ≤ 40 by rw [l_40, nI_leI (by omega) (by omega)]; exact hn), a1 a (by omega)]
      · unfold Le_emptyNodes_B8
        dsimp only
        rw [kn_nodes k3, Option.bind_some, if_pos (show nI N ≤ nI N by rw [nI_leI (by omega) (by omega)]; omega)]
    have ma : iter (Mo_told_B85 MM2) FU ((0 : Int32), (0 : Int32)) = some (nI (0 + tot (fun k => bl (40 < f k)) N)) := by
      refine iter_cnt (c := 0) (fun k => 40 < f k) N (by omega) (fun k hk a => ?_) (fun a => ?_)
      · have b2 := (m2 k hk).2
        unfold Mo_told_B85
        dsimp only
        rw [k4.1, if_neg (show ¬ nI N ≤ nI k by rw [nI_leI (by omega) (by omega)]; omega), ck_in (by omega) (by omega), ix_nI (by omega), (m2 k hk).1, nI_1]
        rcases hfg k hk with ⟨w1, w2⟩ | ⟨w1, w2⟩
        · rw [if_pos (show nI (g k) ≤ 40 by rw [l_40, nI_leI (by omega) (by omega)]; omega), a0 a (by omega), Int32.add_zero]
        · rw [if_neg (show ¬ nI (g k) ≤ 40 by rw [l_40, nI_leI (by omega) (by omega)]; omega), a1 a w1]
      · unfold Mo_told_B85
        dsimp only
        rw [k4.1, if_pos (show nI N ≤ nI N by rw [nI_leI (by omega) (by omega)]; omega)]
    unfold Le_emptyNodes
    rw [q1, Option.bind_some, ka, Option.bind_some, Option.bind_some, m1, Option.bind_some, ma, Option.bind_some]
    exact ⟨_, _, _, rfl, rfl, N, sg, pt, nm, hb2⟩
  rw [if_neg c3, if_neg c3]
  by_cases c4 : x = 4
  · rw [if_pos c4, if_pos c4]
    obtain ⟨MK1, MM1, e1, e2, hb1, d1, d2, -⟩ := catch_both hb
    have k3 := hb1.2.2.1
    have k4 := hb1.2.2.2.1
    have ka : ∀ i c, i < N → iter (St_pairsThatMay_B17 (nI i) MK1) FU (nI c, (0 : Int32)) = some (nI (c + tot (fun k => bl (i ≠ k ∧ My sg pt i k)) N)) := by
      intro i c hi
      refine iter_cnt (fun k => i ≠ k ∧ My sg pt i k) N c (by omega) (fun k hk a => ?_) (fun a => ?_)
      · unfold St_pairsThatMay_B17
        dsimp only
        rw [kn_nodes k3, Option.bind_some, if_neg (show ¬ nI N ≤ nI k by rw [nI_leI (by omega) (by omega)]; omega), nI_1]
        by_cases hik : i = k
        · rw [if_pos (by rw [hik]), a0 a (fun h => h.1 hik)]
        · rw [if_neg (show ¬ nI i = nI k from fun h => hik ((nI_eq (by omega) (by omega)).mp h))]
          rcases st_may (by omega) (by omega) (d1 i k hi hk) with ⟨a1', a2⟩ | ⟨a1', a2⟩
          · rw [a2, Option.bind_some, if_neg one_ne, a1 a ⟨hik, a1'⟩]
          · rw [a2, Option.bind_some, if_pos rfl, a0 a (fun h => a1' h.2)]
      · unfold St_pairsThatMay_B17
        dsimp only
        rw [kn_nodes k3, Option.bind_some, if_pos (show nI N ≤ nI N by rw [nI_leI (by omega) (by omega)]; omega)]
    have ma : ∀ i c, i < N → iter (Mo_told_B137 (nI i) MM1) FU (nI c, (0 : Int32)) = some (nI (c + tot (fun k => bl (i ≠ k ∧ My sg pt i k)) N)) := by
      intro i c hi
      refine iter_cnt (fun k => i ≠ k ∧ My sg pt i k) N c (by omega) (fun k hk a => ?_) (fun a => ?_)
      · unfold Mo_told_B137
        dsimp only
        rw [k4.1, if_neg (show ¬ nI N ≤ nI k by rw [nI_leI (by omega) (by omega)]; omega), l_60, nI_mul, nI_add, ck_in (by omega) (by omega), ix_nI (by omega), nI_1]
        rcases (d2 i k hi hk).2 with ⟨b1, b2⟩ | ⟨b1, b2⟩
        · rw [b2, if_neg one_ne]
          by_cases hik : i = k
          · rw [if_pos (by rw [hik]), a0 a (fun h => h.1 hik), Int32.add_zero]
          · rw [if_neg (show ¬ nI i = nI k from fun h => hik ((nI_eq (by omega) (by omega)).mp h)), a1 a ⟨hik, b1⟩]
        · rw [b2, if_pos rfl, a0 a (fun h => b1 h.2), Int32.add_zero]
      · unfold Mo_told_B137
        dsimp only
        rw [k4.1, if_pos (show nI N ≤ nI N by rw [nI_leI (by omega) (by omega)]; omega)]
    have kb : iter (St_pairsThatMay_B4 MK1) FU ((0 : Int32), (0 : Int32)) = some (nI (tot (fun i => tot (fun k => bl (i ≠ k ∧ My sg pt i k)) N) N)) := by
      obtain ⟨b, hb, hq⟩ := iter_0 (B := St_pairsThatMay_B4 MK1) (fun k v => v = (nI (tot (fun i => tot (fun k => bl (i ≠ k ∧ My sg pt i k)) N) k), nI k)) (fun b => b = nI (tot (fun i => tot (fun k => bl (i ≠ k ∧ My sg pt i k)) N) N)) N (by omega)
        (fun k a hk ha => by
          subst ha
          refine Or.inl ⟨_, ?_, rfl⟩
          unfold St_pairsThatMay_B4
          dsimp only
          rw [kn_nodes k3, Option.bind_some, if_neg (show ¬ nI N ≤ nI k by rw [nI_leI (by omega) (by omega)]; omega), ka k _ hk, Option.bind_some, nI_1]
          rfl)
        (fun a ha => by
          subst ha
          refine ⟨_, ?_, rfl⟩
          unfold St_pairsThatMay_B4
          dsimp only
          rw [kn_nodes k3, Option.bind_some, if_pos (show nI N ≤ nI N by rw [nI_leI (by omega) (by omega)]; omega)]) (0, 0) rfl
      rw [hb, hq]
    have mb : iter (Mo_told_B126 MM1) FU ((0 : Int32), (0 : Int32)) = some (nI (tot (fun i => tot (fun k => bl (i ≠ k ∧ My sg pt i k)) N) N)) := by
      obtain ⟨b, hb, hq⟩ := iter_0 (B := Mo_told_B126 MM1) (fun k v => v = (nI (tot (fun i => tot (fun k => bl (i ≠ k ∧ My sg pt i k)) N) k), nI k)) (fun b => b = nI (tot (fun i => tot (fun k => bl (i ≠ k ∧ My sg pt i k)) N) N)) N (by omega)
        (fun k a hk ha => by
          subst ha
          refine Or.inl ⟨_, ?_, rfl⟩
          unfold Mo_told_B126
          dsimp only
          rw [k4.1, if_neg (show ¬ nI N ≤ nI k by rw [nI_leI (by omega) (by omega)]; omega), ma k _ hk, Option.bind_some, nI_1]
          rfl)
        (fun a ha => by
          subst ha
          refine ⟨_, ?_, rfl⟩
          unfold Mo_told_B126
          dsimp only
          rw [k4.1, if_pos (show nI N ≤ nI N by rw [nI_leI (by omega) (by omega)]; omega)]) (0, 0) rfl
      rw [hb, hq]
    unfold St_pairsThatMay
    rw [e1, Option.bind_some, kb, Option.bind_some, Option.bind_some, e2, Option.bind_some, mb, Option.bind_some]
    exact ⟨_, _, _, rfl, rfl, N, sg, pt, nm, hb1⟩
  rw [if_neg c4, if_neg c4]
  exact ⟨_, _, _, rfl, rfl, Rel_up hR⟩
