/-! COUNT: the program's table caught up; the reference's -/
def CoK (M : QM) (N : Nat) (sg : Nat → Int32) (pt : Nat → Nat → Option Nat) : Prop :=
  ∃ kc : Nat, kc ≤ N ∧ M.1 28 3 = nI kc ∧ Clo kc pt ∧ ∀ i s, i < kc → 1 ≤ s → s ≤ 12 → M.2 29 (13 * i + s) = lN (cN sg pt i s)
section CO2
variable {M : QM} {N : Nat} {sg : Nat → Int32} {pt : Nat → Nat → Option Nat} {nm : Nat → Option Nat}
theorem co_catchUp (hW : WF N sg pt nm) (hK : NetK M N sg pt nm) (hC : CoK M N sg pt) :
    ∃ M2, Co_catchUp M = some M2 ∧ Fr [28, 29, 30] M M2 ∧ M2.1 28 3 = nI N ∧ ∀ i s, i < N → 1 ≤ s → s ≤ 12 → M2.2 29 (13 * i + s) = lN (cN sg pt i s) := by
  have hN := hW.1
  obtain ⟨kc, hle, hkc, hclo, hval⟩ := hC
  unfold Co_catchUp
  rw [kn_nodes hK]
  have hmin : (if (60 : Int32) < nI N then (60 : Int32) else nI N) = nI N := by
    rw [if_neg (by rw [l_60, nI_ltI (by omega) (by omega)]; omega)]
  simp only [Option.bind_some, hmin, hkc]
  rw [if_neg (nI_pos (by omega))]
  by_cases hc : kc < N
  · rw [if_pos ((nI_ltI (by omega) (by omega)).mpr hc)]
    obtain ⟨Ma, h1, hFa, hva⟩ := iter_0 (B := Co_catchUp_B31 (nI N))
      (fun k a => ∃ M1, a = (nI (k + 1), M1) ∧ Fr [29, 30] M M1 ∧ ∀ i t, i < N → 1 ≤ t → t ≤ 12 → (i < kc ∨ t < k + 1) → M1.2 29 (13 * i + t) = lN (cN sg pt i t))
      (fun M1 => Fr [29, 30] M M1 ∧ ∀ i t, i < N → 1 ≤ t → t ≤ 12 → M1.2 29 (13 * i + t) = lN (cN sg pt i t))
      12 (by omega) (fun k a hk ha => by
        obtain ⟨M1, rfl, hF, hv⟩ := ha
        left
        obtain ⟨M2, e1, e2, e3⟩ := iter_0 (B := Co_catchUp_B42 (nI N) (nI (k + 1)))
          (fun n a => ∃ M1, a = (nI (kc + n), M1) ∧ Fr [29, 30] M M1 ∧ ∀ i t, i < N → 1 ≤ t → t ≤ 12 → (i < kc ∨ t < k + 1 ∨ (t = k + 1 ∧ i < kc + n)) → M1.2 29 (13 * i + t) = lN (cN sg pt i t))
          (fun M1 => Fr [29, 30] M M1 ∧ ∀ i t, i < N → 1 ≤ t → t ≤ 12 → (i < kc ∨ t < k + 1 + 1) → M1.2 29 (13 * i + t) = lN (cN sg pt i t))
          (N - kc) (by omega) (fun n a hn ha => by
            obtain ⟨M1, rfl, hF, hv⟩ := ha
            left
            have hK1 : NetK M1 N sg pt nm := NetK_fr hF (by decide) hK
            have hT : TabK M1 N (k + 1) (cN sg pt) := fun i s hi hs1 hs2 => hv i s hi hs1 (by omega) (Or.inr (Or.inl hs2))
            obtain ⟨M2, g1, g2⟩ := co_values hW hK1 (i := kc + n) (s := k + 1) (by omega) (by omega) (by omega) hT (fun i => cN_0 sg pt i) (fun i t ht => cN_le sg pt i t ht)
            rw [← cN_eq sg pt (kc + n) (k + 1) (by omega) (by omega)] at g1
            refine ⟨(nI (kc + (n + 1)), u_l M2 29 (13 * (kc + n) + (k + 1)) (lN (cN sg pt (kc + n) (k + 1)))), ?_, _, rfl, Fr.l 29 (Fr.tr hF (Fr.sub g2 (by decide))) (by decide), fun i t hi ht1 ht2 hor => ?_⟩
            · unfold Co_catchUp_B42
              simp only
              rw [if_neg (by rw [nI_leI (by omega) (by omega)]; omega), g1]
              simp only [Option.bind_some]
              rw [l_13, nI_mul, nI_add, ck_in (by omega) (by omega), ix_nI (by omega), nI_1, Nat.mul_comm (kc + n) 13]
              rfl
            · by_cases hx : 13 * i + t = 13 * (kc + n) + (k + 1)
              · have h5 : i = kc + n := by omega
                have h6 : t = k + 1 := by omega
                subst h5; subst h6
                rw [u_l_e]
              · rw [u_l_k hx, (g2 29 (by decide)).2]
                exact hv i t hi ht1 ht2 (by omega))
          (fun a ha => by
            obtain ⟨M1, rfl, hF, hv⟩ := ha
            refine ⟨M1, ?_, hF, fun i t hi ht1 ht2 hor => hv i t hi ht1 ht2 (by omega)⟩
            unfold Co_catchUp_B42
            simp only
            rw [if_pos (by rw [nI_leI (by omega) (by omega)]; omega)])
          (nI kc, M1) ⟨M1, rfl, hF, fun i t hi ht1 ht2 hor => hv i t hi ht1 ht2 (by omega)⟩
        refine ⟨(nI (k + 1 + 1), M2), ?_, M2, rfl, e2, e3⟩
        unfold Co_catchUp_B31
        simp only
        rw [(hF 28 (by decide)).1, hkc, l_12, if_neg (by rw [nI_ltI (by omega) (by omega)]; omega), e1]
        simp only [Option.bind_some, nI_1])
      (fun a ha => by
        obtain ⟨M1, rfl, hF, hv⟩ := ha
        refine ⟨M1, ?_, hF, fun i t hi ht1 ht2 => hv i t hi ht1 ht2 (by omega)⟩
        unfold Co_catchUp_B31
        simp only
        rw [if_pos (by decide)])
      ((1 : Int32), M) ⟨M, rfl, Fr.rf, fun i t hi ht1 ht2 hor => hval i t (by omega) ht1 ht2⟩
    rw [h1]
    refine ⟨_, rfl, Fr.i 28 (Fr.sub hFa (by decide)) (by decide), u_i_e, hva⟩
  · rw [if_neg (fun z => hc ((nI_ltI (by omega) (by omega)).mp z))]
    have e : kc = N := by omega
    subst e
    exact ⟨M, rfl, Fr.rf, hkc, hval⟩
/-- the reference's table holds the counts of sizes below S -/
def TabM (M : QM) (N S : Nat) (c : Nat → Nat → Nat) : Prop := ∀ i s, i < N → s < S → M.2 21 (13 * i + s) = lN (c i s)
def rs (c : Nat → Nat → Nat) (p : Nat → Option Nat) (u : Nat) : Nat → Nat
  | 0 => 0
  | m + 1 => rs c p u m + (match p m with
    | none => 0
    | some j => c j u)
theorem rs_cap (c : Nat → Nat → Nat) (p : Nat → Option Nat) (u m : Nat) : cap (rs c p u m) = chs c p u m := by
  induction m with
  | zero => rfl
  | succ m ih =>
    simp only [rs, chs]
    rw [← ih]
    cases p m with
    | none => simp only; unfold cap; omega
    | some j => simp only; unfold cap; omega
theorem rs_bd (c : Nat → Nat → Nat) (p : Nat → Option Nat) (u m : Nat) (h : ∀ s j, s < m → p s = some j → c j u ≤ 1000000000) : rs c p u m ≤ 1000000000 * m := by
  induction m with
  | zero => exact Nat.le_refl _
  | succ m ih =>
    have h1 := ih (fun s j hs => h s j (by omega))
    simp only [rs]
    rw [Nat.mul_succ]
    cases hp : p m with
    | none => simp only; omega
    | some j => have := h m j (by omega) hp; simp only; omega
theorem mo_choice (hW : WF N sg pt nm) (hM : NetM M N sg pt nm) {c : Nat → Nat → Nat} {i s : Nat} (hi : i < N) (h1 : 1 ≤ s) (h2 : s ≤ 12) (hT : TabM M N s c) (hb : ∀ i t, t ≤ 12 → c i t ≤ 1000000000) :
    Mo_choiceCount (nI i) (nI s) M = some (lN (chs c (pt i) (s - 1) 8)) := by
  have hN := hW.1
  have hbd : ∀ k, rs c (pt i) (s - 1) k ≤ 1000000000 * k := fun k => rs_bd c (pt i) (s - 1) k (fun q j _ _ => hb j (s - 1) (by omega))
  unfold Mo_choiceCount
  obtain ⟨b, g1, rfl⟩ := iter_0 (B := Mo_choiceCount_B5 (nI i) (nI s) M) (fun k a => a = (lN (rs c (pt i) (s - 1) k), nI k)) (fun b => b = lN (rs c (pt i) (s - 1) 8)) 8 (by omega) (fun k a hk ha => by
    subst ha
    refine Or.inl ⟨(lN (rs c (pt i) (s - 1) (k + 1)), nI (k + 1)), ?_, rfl⟩
    unfold Mo_choiceCount_B5
    simp only
    rw [if_neg (by rw [l_8, nI_leI (by omega) (by omega)]; omega), l_8, nI_mul, nI_add, ck_in (by omega) (by omega), ix_nI (by omega), mo_part hM hi hk]
    cases hp : pt i k with
    | none =>
      rw [if_pos (by rw [enc_none]; decide)]
      simp only [rs, hp, nI_1, Nat.add_zero]
      rw [show (0 : Int64) = lN 0 from rfl, lN_add, Nat.add_zero]
    | some j =>
      have hj := (hW.2.2.1 i k j hi hp).1
      rw [enc_some, if_neg (nI_pos (by omega)), ck_in (by omega) (by omega), l_13, nI_mul, nI_add, nI_pred1 (by omega), ck_in (by omega) (by omega), ix_nI (by omega), show 13 * j + s - 1 = 13 * j + (s - 1) by omega, hT j (s - 1) hj (by omega)]
      simp only [rs, hp, nI_1, lN_add]) (fun a ha => by
    subst ha
    refine ⟨_, ?_, rfl⟩
    unfold Mo_choiceCount_B5
    rw [if_pos (show (8 : Int32) ≤ nI 8 by decide)]) ((0 : Int64), (0 : Int32)) rfl
  rw [g1]
  simp only [Option.bind_some]
  have := hbd 8
  rw [capM (by omega), rs_cap]
  rfl
theorem mo_list (hW : WF N sg pt nm) (hM : NetM M N sg pt nm) {i s : Nat} (hi : i < N) (h1 : 1 ≤ s) (h2 : s ≤ 12) (hT : TabM M N s (cN sg pt)) (h42 : sg i = 42) :
    ∃ M2, Mo_listCount (nI i) (nI s) M = some (lN (cN sg pt i s), M2) ∧ Fr [22] M M2 := by
  have hN := hW.1
  obtain ⟨q, hq⟩ := Option.isSome_iff_exists.mp (hW.2.2.2.2.1 i hi h42).1
  have hqN := (hW.2.2.1 i 0 q hi hq).1
  have hone : cN sg pt i 1 = 1 := by rw [cN_eq sg pt i 1 (by omega) (by omega)]; unfold CF; rw [if_pos h42, if_pos rfl]
  have hrec : ∀ j, 1 ≤ j → j ≤ 11 → cN sg pt i (j + 1) = cf (fun t => cN sg pt i (j - t + 1) * cN sg pt q t) j := by
    intro j hj1 hj2
    rw [cN_eq sg pt i (j + 1) (by omega) (by omega)]
    unfold CF
    rw [if_pos h42, if_neg (by omega), hq]
    simp only [Nat.add_sub_cancel]
    apply cf_congr
    intro t ht1 ht2
    rw [Nat.mul_comm, show j + 1 - t = j - t + 1 by omega]
  unfold Mo_listCount
  rw [l_8, nI_mul, ck_in (by omega) (by omega), ck_t (by decide), ix_nI (by omega), show 8 * i = 8 * i + 0 by omega, mo_part hM hi (by omega), hq, enc_some]
  obtain ⟨Ma, g1, g2, g3⟩ := iter_0 (B := Mo_listCount_B20 (nI s) (nI q))
    (fun k a => ∃ M1, a = (nI (k + 1), M1) ∧ Fr [22] M M1 ∧ ∀ j, j < k + 1 → M1.2 22 j = lN (cN sg pt i (j + 1)))
    (fun M1 => Fr [22] M M1 ∧ ∀ j, j < s → M1.2 22 j = lN (cN sg pt i (j + 1)))
    (s - 1) (by omega) (fun k a hk ha => by
      obtain ⟨M1, rfl, hF, hv⟩ := ha
      left
      obtain ⟨Mc, e1, e2, e3, e4⟩ := iter_0 (B := Mo_listCount_B37 (nI s) (nI q) (nI (k + 1)))
        (fun n a => ∃ M2, a = (nI (n + 1), M2) ∧ Fr [22] M M2 ∧ (∀ j, j < k + 1 → M2.2 22 j = lN (cN sg pt i (j + 1))) ∧ M2.2 22 (k + 1) = lN (cf (fun t => cN sg pt i (k + 1 - t + 1) * cN sg pt q t) n))
        (fun M2 => Fr [22] M M2 ∧ (∀ j, j < k + 1 → M2.2 22 j = lN (cN sg pt i (j + 1))) ∧ M2.2 22 (k + 1) = lN (cf (fun t => cN sg pt i (k + 1 - t + 1) * cN sg pt q t) (k + 1)))
        (k + 1) (by omega) (fun n a hn ha => by
          obtain ⟨M2, rfl, hF2, hv2, hw2⟩ := ha
          left
          have b1 := cf_le (fun t => cN sg pt i (k + 1 - t + 1) * cN sg pt q t) n
          have b2 := Nat.mul_le_mul (cN_le sg pt i (k + 1 - (n + 1) + 1) (by omega)) (cN_le sg pt q (n + 1) (by omega))
          have b3 := cap_le (cN sg pt i (k + 1 - (n + 1) + 1) * cN sg pt q (n + 1))
          refine ⟨(nI (n + 1 + 1), u_l M2 22 (k + 1) (lN (cf (fun t => cN sg pt i (k + 1 - t + 1) * cN sg pt q t) (n + 1)))), ?_, _, rfl, Fr.l 22 hF2 (by decide), fun j hj => ?_, u_l_e⟩
          · unfold Mo_listCount_B37
            simp only
            rw [if_neg (by rw [nI_ltI (by omega) (by omega)]; omega), ck_in (by omega) (by omega), nI_sub (by omega), ck_in (by omega) (by omega), l_13, nI_mul, nI_add, ck_in (by omega) (by omega), ix_nI (by omega), ix_nI (by omega), ix_nI (by omega), hv2 (k + 1 - (n + 1)) (by omega), (hF2 21 (by decide)).2, hT q (n + 1) hqN (by omega), lN_mul, capM (by omega)]
            simp only [Option.bind_some]
            rw [hw2, lN_add, capM (by omega)]
            simp only [Option.bind_some]
            rw [ck_in (by omega) (by omega), nI_1, cap_cap]
            rfl
          · rw [u_l_k (by omega)]; exact hv2 j hj)
        (fun a ha => by
          obtain ⟨M2, rfl, hF2, hv2, hw2⟩ := ha
          refine ⟨M2, ?_, hF2, hv2, hw2⟩
          unfold Mo_listCount_B37
          simp only
          rw [if_pos (by rw [nI_ltI (by omega) (by omega)]; omega)])
        ((1 : Int32), u_l M1 22 (k + 1) (0 : Int64)) ⟨_, rfl, Fr.l 22 hF (by decide), fun j hj => by rw [u_l_k (by omega)]; exact hv j hj, u_l_e⟩
      refine ⟨(nI (k + 1 + 1), Mc), ?_, Mc, rfl, e2, fun j hj => ?_⟩
      · unfold Mo_listCount_B20
        simp only
        rw [if_neg (by rw [nI_leI (by omega) (by omega)]; omega), ck_in (by omega) (by omega), ix_nI (by omega), e1]
        simp only [Option.bind_some, nI_1]
      · by_cases hjk : j = k + 1
        · subst hjk; rw [e4, hrec (k + 1) (by omega) (by omega)]
        · exact e3 j (by omega))
    (fun a ha => by
      obtain ⟨M1, rfl, hF, hv⟩ := ha
      rw [show s - 1 + 1 = s by omega] at hv ⊢
      refine ⟨M1, ?_, hF, hv⟩
      unfold Mo_listCount_B20
      simp only
      rw [if_pos (by rw [nI_leI (by omega) (by omega)]; omega)])
    ((1 : Int32), u_l M 22 (0 : Int32).toNatClampNeg (1 : Int64)) ⟨_, rfl, Fr.l 22 Fr.rf (by decide), fun j hj => by
      have : j = 0 := by omega
      subst this
      rw [show (0 : Int32).toNatClampNeg = 0 from rfl, u_l_e, hone]
      rfl⟩
  rw [g1]
  simp only [Option.bind_some]
  rw [nI_pred1 (a := s) (by omega), ck_in (by omega) (by omega), ix_nI (by omega), g3 (s - 1) (by omega), show s - 1 + 1 = s by omega]
  exact ⟨Ma, rfl, g2⟩
theorem mo_record (hW : WF N sg pt nm) (hM : NetM M N sg pt nm) {c : Nat → Nat → Nat} {i s : Nat} (hi : i < N) (h1 : 1 ≤ s) (h2 : s ≤ 12) (hT : TabM M N s c) (hb : ∀ i t, t ≤ 12 → c i t ≤ 1000000000) :
    ∃ M2, Mo_recordCount (nI i) (nI s) M = some (lN (wy c (pt i) 8 (s - 1)), M2) ∧ Fr [22, 23] M M2 := by
  have hN := hW.1
  unfold Mo_recordCount
  -- the first row
  obtain ⟨Ma, g1, g2, g3⟩ := iter_0 (B := Mo_recordCount_B2 (nI i) (nI s))
    (fun k a => ∃ M1, a = (nI k, M1) ∧ Fr [22, 23] M M1 ∧ ∀ x, x < k → M1.2 22 x = lN (if x = 1 then 1 else 0))
    (fun M1 => Fr [22, 23] M M1 ∧ ∀ x, x < 13 → M1.2 22 x = lN (if x = 1 then 1 else 0)) 13 (by omega) (fun k a hk ha => by
      obtain ⟨M1, rfl, hF, hv⟩ := ha
      refine Or.inl ⟨(nI (k + 1), u_l M1 22 k (lN (if k = 1 then 1 else 0))), ?_, _, rfl, Fr.l 22 hF (by decide), fun x hx => ?_⟩
      · unfold Mo_recordCount_B2 Mo_recordCount_L2_J23
        simp only
        rw [if_neg (by rw [l_13, nI_leI (by omega) (by omega)]; omega)]
        by_cases hk1 : k = 1
        · subst hk1; rw [if_pos rfl, ck_in (by omega) (by omega), ix_nI (by omega), nI_1]; rfl
        · rw [if_neg (by rw [l_1, nI_eq (by omega) (by omega)]; exact hk1), ck_in (by omega) (by omega), ix_nI (by omega), nI_1, if_neg hk1]; rfl
      · by_cases hxk : x = k
        · subst hxk; rw [u_l_e]
        · rw [u_l_k hxk]; exact hv x (by omega))
    (fun a ha => by
      obtain ⟨M1, rfl, hF, hv⟩ := ha
      refine ⟨M1, ?_, hF, hv⟩
      unfold Mo_recordCount_B2
      simp only
      rw [if_pos (by decide)])
    ((0 : Int32), M) ⟨M, rfl, Fr.rf, fun x hx => by omega⟩
  rw [g1]
  simp only [Option.bind_some]
  -- letter by letter: row[x] is wy m (x - 1), row[0] is 0
  obtain ⟨Mb, e1, e2, e3⟩ := iter_0 (B := Mo_recordCount_B32 (nI i) (nI s))
    (fun k a => ∃ M1, a = (nI k, M1) ∧ Fr [22, 23] M M1 ∧ ∀ x, x ≤ s → M1.2 22 x = lN (if x = 0 then 0 else wy c (pt i) k (x - 1)))
    (fun M1 => Fr [22, 23] M M1 ∧ ∀ x, x ≤ s → M1.2 22 x = lN (if x = 0 then 0 else wy c (pt i) 8 (x - 1))) 8 (by omega) (fun k a hk ha => by
      obtain ⟨M1, rfl, hF, hv⟩ := ha
      left
      have hM1 : NetM M1 N sg pt nm := NetM_fr hF (by rw [(hF 0 (by decide)).1]) (by decide) hM
      cases hp : pt i k with
      | none =>
        refine ⟨(nI (k + 1), M1), ?_, M1, rfl, hF, fun x hx => ?_⟩
        · unfold Mo_recordCount_B32
          simp only
          rw [if_neg (by rw [l_8, nI_leI (by omega) (by omega)]; omega), l_8, nI_mul, nI_add, ck_in (by omega) (by omega), ix_nI (by omega), mo_part hM1 hi hk, hp, if_pos (by rw [enc_none]; decide), nI_1]
        · rw [hv x hx]; simp only [wy, hp]
      | some j =>
        have hj := (hW.2.2.1 i k j hi hp).1
        -- the other row
        obtain ⟨Mc, f1, f2, f3, f4⟩ := iter_0 (B := Mo_recordCount_B59 (nI i) (nI s) (nI k) (nI j))
          (fun y a => ∃ M2, a = (nI y, M2) ∧ Fr [22, 23] M M2 ∧ (∀ x, x ≤ s → M2.2 22 x = lN (if x = 0 then 0 else wy c (pt i) k (x - 1))) ∧ ∀ x, x < y → M2.2 23 x = lN (if x = 0 then 0 else wy c (pt i) (k + 1) (x - 1)))
          (fun M2 => Fr [22, 23] M M2 ∧ (∀ x, x ≤ s → M2.2 22 x = lN (if x = 0 then 0 else wy c (pt i) k (x - 1))) ∧ ∀ x, x ≤ s → M2.2 23 x = lN (if x = 0 then 0 else wy c (pt i) (k + 1) (x - 1)))
          (s + 1) (by omega) (fun y a hy ha => by
            obtain ⟨M2, rfl, hF2, hr, ho⟩ := ha
            left
            obtain ⟨Md, d1, d2, d3, d4, d5⟩ := iter_0 (B := Mo_recordCount_B76 (nI i) (nI s) (nI k) (nI j) (nI y))
              (fun n a => ∃ M3, a = (nI (n + 1), M3) ∧ Fr [22, 23] M M3 ∧ (∀ x, x ≤ s → M3.2 22 x = lN (if x = 0 then 0 else wy c (pt i) k (x - 1))) ∧ (∀ x, x < y → M3.2 23 x = lN (if x = 0 then 0 else wy c (pt i) (k + 1) (x - 1))) ∧ M3.2 23 y = lN (cf (fun t => wy c (pt i) k (y - 1 - t) * c j t) n))
              (fun M3 => Fr [22, 23] M M3 ∧ (∀ x, x ≤ s → M3.2 22 x = lN (if x = 0 then 0 else wy c (pt i) k (x - 1))) ∧ (∀ x, x < y → M3.2 23 x = lN (if x = 0 then 0 else wy c (pt i) (k + 1) (x - 1))) ∧ M3.2 23 y = lN (cf (fun t => wy c (pt i) k (y - 1 - t) * c j t) (y - 1)))
              (y - 1) (by omega) (fun n a hn ha => by
                obtain ⟨M3, rfl, hF3, hr3, ho3, hw3⟩ := ha
                left
                have b1 := cf_le (fun t => wy c (pt i) k (y - 1 - t) * c j t) n
                have b2 := Nat.mul_le_mul (wy_le c (pt i) k (y - 1 - (n + 1))) (hb j (n + 1) (by omega))
                have b3 := cap_le (wy c (pt i) k (y - 1 - (n + 1)) * c j (n + 1))
                refine ⟨(nI (n + 1 + 1), u_l M3 23 y (lN (cf (fun t => wy c (pt i) k (y - 1 - t) * c j t) (n + 1)))), ?_, _, rfl, Fr.l 23 hF3 (by decide), fun x hx => ?_, fun x hx => ?_, u_l_e⟩
                · unfold Mo_recordCount_B76
                  simp only
                  rw [if_neg (by rw [nI_leI (by omega) (by omega)]; omega), ck_in (by omega) (by omega), nI_sub (by omega), ck_in (by omega) (by omega), l_13, nI_mul, nI_add, ck_in (by omega) (by omega), ix_nI (by omega), ix_nI (by omega), ix_nI (by omega), hr3 (y - (n + 1)) (by omega), if_neg (by omega), (hF3 21 (by decide)).2, hT j (n + 1) hj (by omega), lN_mul, show y - (n + 1) - 1 = y - 1 - (n + 1) by omega, capM (by omega)]
                  simp only [Option.bind_some]
                  rw [hw3, lN_add, capM (by omega)]
                  simp only [Option.bind_some]
                  rw [ck_in (by omega) (by omega), nI_1, cap_cap]
                  rfl
                · rw [u_l_o (by decide)]; exact hr3 x hx
                · rw [u_l_k (by omega)]; exact ho3 x hx)
              (fun a ha => by
                obtain ⟨M3, rfl, hF3, hr3, ho3, hw3⟩ := ha
                refine ⟨M3, ?_, hF3, hr3, ho3, hw3⟩
                unfold Mo_recordCount_B76
                simp only
                rw [if_pos (by rw [nI_leI (by omega) (by omega)]; omega)])
              ((1 : Int32), u_l M2 23 y (0 : Int64)) ⟨_, rfl, Fr.l 23 hF2 (by decide), fun x hx => by rw [u_l_o (by decide)]; exact hr x hx, fun x hx => by rw [u_l_k (by omega)]; exact ho x hx, u_l_e⟩
            refine ⟨(nI (y + 1), Md), ?_, Md, rfl, d2, d3, fun x hx => ?_⟩
            · unfold Mo_recordCount_B59
              simp only
              rw [if_neg (by rw [nI_ltI (by omega) (by omega)]; omega), ck_in (by omega) (by omega), ix_nI (by omega), d1]
              simp only [Option.bind_some, nI_1]
            · by_cases hxy : x = y
              · subst hxy
                rw [d5]
                by_cases hx0 : x = 0
                · subst hx0; rfl
                · rw [if_neg hx0]; simp only [wy, hp]
              · exact d4 x (by omega))
          (fun a ha => by
            obtain ⟨M2, rfl, hF2, hr, ho⟩ := ha
            refine ⟨M2, ?_, hF2, hr, fun x hx => ho x (by omega)⟩
            unfold Mo_recordCount_B59
            simp only
            rw [if_pos (by rw [nI_ltI (by omega) (by omega)]; omega)])
          ((0 : Int32), M1) ⟨M1, rfl, hF, hv, fun x hx => by omega⟩
        -- the copy
        obtain ⟨Me, c1, c2, c3⟩ := iter_0 (B := Mo_recordCount_B143 (nI i) (nI s) (nI k))
          (fun y a => ∃ M2, a = (nI y, M2) ∧ Fr [22, 23] M M2 ∧ (∀ x, x ≤ s → M2.2 23 x = lN (if x = 0 then 0 else wy c (pt i) (k + 1) (x - 1))) ∧ ∀ x, x < y → M2.2 22 x = lN (if x = 0 then 0 else wy c (pt i) (k + 1) (x - 1)))
          (fun M2 => Fr [22, 23] M M2 ∧ ∀ x, x ≤ s → M2.2 22 x = lN (if x = 0 then 0 else wy c (pt i) (k + 1) (x - 1)))
          (s + 1) (by omega) (fun y a hy ha => by
            obtain ⟨M2, rfl, hF2, ho, hr⟩ := ha
            refine Or.inl ⟨(nI (y + 1), u_l M2 22 y (M2.2 23 y)), ?_, _, rfl, Fr.l 22 hF2 (by decide), fun x hx => ?_, fun x hx => ?_⟩
            · unfold Mo_recordCount_B143
              simp only
              rw [if_neg (by rw [nI_ltI (by omega) (by omega)]; omega), ck_in (by omega) (by omega), ck_in (by omega) (by omega), ix_nI (by omega), nI_1]
            · rw [u_l_o (by decide)]; exact ho x hx
            · by_cases hxy : x = y
              · subst hxy; rw [u_l_e]; exact ho x (by omega)
              · rw [u_l_k hxy]; exact hr x (by omega))
          (fun a ha => by
            obtain ⟨M2, rfl, hF2, ho, hr⟩ := ha
            refine ⟨M2, ?_, hF2, fun x hx => hr x (by omega)⟩
            unfold Mo_recordCount_B143
            simp only
            rw [if_pos (by rw [nI_ltI (by omega) (by omega)]; omega)])
          ((0 : Int32), Mc) ⟨Mc, rfl, f2, f4, fun x hx => by omega⟩
        refine ⟨(nI (k + 1), Me), ?_, Me, rfl, c2, c3⟩
        unfold Mo_recordCount_B32
        simp only
        rw [if_neg (by rw [l_8, nI_leI (by omega) (by omega)]; omega), l_8, nI_mul, nI_add, ck_in (by omega) (by omega), ix_nI (by omega), mo_part hM1 hi hk, hp, enc_some, if_neg (nI_pos (by omega)), f1]
        simp only [Option.bind_some]
        rw [c1]
        simp only [Option.bind_some, nI_1])
    (fun a ha => by
      obtain ⟨M1, rfl, hF, hv⟩ := ha
      refine ⟨M1, ?_, hF, hv⟩
      unfold Mo_recordCount_B32
      simp only
      rw [if_pos (by decide)])
    ((0 : Int32), Ma) ⟨Ma, rfl, g2, fun x hx => by
      rw [g3 x (by omega)]
      simp only [wy]
      by_cases hx0 : x = 0
      · subst hx0; rfl
      · rw [if_neg hx0]
        by_cases hx1 : x = 1
        · subst hx1; rfl
        · rw [if_neg hx1, if_neg (by omega)]⟩
  rw [e1]
  simp only [Option.bind_some]
  rw [ck_in (by omega) (by omega), ix_nI (by omega), e3 s (by omega), if_neg (by omega)]
  exact ⟨Mb, rfl, e2⟩
end CO2
