/-! LEAST in the reference, and that both agree -/
def mLI (M : QM) (N : Nat) (sg : Nat → Int32) (pt : Nat → Nat → Option Nat) (f : Nat → Nat) : Prop :=
  (∀ i, i < N → M.1 24 i = nI (f i)) ∧ (∀ i, i < N → 1 ≤ f i ∧ f i ≤ 100000) ∧ ∀ i, i < N → min 100000 (LF sg pt 100000 f i) ≤ f i
theorem l_FAR : (100000 : Int32) = nI 100000 := rfl
theorem min_i2 {a b : Nat} (ha : a < 2 ^ 31) (hb : b < 2 ^ 31) : (if nI a ≤ nI b then nI a else nI b) = nI (min a b) := by
  by_cases h : a ≤ b
  · rw [if_pos ((nI_leI ha hb).mpr h)]; congr 1; omega
  · rw [if_neg (fun z => h ((nI_leI ha hb).mp z))]; congr 1; omega
section LM
variable {M : QM} {N : Nat} {sg : Nat → Int32} {pt : Nat → Nat → Option Nat} {nm : Nat → Option Nat} {f : Nat → Nat}
theorem mo_lp (hW : WF N sg pt nm) (hM : NetM M N sg pt nm) {i : Nat} (hi : i < N) (hf : ∀ j, j < N → M.1 24 j = nI (f j)) (hb : ∀ j, j < N → f j ≤ 100000) (x1 x3 : Int32) :
    iter (Mo_layLeast_B59 x1 (nI i) x3 M) FU ((1 : Int32), (100000 : Int32), (0 : Int32)) = some (nI (1 + sumP (pt i) f 8), nI (minP (pt i) f 100000 8)) := by
  have hN := hW.1
  obtain ⟨b, h1, rfl⟩ := iter_0 (B := Mo_layLeast_B59 x1 (nI i) x3 M) (fun k a => a = (nI (1 + sumP (pt i) f k), nI (minP (pt i) f 100000 k), nI k)) (fun b => b = (nI (1 + sumP (pt i) f 8), nI (minP (pt i) f 100000 8))) 8 (by omega) (fun k a hk ha => by
    subst ha
    refine Or.inl ⟨(nI (1 + sumP (pt i) f (k + 1)), nI (minP (pt i) f 100000 (k + 1)), nI (k + 1)), ?_, rfl⟩
    unfold Mo_layLeast_B59
    have ht := @minP_top (pt i) f 100000 k
    simp only
    rw [if_neg (by rw [l_8, nI_leI (by omega) (by omega)]; omega), l_8, nI_mul, nI_add, ck_in (by omega) (by omega), ix_nI (by omega), mo_part hM hi hk]
    cases hp : pt i k with
    | none =>
      rw [if_pos (by rw [enc_none]; decide)]
      unfold Mo_layLeast_L59_J98
      rw [if_pos (by rw [enc_none]; decide)]
      simp only [sumP, minP, hp, Nat.add_zero, nI_1, l_0, nI_add]
      rw [show min (minP (pt i) f 100000 k) 100000 = minP (pt i) f 100000 k by omega]
    | some j =>
      have hj := (hW.2.2.1 i k j hi hp).1
      have hbj := hb j hj
      rw [enc_some, if_neg (nI_pos (by omega)), ck_in (by omega) (by omega)]
      unfold Mo_layLeast_L59_J98
      rw [if_neg (nI_pos (by omega)), ck_in (by omega) (by omega), ix_nI (by omega), hf j hj]
      simp only [sumP, minP, hp, nI_1, nI_add, Nat.add_assoc]
      by_cases h : minP (pt i) f 100000 k ≤ f j
      · rw [if_pos ((nI_leI (by omega) (by omega)).mpr h), show min (minP (pt i) f 100000 k) (f j) = minP (pt i) f 100000 k by omega]
      · rw [if_neg (fun z => h ((nI_leI (by omega) (by omega)).mp z)), ck_in (by omega) (by omega), show min (minP (pt i) f 100000 k) (f j) = f j by omega]) (fun a ha => by
    subst ha
    refine ⟨_, ?_, rfl⟩
    unfold Mo_layLeast_B59
    rw [if_pos (show (8 : Int32) ≤ nI 8 by decide)]) ((1 : Int32), (100000 : Int32), (0 : Int32)) rfl
  exact h1
/-- one node of a sweep -/
theorem mo_l1 (hW : WF N sg pt nm) (hM : NetM M N sg pt nm) {i : Nat} (hi : i < N) (hI : mLI M N sg pt f) (b1 : Int32) :
    Mo_layLeast_B34 (b1, nI i, M) = if f i ≤ min 100000 (LF sg pt 100000 f i) then some (.inr (b1, nI (i + 1), M)) else some (.inr (1, nI (i + 1), u_i M 24 i (nI (min 100000 (LF sg pt 100000 f i))))) := by
  have hN := hW.1
  have hbd := LF_bd (sg := sg) (pt := pt) (T := 100000) (f := f) (i := i) (by omega) (fun s j hs hp => (hI.2.1 j (hW.2.2.1 i s j hi hp).1).2)
  have hfi := hI.2.1 i hi
  have J : ∀ own : Nat, own = LF sg pt 100000 f i → Mo_layLeast_L34_J192 b1 (nI i) (nI own) M = if f i ≤ min 100000 (LF sg pt 100000 f i) then some (.inr (b1, nI (i + 1), M)) else some (.inr (1, nI (i + 1), u_i M 24 i (nI (min 100000 (LF sg pt 100000 f i))))) := by
    intro own ho
    unfold Mo_layLeast_L34_J192
    rw [ck_in (by omega) (by omega), ix_nI (by omega), hI.1 i hi, nI_1, ck_in (by omega) (by omega)]
    by_cases h : f i ≤ own
    · rw [if_pos ((nI_leI (by omega) (by omega)).mpr h), if_pos (by omega)]
    · rw [if_neg (fun z => h ((nI_leI (by omega) (by omega)).mp z)), if_neg (by omega), show min 100000 (LF sg pt 100000 f i) = own by omega]
  unfold Mo_layLeast_B34
  simp only
  rw [hM.1, if_neg (by rw [nI_leI (by omega) (by omega)]; omega), ck_in (by omega) (by omega), mo_lp hW hM hi hI.1 (fun j hj => (hI.2.1 j hj).2), ix_nI (by omega), hM.2.1 i hi]
  simp only [Option.bind_some]
  have hok := hW.2.1 i hi
  unfold okSign at hok
  have e1 : ∀ own : Nat, own = LF sg pt 100000 f i → Mo_layLeast_L34_J192 b1 (nI i) (nI own) M = _ := J
  rcases hok with h | h | h | h | h | h | h | h | h
  · rw [h, if_pos rfl]; unfold Mo_layLeast_L34_J162; exact J 1 (by simp [LF, h])
  · rw [h, if_neg (by decide), if_pos rfl]; unfold Mo_layLeast_L34_J162; exact J 1 (by simp [LF, h])
  · rw [h, if_neg (by decide), if_neg (by decide), if_pos rfl]; unfold Mo_layLeast_L34_J162; exact J 1 (by simp [LF, h])
  · rw [h, if_neg (by decide), if_neg (by decide), if_neg (by decide), if_neg (by decide), if_neg (by decide), if_neg (by decide)]; exact J 100000 (by simp [LF, h])
  · rw [h, if_neg (by decide), if_neg (by decide), if_neg (by decide), if_neg (by decide), if_neg (by decide), if_neg (by decide)]; exact J 100000 (by simp [LF, h])
  · rw [h, if_neg (by decide), if_neg (by decide), if_neg (by decide), if_neg (by decide), if_pos rfl]; exact J _ (by simp [LF, h])
  · rw [h, if_neg (by decide), if_neg (by decide), if_neg (by decide), if_neg (by decide), if_neg (by decide), if_pos rfl, nI_1]; exact J _ (by simp [LF, h]; omega)
  · rw [h, if_neg (by decide), if_neg (by decide), if_neg (by decide), if_pos rfl]; unfold Mo_layLeast_L34_J162; exact J 1 (by simp [LF, h])
  · rw [h, if_neg (by decide), if_neg (by decide), if_neg (by decide), if_neg (by decide), if_neg (by decide), if_neg (by decide)]; exact J 100000 (by simp [LF, h])
theorem mo_sweep (hW : WF N sg pt nm) (hM : NetM M N sg pt nm) (hI : mLI M N sg pt f) :
    ∃ (b : Int32) (M2 : QM) (f2 : Nat → Nat), iter Mo_layLeast_B34 FU ((0 : Int32), (0 : Int32), M) = some (b, M2) ∧ Fr [24] M M2 ∧ mLI M2 N sg pt f2 ∧
      ((b = 0 ∧ ∀ i, i < N → f2 i ≤ min 100000 (LF sg pt 100000 f2 i)) ∨ (b = 1 ∧ tot f2 N < tot f N)) := by
  have hN := hW.1
  obtain ⟨b, h1, M1, f1, b1, rfl, hF, hI1, hle1, hd⟩ := iter_0 (B := Mo_layLeast_B34)
    (fun k a => ∃ (M1 : QM) (f1 : Nat → Nat) (b1 : Int32), a = (b1, nI k, M1) ∧ Fr [24] M M1 ∧ mLI M1 N sg pt f1 ∧ (∀ i, i < N → f1 i ≤ f i) ∧ ((b1 = 0 ∧ (∀ i, i < N → f1 i = f i) ∧ ∀ i, i < k → f i ≤ min 100000 (LF sg pt 100000 f i)) ∨ (b1 = 1 ∧ tot f1 N < tot f N)))
    (fun b => ∃ (M1 : QM) (f1 : Nat → Nat) (b1 : Int32), b = (b1, M1) ∧ Fr [24] M M1 ∧ mLI M1 N sg pt f1 ∧ (∀ i, i < N → f1 i ≤ f i) ∧ ((b1 = 0 ∧ ∀ i, i < N → f1 i ≤ min 100000 (LF sg pt 100000 f1 i)) ∨ (b1 = 1 ∧ tot f1 N < tot f N)))
    N (by omega) (fun i a hi ha => by
      obtain ⟨M1, f1, b1, rfl, hF, hI1, hle1, hd⟩ := ha
      left
      have hM1 : NetM M1 N sg pt nm := NetM_fr hF (by rw [(hF 0 (by decide)).1]) (by decide) hM
      rw [mo_l1 hW hM1 hi hI1]
      have hpos := LF_pos (sg := sg) (pt := pt) (T := 100000) (f := f1) (i := i) (by omega)
      by_cases hc : f1 i ≤ min 100000 (LF sg pt 100000 f1 i)
      · rw [if_pos hc]
        refine ⟨_, rfl, M1, f1, b1, rfl, hF, hI1, hle1, ?_⟩
        rcases hd with ⟨hb0, heq, hst⟩ | hd
        · refine Or.inl ⟨hb0, heq, fun j hj => ?_⟩
          by_cases hji : j = i
          · subst hji
            rw [← LF_congr (f := f1) (fun s q hs hp => heq q (hW.2.2.1 j s q hi hp).1), ← heq j hi]; exact hc
          · exact hst j (by omega)
        · exact Or.inr hd
      · rw [if_neg hc]
        have hmono : ∀ j, upf f1 i (min 100000 (LF sg pt 100000 f1 i)) j ≤ f1 j := fun j => by
          by_cases hj : j = i
          · subst hj; rw [upf_e]; omega
          · rw [upf_ne hj]; omega
        refine ⟨_, rfl, _, upf f1 i (min 100000 (LF sg pt 100000 f1 i)), 1, rfl, Fr.i 24 hF (by decide), ⟨?_, ?_, ?_⟩, ?_, ?_⟩
        · intro j hj
          by_cases hji : j = i
          · subst hji; rw [u_i_e, upf_e]
          · rw [u_i_k hji, upf_ne hji]; exact hI1.1 j hj
        · intro j hj
          have h6 := hI1.2.1 j hj
          by_cases hji : j = i
          · subst hji; rw [upf_e]; omega
          · rw [upf_ne hji]; exact h6
        · intro j h4
          have h5 := LF_mono (sg := sg) (pt := pt) (T := 100000) (i := j) (fun s q _ _ => hmono q)
          have h6 := hI1.2.2 j h4
          by_cases hji : j = i
          · subst hji; rw [upf_e]; omega
          · rw [upf_ne hji]; omega
        · intro j hj
          exact Nat.le_trans (hmono j) (hle1 j hj)
        · have h7 := tot_lt (n := N) (fun j _ => hmono j) hi (by rw [upf_e]; omega)
          have h8 := tot_mono (n := N) hle1
          exact Or.inr ⟨rfl, by omega⟩)
    (fun a ha => by
      obtain ⟨M1, f1, b1, rfl, hF, hI1, hle1, hd⟩ := ha
      have hM1 : NetM M1 N sg pt nm := NetM_fr hF (by rw [(hF 0 (by decide)).1]) (by decide) hM
      refine ⟨(b1, M1), ?_, M1, f1, b1, rfl, hF, hI1, hle1, ?_⟩
      · unfold Mo_layLeast_B34
        simp only
        rw [hM1.1, if_pos (by rw [nI_leI (by omega) (by omega)]; omega)]
      · rcases hd with ⟨hb0, heq, hst⟩ | hd
        · refine Or.inl ⟨hb0, fun i hi => ?_⟩
          rw [LF_congr (f := f1) (g := f) (fun s q hs hp => heq q (hW.2.2.1 i s q hi hp).1), heq i hi]; exact hst i hi
        · exact Or.inr hd)
    ((0 : Int32), (0 : Int32), M) ⟨M, f, 0, rfl, Fr.rf, hI, fun _ _ => Nat.le_refl _, Or.inl ⟨rfl, fun _ _ => rfl, fun i hi => by omega⟩⟩
  exact ⟨b1, M1, f1, h1, hF, hI1, hd⟩
theorem mo_layLeast (hW : WF N sg pt nm) (hM : NetM M N sg pt nm) :
    ∃ (M2 : QM) (f : Nat → Nat), Mo_layLeast M = some M2 ∧ Fr [24] M M2 ∧ IsL N sg pt 100000 f ∧ ∀ i, i < N → M2.1 24 i = nI (f i) ∧ f i ≤ 100000 := by
  have hN := hW.1
  unfold Mo_layLeast
  obtain ⟨Ma, h1, hFa, hva⟩ := iter_0 (B := Mo_layLeast_B2)
    (fun k a => ∃ M1, a = (nI k, M1) ∧ Fr [24] M M1 ∧ ∀ i, i < k → M1.1 24 i = nI 100000)
    (fun M1 => Fr [24] M M1 ∧ ∀ i, i < N → M1.1 24 i = nI 100000)
    N (by omega) (fun k a hk ha => by
      obtain ⟨M1, rfl, hF, hv⟩ := ha
      left
      refine ⟨(nI (k + 1), u_i M1 24 k 100000), ?_, u_i M1 24 k 100000, rfl, Fr.i 24 hF (by decide), fun i hi => ?_⟩
      · unfold Mo_layLeast_B2
        simp only
        rw [(hF 0 (by decide)).1, hM.1, if_neg (by rw [nI_leI (by omega) (by omega)]; omega), ck_in (by omega) (by omega), ix_nI (by omega), nI_1]
      · by_cases hi2 : i = k
        · subst hi2; rw [u_i_e]; rfl
        · rw [u_i_k hi2]; exact hv i (by omega))
    (fun a ha => by
      obtain ⟨M1, rfl, hF, hv⟩ := ha
      refine ⟨M1, ?_, hF, hv⟩
      unfold Mo_layLeast_B2
      simp only
      rw [(hF 0 (by decide)).1, hM.1, if_pos (by rw [nI_leI (by omega) (by omega)]; omega)])
    ((0 : Int32), M) ⟨M, rfl, Fr.rf, fun i hi => by omega⟩
  rw [h1]
  simp only [Option.bind_some]
  have hMa : NetM Ma N sg pt nm := NetM_fr hFa (by rw [(hFa 0 (by decide)).1]) (by decide) hM
  have hI0 : mLI Ma N sg pt (fun _ => 100000) := ⟨hva, fun i hi => ⟨by dsimp only; omega, by dsimp only; omega⟩, fun i hi => by dsimp only; omega⟩
  have hbase : tot (fun _ => 100000) N ≤ 6000000 := by
    have := tot_bd (f := fun _ => 100000) (n := N) (c := 100000) (fun i hi => Nat.le_refl _)
    omega
  obtain ⟨Mb, h2, f2, hFb, hIb, hstb⟩ := iter_0 (B := Mo_layLeast_B26)
    (fun k a => ∃ (M1 : QM) (f1 : Nat → Nat) (b1 : Int32), a = (b1, M1) ∧ Fr [24] Ma M1 ∧ mLI M1 N sg pt f1 ∧ ((b1 = 0 ∧ ∀ i, i < N → f1 i ≤ min 100000 (LF sg pt 100000 f1 i)) ∨ (b1 = 1 ∧ tot f1 N + k ≤ 6000000)))
    (fun M1 => ∃ f1 : Nat → Nat, Fr [24] Ma M1 ∧ mLI M1 N sg pt f1 ∧ ∀ i, i < N → f1 i ≤ min 100000 (LF sg pt 100000 f1 i))
    6000001 (by omega) (fun k a hk ha => by
      obtain ⟨M1, f1, b1, rfl, hF, hI1, hd⟩ := ha
      rcases hd with ⟨hb0, hst⟩ | ⟨hb1, ht⟩
      · right
        refine ⟨M1, ?_, f1, hF, hI1, hst⟩
        unfold Mo_layLeast_B26
        simp only
        rw [if_pos hb0]
      · left
        have hM1 : NetM M1 N sg pt nm := NetM_fr hF (by rw [(hF 0 (by decide)).1]) (by decide) hMa
        obtain ⟨b2, M2, f2, g1, g2, g3, g6⟩ := mo_sweep hW hM1 hI1
        refine ⟨(b2, M2), ?_, M2, f2, b2, rfl, Fr.tr hF g2, g3, ?_⟩
        · unfold Mo_layLeast_B26
          simp only
          rw [if_neg (by rw [hb1]; decide), g1]
          simp only [Option.bind_some]
        · rcases g6 with g7 | ⟨g7, g8⟩
          · exact Or.inl g7
          · exact Or.inr ⟨g7, by omega⟩)
    (fun a ha => by
      obtain ⟨M1, f1, b1, rfl, hF, hI1, hd⟩ := ha
      rcases hd with ⟨hb0, hst⟩ | ⟨hb1, ht⟩
      · refine ⟨M1, ?_, f1, hF, hI1, hst⟩
        unfold Mo_layLeast_B26
        simp only
        rw [if_pos hb0]
      · omega)
    ((1 : Int32), Ma) ⟨Ma, _, 1, rfl, Fr.rf, hI0, Or.inr ⟨rfl, by omega⟩⟩
  rw [h2]
  refine ⟨Mb, f2, rfl, Fr.tr hFa hFb, fun i hi => ?_, fun i hi => ⟨hIb.1 i hi, (hIb.2.1 i hi).2⟩⟩
  have h5 := hstb i hi
  have h6 := hIb.2.2 i hi
  omega
end LM
