/-! standing: the program has caught up -/
section STC
variable {M : QM} {N : Nat} {sg : Nat → Int32} {pt : Nat → Nat → Option Nat} {nm : Nat → Option Nat}
/-- out of a sound table that is complete, the steps -/
theorem Dok_of (hW : WF N sg pt nm) {g : Nat → Nat → Nat} (hg : Tg M N g) (hs : Snd N sg pt g) (hc : ∀ q, q ≤ 3600 → Cmp N sg pt q g) {i k : Nat} (hi : i < N) (hk : k < N) : Dok 1000000 sg pt i k (M.1 15 (60 * i + k)) := by
  obtain ⟨e1, e2⟩ := hg i k hi hk
  rw [e1]
  rcases My_or (sg := sg) (pt := pt) (i := i) (k := k) with hm | ⟨v, hv⟩
  · right
    refine ⟨hm, ?_⟩
    by_cases h : g i k < 1000000
    · exact absurd (hs i k hi hk h) (hm _)
    · congr 1; omega
  · left
    have hlt := Dv_lt hW hi hk hv
    have h1 := hc v (by omega) i k hi hk hv.1
    have h2 := hs i k hi hk (by omega)
    have h3 : ¬ g i k < v := fun z => hv.2 _ z h2
    exact ⟨v, hlt, hv, by congr 1; omega⟩
theorem st_catchUp (hW : WF N sg pt nm) (hK : NetK M N sg pt nm) (hS : StK M N sg pt) :
    ∃ M2, St_catchUp M = some M2 ∧ Fr [14, 15] M M2 ∧ M2.1 14 5 = nI N ∧ M2.1 14 4 = M.1 14 4 ∧ ∀ i k, i < N → k < N → Dok 1000000 sg pt i k (M2.1 15 (60 * i + k)) := by
  have hN := hW.1
  obtain ⟨kn, hle, hkn, hclo, hold⟩ := hS
  unfold St_catchUp
  rw [kn_nodes hK]
  simp only [Option.bind_some, hkn]
  by_cases hc : kn < N
  · rw [if_pos ((nI_ltI (by omega) (by omega)).mpr hc)]
    obtain ⟨Ma, a1, a2, a3, a4⟩ := st_start hW hK hkn hle
    rw [a1]
    simp only [Option.bind_some]
    -- the table after the start
    obtain ⟨g0, g0e⟩ : ∃ g0 : Nat → Nat → Nat, ∀ i k, g0 i k = (Ma.1 15 (60 * i + k)).toNatClampNeg := ⟨fun i k => (Ma.1 15 (60 * i + k)).toNatClampNeg, fun _ _ => rfl⟩
    have hofn : ∀ i k v, v < 2 ^ 31 → Ma.1 15 (60 * i + k) = nI v → g0 i k = v := fun i k v hv h => by rw [g0e, h, ix_nI hv]
    have hexact : ∀ i k, i < kn → k < kn → (∃ v, v < 3600 ∧ Dv sg pt i k v ∧ Ma.1 15 (60 * i + k) = nI v) ∨ (My sg pt i k ∧ Ma.1 15 (60 * i + k) = nI 1000000) := fun i k hi hk => by rw [a3 i k hi hk]; exact hold i k hi hk
    have hT0 : Tg Ma N g0 := by
      intro i k hi hk
      by_cases hnw : kn ≤ i ∨ kn ≤ k
      · rcases a4 i k hi hk hnw with ⟨-, h⟩ | ⟨-, h⟩
        · rw [hofn i k 0 (by omega) h]; exact ⟨h, by omega⟩
        · rw [hofn i k 1000000 (by omega) h]; exact ⟨h, by omega⟩
      · rcases hexact i k (by omega) (by omega) with ⟨v, h1, h2, h3⟩ | ⟨h1, h2⟩
        · rw [hofn i k v (by omega) h3]; exact ⟨h3, by omega⟩
        · rw [hofn i k 1000000 (by omega) h2]; exact ⟨h2, by omega⟩
    have hS0 : Snd N sg pt g0 := by
      intro i k hi hk hlt
      by_cases hnw : kn ≤ i ∨ kn ≤ k
      · rcases a4 i k hi hk hnw with ⟨hm, h⟩ | ⟨-, h⟩
        · rw [hofn i k 0 (by omega) h]; exact hm
        · rw [hofn i k 1000000 (by omega) h] at hlt; omega
      · rcases hexact i k (by omega) (by omega) with ⟨v, h1, h2, h3⟩ | ⟨h1, h2⟩
        · rw [hofn i k v (by omega) h3]; exact h2.1
        · rw [hofn i k 1000000 (by omega) h2] at hlt; omega
    have hX0 : ∀ i k, i < kn → k < kn → ∀ r, Dn sg pt r i k → g0 i k ≤ r := by
      intro i k hi hk r hr
      rcases hexact i k hi hk with ⟨v, h1, h2, h3⟩ | ⟨h1, h2⟩
      · rw [hofn i k v (by omega) h3]
        by_cases hv : r < v
        · exact absurd hr (h2.2 r hv)
        · omega
      · exact absurd hr (h1 r)
    have hM0 : Msz N sg pt g0 := by
      intro i k hi hk hm
      by_cases hnw : kn ≤ i ∨ kn ≤ k
      · rcases a4 i k hi hk hnw with ⟨-, h⟩ | ⟨h, -⟩
        · exact hofn i k 0 (by omega) h
        · exact absurd hm h
      · have := hX0 i k (by omega) (by omega) 0 hm
        omega
    have hC0 : Cmp N sg pt 0 g0 := fun i k hi hk hd => by rw [hM0 i k hi hk hd]; exact Nat.le_refl _
    obtain ⟨Mb, b1, g, b2, b3, b4, b5⟩ := iter_0 (B := St_catchUp_B26 (nI N))
      (fun n a => ∃ (bb : Int32) (M1 : QM) (g : Nat → Nat → Nat), a = (bb, nI n, M1) ∧ Fr [15] M M1 ∧ Tg M1 N g ∧ Snd N sg pt g ∧ Msz N sg pt g ∧ (∀ i k, i < kn → k < kn → g i k = g0 i k) ∧ ((bb = 0 ∧ ∀ i k, i < N → k < N → (kn ≤ i ∨ kn ≤ k) → g i k ≤ fnd sg pt g i k) ∨ (bb = 1 ∧ ∀ q, q ≤ n → Cmp N sg pt q g)))
      (fun M1 => ∃ g : Nat → Nat → Nat, Fr [15] M M1 ∧ Tg M1 N g ∧ Snd N sg pt g ∧ ∀ q, q ≤ 3600 → Cmp N sg pt q g)
      3600 (by omega) (fun n a hn ha => by
        obtain ⟨bb, M1, g, rfl, hF, hT, hSn, hMs, hO, hd⟩ := ha
        rcases hd with ⟨hb, hst⟩ | ⟨hb, hcm⟩
        · right
          refine ⟨M1, ?_, g, hF, hT, hSn, ?_⟩
          · unfold St_catchUp_B26
            simp only
            rw [if_neg (by rw [l_3600, nI_leI (by omega) (by omega)]; omega), if_pos hb]
          · intro q hq
            clear hq
            induction q with
            | zero => intro i k hi hk hd; rw [hMs i k hi hk hd]; exact Nat.le_refl _
            | succ q ih =>
              intro i k hi hk hd
              by_cases hnw : kn ≤ i ∨ kn ≤ k
              · have h1 := hst i k hi hk hnw
                unfold fnd at h1
                by_cases h0 : g i k = 0
                · omega
                · rw [if_neg h0] at h1
                  rcases hd with hd | ⟨s, x, y, s1, s2, s3⟩
                  · exact absurd (hMs i k hi hk hd) h0
                  · obtain ⟨hx, hy⟩ := beh_lt hW hi hk s2
                    have := ih x y hx hy s3
                    have := fwB_le (g := g) (m := 8) s1 s2
                    omega
              · rw [hO i k (by omega) (by omega)]
                exact hX0 i k (by omega) (by omega) (q + 1) hd
        · left
          have hK1 : NetK M1 N sg pt nm := NetK_fr hF (by decide) hK
          have h14 : M1.1 14 5 = nI kn := by rw [(hF 14 (by decide)).1]; exact hkn
          obtain ⟨b2, M2, g2, s1, s2⟩ := st_shorten hW hK1 h14 hle hT hSn hMs
          obtain ⟨t1, t2, t3, t4, t5, t6, t7⟩ := s2
          refine ⟨(b2, nI (n + 1), M2), ?_, b2, M2, g2, rfl, Fr.tr hF t1, t2, t3, fun i k hi hk hm => ?_, fun i k hi hk => (t5 i k hi hk).trans (hO i k hi hk), ?_⟩
          · unfold St_catchUp_B26
            simp only
            rw [if_neg (by rw [l_3600, nI_leI (by omega) (by omega)]; omega), if_neg (by rw [hb]; decide), s1]
            simp only [Option.bind_some, nI_1]
          · have := t4 i k
            have := hMs i k hi hk hm
            omega
          · rcases t6 with ⟨u1, u2, u3⟩ | u1
            · refine Or.inl ⟨u1, fun i k hi hk hnw => ?_⟩
              rw [u2]; exact u3 i k hi hk trivial hnw
            · refine Or.inr ⟨u1, fun q hq => ?_⟩
              cases q with
              | zero =>
                intro i k hi hk hd
                have := t4 i k
                have := hMs i k hi hk hd
                omega
              | succ q =>
                intro i k hi hk hd
                by_cases hnw : kn ≤ i ∨ kn ≤ k
                · exact t7 q (hcm q (by omega)) i k hi hk trivial hnw hd
                · rw [t5 i k (by omega) (by omega), hO i k (by omega) (by omega)]
                  exact hX0 i k (by omega) (by omega) (q + 1) hd)
      (fun a ha => by
        obtain ⟨bb, M1, g, rfl, hF, hT, hSn, hMs, hO, hd⟩ := ha
        refine ⟨M1, ?_, g, hF, hT, hSn, ?_⟩
        · unfold St_catchUp_B26
          simp only
          rw [if_pos (by decide)]
        · rcases hd with ⟨hb, hst⟩ | ⟨hb, hcm⟩
          · intro q hq
            clear hq
            induction q with
            | zero => intro i k hi hk hd; rw [hMs i k hi hk hd]; exact Nat.le_refl _
            | succ q ih =>
              intro i k hi hk hd
              by_cases hnw : kn ≤ i ∨ kn ≤ k
              · have h1 := hst i k hi hk hnw
                unfold fnd at h1
                by_cases h0 : g i k = 0
                · omega
                · rw [if_neg h0] at h1
                  rcases hd with hd | ⟨s, x, y, s1, s2, s3⟩
                  · exact absurd (hMs i k hi hk hd) h0
                  · obtain ⟨hx, hy⟩ := beh_lt hW hi hk s2
                    have := ih x y hx hy s3
                    have := fwB_le (g := g) (m := 8) s1 s2
                    omega
              · rw [hO i k (by omega) (by omega)]
                exact hX0 i k (by omega) (by omega) (q + 1) hd
          · exact hcm)
      ((1 : Int32), (0 : Int32), Ma) ⟨1, Ma, g0, rfl, a2, hT0, hS0, hM0, fun _ _ _ _ => rfl, Or.inr ⟨rfl, fun q hq => by rw [show q = 0 by omega]; exact hC0⟩⟩
    rw [b1]
    simp only [Option.bind_some, St_catchUp_J49]
    refine ⟨_, rfl, Fr.i 14 (Fr.sub b2 (by decide)) (by decide), u_i_e, by rw [u_i_k (by decide), (b2 14 (by decide)).1], fun i k hi hk => ?_⟩
    rw [u_i_o (by decide)]
    exact Dok_of hW b3 b4 b5 hi hk
  · rw [if_neg (fun z => hc ((nI_ltI (by omega) (by omega)).mp z))]
    have e : kn = N := by omega
    subst e
    exact ⟨M, rfl, Fr.rf, hkn, rfl, hold⟩
theorem st_may {i k : Nat} (hi : i < 60) (hk : k < 60) (h : Dok 1000000 sg pt i k (M.1 15 (60 * i + k))) : (My sg pt i k ∧ St_mayStand (nI i) (nI k) M = some 1) ∨ (¬ My sg pt i k ∧ St_mayStand (nI i) (nI k) M = some 0) := by
  unfold St_mayStand
  rw [st_steps hi hk]
  simp only [Option.bind_some]
  rcases h with ⟨v, h1, h2, h3⟩ | ⟨h1, h2⟩
  · right
    refine ⟨Dv_not h2, ?_⟩
    rw [h3, l_NW, if_neg (by rw [nI_eq (by omega) (by omega)]; omega)]
  · left
    refine ⟨h1, ?_⟩
    rw [h2, l_NW, if_pos rfl]
end STC
