/-! standing: the program's sweeps -/
def fnd (sg : Nat → Int32) (pt : Nat → Nat → Option Nat) (g : Nat → Nat → Nat) (i k : Nat) : Nat := if g i k = 0 then 0 else fwB sg pt g i k 8 + 1
def Snd (N : Nat) (sg : Nat → Int32) (pt : Nat → Nat → Option Nat) (g : Nat → Nat → Nat) : Prop := ∀ i k, i < N → k < N → g i k < 1000000 → Dn sg pt (g i k) i k
def Msz (N : Nat) (sg : Nat → Int32) (pt : Nat → Nat → Option Nat) (g : Nat → Nat → Nat) : Prop := ∀ i k, i < N → k < N → mis sg pt i k → g i k = 0
def Cmp (N : Nat) (sg : Nat → Int32) (pt : Nat → Nat → Option Nat) (r : Nat) (g : Nat → Nat → Nat) : Prop := ∀ i k, i < N → k < N → Dn sg pt r i k → g i k ≤ r
def up2 (g : Nat → Nat → Nat) (i k v : Nat) : Nat → Nat → Nat := fun a b => if a = i ∧ b = k then v else g a b
theorem up2_e {g : Nat → Nat → Nat} {i k v : Nat} : up2 g i k v i k = v := by simp [up2]
theorem up2_ne {g : Nat → Nat → Nat} {i k v a b : Nat} (h : ¬ (a = i ∧ b = k)) : up2 g i k v a b = g a b := by unfold up2; rw [if_neg h]
/-- what holds within a sweep over the pairs; Pq: those that are done -/
def SW (N kn : Nat) (sg : Nat → Int32) (pt : Nat → Nat → Option Nat) (g : Nat → Nat → Nat) (M0 : QM) (Pq : Nat → Nat → Prop) (b1 : Int32) (M1 : QM) (g1 : Nat → Nat → Nat) : Prop :=
  Fr [15] M0 M1 ∧ Tg M1 N g1 ∧ Snd N sg pt g1 ∧ (∀ i k, g1 i k ≤ g i k) ∧ (∀ i k, i < kn → k < kn → g1 i k = g i k) ∧
  ((b1 = 0 ∧ g1 = g ∧ ∀ i k, i < N → k < N → Pq i k → (kn ≤ i ∨ kn ≤ k) → g i k ≤ fnd sg pt g i k) ∨ b1 = 1) ∧
  (∀ r, Cmp N sg pt r g → ∀ i k, i < N → k < N → Pq i k → (kn ≤ i ∨ kn ≤ k) → Dn sg pt (r + 1) i k → g1 i k ≤ r + 1)
section SWS
variable {M M0 : QM} {N kn : Nat} {sg : Nat → Int32} {pt : Nat → Nat → Option Nat} {nm : Nat → Option Nat} {g : Nat → Nat → Nat}
theorem SW_imp {Pq Pr : Nat → Nat → Prop} {b1 : Int32} {M1 : QM} {g1 : Nat → Nat → Nat} (h : SW N kn sg pt g M0 Pq b1 M1 g1) (hi : ∀ i k, i < N → k < N → (kn ≤ i ∨ kn ≤ k) → Pr i k → Pq i k) : SW N kn sg pt g M0 Pr b1 M1 g1 := by
  obtain ⟨h1, h2, h3, h4, h5, h6, h7⟩ := h
  refine ⟨h1, h2, h3, h4, h5, ?_, fun r hr i k hi1 hk1 hp hn => h7 r hr i k hi1 hk1 (hi i k hi1 hk1 hn hp) hn⟩
  rcases h6 with ⟨a, b, c⟩ | h6
  · exact Or.inl ⟨a, b, fun i k hi1 hk1 hp hn => c i k hi1 hk1 (hi i k hi1 hk1 hn hp) hn⟩
  · exact Or.inr h6
theorem st_one (hW : WF N sg pt nm) (hK : NetK M N sg pt nm) (hg : Tg M N g) {i k low : Nat} (hi : i < N) (hk : k < N) (hl : low ≤ k) (x1 b1 : Int32) :
    St_shortenPairs_B33 x1 (nI i) (nI low) (b1, nI k, M) = if g i k ≤ fnd sg pt g i k then some (.inr (b1, nI k - 1, M)) else some (.inr (1, nI k - 1, u_i M 15 (60 * i + k) (nI (fnd sg pt g i k)))) := by
  have hN := hW.1
  obtain ⟨e1, e2⟩ := hg i k hi hk
  have ht := @fwB_top sg pt g i k 8
  have J : ∀ f : Nat, f < 2 ^ 31 → f = fnd sg pt g i k → St_shortenPairs_L33_J67 x1 b1 (nI i) (nI low) (nI k) (nI (g i k)) (nI f) M = if g i k ≤ fnd sg pt g i k then some (.inr (b1, nI k - 1, M)) else some (.inr (1, nI k - 1, u_i M 15 (60 * i + k) (nI (fnd sg pt g i k)))) := by
    intro f hf he
    unfold St_shortenPairs_L33_J67
    rw [← he]
    by_cases hc : g i k ≤ f
    · rw [if_pos ((nI_leI (by omega) hf).mpr hc), if_pos hc]
    · rw [if_neg (fun z => hc ((nI_leI (by omega) hf).mp z)), if_neg hc, st_set (by omega) (by omega)]
      rfl
  unfold St_shortenPairs_B33
  simp only
  rw [if_neg (by rw [nI_ltI (by omega) (by omega)]; omega), st_steps (by omega) (by omega), e1]
  simp only [Option.bind_some]
  by_cases h0 : g i k = 0
  · rw [if_pos (by rw [h0]; rfl)]
    exact J 0 (by omega) (by unfold fnd; rw [if_pos h0])
  · rw [if_neg (by rw [l_0, nI_eq (by omega) (by omega)]; exact h0), st_fewest hW hK hg hi hk]
    simp only [Option.bind_some]
    rw [nI_1]
    exact J (fwB sg pt g i k 8 + 1) (by omega) (by unfold fnd; rw [if_neg h0])
theorem SW_step (hW : WF N sg pt nm) (hms : Msz N sg pt g) {Pq : Nat → Nat → Prop} {b1 : Int32} {M1 : QM} {g1 : Nat → Nat → Nat} (h : SW N kn sg pt g M0 Pq b1 M1 g1) {i k : Nat} (hi : i < N) (hk : k < N) (hnew : kn ≤ i ∨ kn ≤ k) :
    (g1 i k ≤ fnd sg pt g1 i k → SW N kn sg pt g M0 (fun x y => Pq x y ∨ (x = i ∧ y = k)) b1 M1 g1) ∧
    (¬ g1 i k ≤ fnd sg pt g1 i k → SW N kn sg pt g M0 (fun x y => Pq x y ∨ (x = i ∧ y = k)) 1 (u_i M1 15 (60 * i + k) (nI (fnd sg pt g1 i k))) (up2 g1 i k (fnd sg pt g1 i k))) := by
  have hN := hW.1
  obtain ⟨h1, h2, h3, h4, h5, h6, h7⟩ := h
  -- a pair that has a way is found
  have key : ∀ r, Cmp N sg pt r g → Dn sg pt (r + 1) i k → fnd sg pt g1 i k ≤ r + 1 := by
    intro r hr hd
    unfold fnd
    by_cases h0 : g1 i k = 0
    · rw [if_pos h0]; omega
    · rw [if_neg h0]
      rcases hd with hd | ⟨s, a, b, s1, s2, s3⟩
      · have := hms i k hi hk hd
        have := h4 i k
        omega
      · obtain ⟨ha, hb⟩ := beh_lt hW hi hk s2
        have := hr a b ha hb s3
        have := h4 a b
        have := fwB_le (g := g1) (m := 8) s1 s2
        omega
  refine ⟨fun hc => ⟨h1, h2, h3, h4, h5, ?_, ?_⟩, fun hc => ⟨Fr.i 15 h1 (by decide), ?_, ?_, ?_, ?_, Or.inr rfl, ?_⟩⟩
  · rcases h6 with ⟨a, b, c⟩ | h6
    · refine Or.inl ⟨a, b, fun x y hx hy hp hn => ?_⟩
      rcases hp with hp | ⟨rfl, rfl⟩
      · exact c x y hx hy hp hn
      · rw [b] at hc; exact hc
    · exact Or.inr h6
  · intro r hr x y hx hy hp hn hd
    rcases hp with hp | ⟨rfl, rfl⟩
    · exact h7 r hr x y hx hy hp hn hd
    · exact Nat.le_trans hc (key r hr hd)
  · intro x y hx hy
    obtain ⟨e1, e2⟩ := h2 x y hx hy
    by_cases he : x = i ∧ y = k
    · obtain ⟨rfl, rfl⟩ := he
      rw [u_i_e, up2_e]
      exact ⟨rfl, by omega⟩
    · rw [up2_ne he, u_i_k (by omega)]
      exact ⟨e1, e2⟩
  · intro x y hx hy hlt
    by_cases he : x = i ∧ y = k
    · obtain ⟨rfl, rfl⟩ := he
      rw [up2_e] at hlt ⊢
      have hle := (h2 x y hx hy).2
      unfold fnd at hc ⊢
      by_cases h0 : g1 x y = 0
      · rw [if_pos h0] at hc; omega
      · rw [if_neg h0] at hc ⊢
        obtain ⟨s, a, b, s1, s2, s3⟩ := fwB_at (sg := sg) (pt := pt) (g := g1) (i := x) (k := y) (m := 8) (by omega)
        obtain ⟨ha, hb⟩ := beh_lt hW hx hy s2
        rw [s3]
        exact Or.inr ⟨s, a, b, s1, s2, h3 a b ha hb (by omega)⟩
    · rw [up2_ne he] at hlt ⊢
      exact h3 x y hx hy hlt
  · intro x y
    by_cases he : x = i ∧ y = k
    · obtain ⟨rfl, rfl⟩ := he
      rw [up2_e]; have := h4 x y; omega
    · rw [up2_ne he]; exact h4 x y
  · intro x y hx hy
    rw [up2_ne (by omega)]
    exact h5 x y hx hy
  · intro r hr x y hx hy hp hn hd
    by_cases he : x = i ∧ y = k
    · obtain ⟨rfl, rfl⟩ := he
      rw [up2_e]; exact key r hr hd
    · rw [up2_ne he]
      rcases hp with hp | hp
      · exact h7 r hr x y hx hy hp hn hd
      · exact absurd hp he
theorem st_row (hW : WF N sg pt nm) (hK : NetK M0 N sg pt nm) (hms : Msz N sg pt g) {Pq : Nat → Nat → Prop} {b1 : Int32} {M1 : QM} {g1 : Nat → Nat → Nat} (h : SW N kn sg pt g M0 Pq b1 M1 g1) {i low : Nat} (hi : i < N) (hlow : low ≤ N) (hnew : ∀ k, low ≤ k → kn ≤ i ∨ kn ≤ k) (x1 : Int32) :
    ∃ (b2 : Int32) (M2 : QM) (g2 : Nat → Nat → Nat), iter (St_shortenPairs_B33 x1 (nI i) (nI low)) FU (b1, nI N - 1, M1) = some (b2, M2) ∧ SW N kn sg pt g M0 (fun x y => Pq x y ∨ (x = i ∧ low ≤ y)) b2 M2 g2 := by
  have hN := hW.1
  obtain ⟨b, e1, b2, M2, g2, rfl, e2⟩ := iter_0 (B := St_shortenPairs_B33 x1 (nI i) (nI low))
    (fun n a => ∃ (b2 : Int32) (M2 : QM) (g2 : Nat → Nat → Nat), a = (b2, nI (N - n) - 1, M2) ∧ SW N kn sg pt g M0 (fun x y => Pq x y ∨ (x = i ∧ N - n ≤ y)) b2 M2 g2)
    (fun b => ∃ (b2 : Int32) (M2 : QM) (g2 : Nat → Nat → Nat), b = (b2, M2) ∧ SW N kn sg pt g M0 (fun x y => Pq x y ∨ (x = i ∧ low ≤ y)) b2 M2 g2)
    (N - low) (by omega) (fun n a hn ha => by
      obtain ⟨b2, M2, g2, rfl, hs⟩ := ha
      left
      obtain ⟨k, hke⟩ : ∃ k, k = N - n - 1 := ⟨_, rfl⟩
      have hk : k < N := by omega
      have hnode : nI (N - n) - 1 = nI k := by rw [nI_pred1 (by omega), hke]
      have hnext : nI k - 1 = nI (N - (n + 1)) - 1 := by rw [show N - (n + 1) = k by omega]
      have hK2 : NetK M2 N sg pt nm := NetK_fr hs.1 (by decide) hK
      rw [hnode, st_one hW hK2 hs.2.1 hi hk (by omega)]
      obtain ⟨s1, s2⟩ := SW_step hW hms hs hi hk (hnew k (by omega))
      have himp : ∀ x y, (Pq x y ∨ (x = i ∧ N - (n + 1) ≤ y)) → ((Pq x y ∨ (x = i ∧ N - n ≤ y)) ∨ (x = i ∧ y = k)) := by
        intro x y hp
        rcases hp with hp | ⟨hp1, hp2⟩
        · exact Or.inl (Or.inl hp)
        · by_cases hy : y = k
          · exact Or.inr ⟨hp1, hy⟩
          · exact Or.inl (Or.inr ⟨hp1, by omega⟩)
      by_cases hc : g2 i k ≤ fnd sg pt g2 i k
      · rw [if_pos hc]
        exact ⟨_, rfl, b2, M2, g2, by rw [hnext], SW_imp (s1 hc) (fun x y _ _ _ hp => himp x y hp)⟩
      · rw [if_neg hc]
        exact ⟨_, rfl, 1, _, _, by rw [hnext], SW_imp (s2 hc) (fun x y _ _ _ hp => himp x y hp)⟩)
    (fun a ha => by
      obtain ⟨b2, M2, g2, rfl, hs⟩ := ha
      rw [show N - (N - low) = low by omega] at hs ⊢
      refine ⟨(b2, M2), ?_, b2, M2, g2, rfl, hs⟩
      unfold St_shortenPairs_B33
      simp only
      rw [if_pos (nI_lt_self low (by omega))])
    (b1, nI N - 1, M1) ⟨b1, M1, g1, by rw [Nat.sub_zero], SW_imp h (fun x y hx hy _ hp => by
      rcases hp with hp | ⟨-, hp⟩
      · exact hp
      · omega)⟩
  exact ⟨b2, M2, g2, e1, e2⟩
theorem st_shorten (hW : WF N sg pt nm) (hK : NetK M N sg pt nm) (hkn : M.1 14 5 = nI kn) (hle : kn ≤ N) (hg : Tg M N g) (hsn : Snd N sg pt g) (hms : Msz N sg pt g) :
    ∃ (b : Int32) (M2 : QM) (g2 : Nat → Nat → Nat), St_shortenPairs (nI N) M = some (b, M2) ∧ SW N kn sg pt g M (fun _ _ => True) b M2 g2 := by
  have hN := hW.1
  have h0 : SW N kn sg pt g M (fun x y => N ≤ x) 0 M g := ⟨Fr.rf, hg, hsn, fun _ _ => Nat.le_refl _, fun _ _ _ _ => rfl, Or.inl ⟨rfl, rfl, fun i k hi _ hp => by omega⟩, fun r _ i k hi _ hp => by omega⟩
  unfold St_shortenPairs
  obtain ⟨b, e1, b2, M2, g2, rfl, e2⟩ := iter_0 (B := St_shortenPairs_B6 (nI N))
    (fun n a => ∃ (b2 : Int32) (M2 : QM) (g2 : Nat → Nat → Nat), a = (b2, nI (N - n) - 1, M2) ∧ SW N kn sg pt g M (fun x y => N - n ≤ x) b2 M2 g2)
    (fun b => ∃ (b2 : Int32) (M2 : QM) (g2 : Nat → Nat → Nat), b = (b2, M2) ∧ SW N kn sg pt g M (fun _ _ => True) b2 M2 g2)
    N (by omega) (fun n a hn ha => by
      obtain ⟨b2, M2, g2, rfl, hs⟩ := ha
      left
      obtain ⟨i, hie⟩ : ∃ i, i = N - n - 1 := ⟨_, rfl⟩
      have hi : i < N := by omega
      have hnode : nI (N - n) - 1 = nI i := by rw [nI_pred1 (by omega), hie]
      have hnext : nI i - 1 = nI (N - (n + 1)) - 1 := by rw [show N - (n + 1) = i by omega]
      have h14 : M2.1 14 5 = nI kn := by rw [(hs.1 14 (by decide)).1]; exact hkn
      have row : ∀ low, low ≤ N → (∀ k, low ≤ k → kn ≤ i ∨ kn ≤ k) → (∀ k, k < N → (kn ≤ i ∨ kn ≤ k) → low ≤ k) → ∃ a2, St_shortenPairs_L6_J26 (nI N) b2 (nI i) (nI low) M2 = some (.inr a2) ∧ ∃ (b2 : Int32) (M2 : QM) (g2 : Nat → Nat → Nat), a2 = (b2, nI (N - (n + 1)) - 1, M2) ∧ SW N kn sg pt g M (fun x y => N - (n + 1) ≤ x) b2 M2 g2 := by
        intro low hl1 hl2 hl3
        obtain ⟨b3, M3, g3, r1, r2⟩ := st_row hW hK hms hs hi hl1 hl2 (nI N)
        unfold St_shortenPairs_L6_J26
        rw [r1]
        simp only [Option.bind_some]
        refine ⟨_, rfl, b3, M3, g3, by rw [hnext], SW_imp r2 (fun x y hx hy hn hp => ?_)⟩
        by_cases hxi : x = i
        · subst hxi; exact Or.inr ⟨rfl, hl3 y hy hn⟩
        · exact Or.inl (by omega)
      unfold St_shortenPairs_B6
      simp only [hnode, h14]
      rw [if_neg (nI_pos (by omega))]
      by_cases hc : kn ≤ i
      · rw [if_pos ((nI_leI (by omega) (by omega)).mpr hc)]
        exact row 0 (by omega) (fun k _ => Or.inl hc) (fun k _ _ => by omega)
      · rw [if_neg (fun z => hc ((nI_leI (by omega) (by omega)).mp z))]
        exact row kn hle (fun k hk => Or.inr hk) (fun k _ hor => by omega))
    (fun a ha => by
      obtain ⟨b2, M2, g2, rfl, hs⟩ := ha
      rw [show N - N = 0 by omega] at hs ⊢
      refine ⟨(b2, M2), ?_, b2, M2, g2, rfl, SW_imp hs (fun x y _ _ _ _ => by omega)⟩
      unfold St_shortenPairs_B6
      simp only
      rw [if_pos (by decide)])
    ((0 : Int32), nI N - 1, M) ⟨0, M, g, by rw [Nat.sub_zero], by rw [Nat.sub_zero]; exact h0⟩
  rw [e1]
  refine ⟨b2, M2, g2, ?_, e2⟩
  simp only [Option.bind_some]
  rw [ck_t (by rcases e2.2.2.2.2.2.1 with ⟨h, -⟩ | h <;> rw [h] <;> rfl)]
theorem st_start (hW : WF N sg pt nm) (hK : NetK M N sg pt nm) (hkn : M.1 14 5 = nI kn) (hle : kn ≤ N) :
    ∃ M2, St_startPairs (nI N) M = some M2 ∧ Fr [15] M M2 ∧ (∀ i k, i < kn → k < kn → M2.1 15 (60 * i + k) = M.1 15 (60 * i + k)) ∧ ∀ i k, i < N → k < N → (kn ≤ i ∨ kn ≤ k) → (mis sg pt i k ∧ M2.1 15 (60 * i + k) = nI 0) ∨ (¬ mis sg pt i k ∧ M2.1 15 (60 * i + k) = nI 1000000) := by
  have hN := hW.1
  unfold St_startPairs
  obtain ⟨Mz, e1, e2, e3, e4⟩ := iter_0 (B := St_startPairs_B2 (nI N))
    (fun n a => ∃ M2, a = (nI n, M2) ∧ Fr [15] M M2 ∧ (∀ i k, i < kn → k < kn → M2.1 15 (60 * i + k) = M.1 15 (60 * i + k)) ∧ ∀ i k, i < n → k < N → (kn ≤ i ∨ kn ≤ k) → (mis sg pt i k ∧ M2.1 15 (60 * i + k) = nI 0) ∨ (¬ mis sg pt i k ∧ M2.1 15 (60 * i + k) = nI 1000000))
    (fun M2 => Fr [15] M M2 ∧ (∀ i k, i < kn → k < kn → M2.1 15 (60 * i + k) = M.1 15 (60 * i + k)) ∧ ∀ i k, i < N → k < N → (kn ≤ i ∨ kn ≤ k) → (mis sg pt i k ∧ M2.1 15 (60 * i + k) = nI 0) ∨ (¬ mis sg pt i k ∧ M2.1 15 (60 * i + k) = nI 1000000))
    N (by omega) (fun n a hn ha => by
      obtain ⟨M2, rfl, hF, ho, hv⟩ := ha
      left
      have h14 : M2.1 14 5 = nI kn := by rw [(hF 14 (by decide)).1]; exact hkn
      have row : ∀ low, low ≤ N → (∀ k, low ≤ k → kn ≤ n ∨ kn ≤ k) → (∀ k, k < N → (kn ≤ n ∨ kn ≤ k) → low ≤ k) → ∃ a2, St_startPairs_L2_J23 (nI N) (nI n) (nI low) M2 = some (.inr a2) ∧ ∃ M3, a2 = (nI (n + 1), M3) ∧ Fr [15] M M3 ∧ (∀ i k, i < kn → k < kn → M3.1 15 (60 * i + k) = M.1 15 (60 * i + k)) ∧ ∀ i k, i < n + 1 → k < N → (kn ≤ i ∨ kn ≤ k) → (mis sg pt i k ∧ M3.1 15 (60 * i + k) = nI 0) ∨ (¬ mis sg pt i k ∧ M3.1 15 (60 * i + k) = nI 1000000) := by
        intro low hl1 hl2 hl3
        obtain ⟨M3, r1, r2, r3, r4⟩ := iter_0 (B := St_startPairs_B24 (nI N) (nI n))
          (fun m a => ∃ M3, a = (nI (low + m), M3) ∧ Fr [15] M M3 ∧ (∀ i k, i < kn → k < kn → M3.1 15 (60 * i + k) = M.1 15 (60 * i + k)) ∧ ∀ i k, k < N → (kn ≤ i ∨ kn ≤ k) → (i < n ∨ (i = n ∧ k < low + m ∧ low ≤ k)) → (mis sg pt i k ∧ M3.1 15 (60 * i + k) = nI 0) ∨ (¬ mis sg pt i k ∧ M3.1 15 (60 * i + k) = nI 1000000))
          (fun M3 => Fr [15] M M3 ∧ (∀ i k, i < kn → k < kn → M3.1 15 (60 * i + k) = M.1 15 (60 * i + k)) ∧ ∀ i k, k < N → (kn ≤ i ∨ kn ≤ k) → (i < n ∨ (i = n ∧ low ≤ k)) → (mis sg pt i k ∧ M3.1 15 (60 * i + k) = nI 0) ∨ (¬ mis sg pt i k ∧ M3.1 15 (60 * i + k) = nI 1000000))
          (N - low) (by omega) (fun m a hm ha => by
            obtain ⟨M3, rfl, hF3, ho3, hv3⟩ := ha
            left
            have hK3 : NetK M3 N sg pt nm := NetK_fr hF3 (by decide) hK
            have hnw := hl2 (low + m) (by omega)
            have go : ∀ v : Nat, (mis sg pt n (low + m) ∧ nI v = nI 0) ∨ (¬ mis sg pt n (low + m) ∧ nI v = nI 1000000) → ∃ a2, St_startPairs_L24_J47 (nI N) (nI n) (nI (low + m)) (nI v) (nI (low + m)) (nI n) M3 = some (.inr a2) ∧ ∃ M4, a2 = (nI (low + (m + 1)), M4) ∧ Fr [15] M M4 ∧ (∀ i k, i < kn → k < kn → M4.1 15 (60 * i + k) = M.1 15 (60 * i + k)) ∧ ∀ i k, k < N → (kn ≤ i ∨ kn ≤ k) → (i < n ∨ (i = n ∧ k < low + (m + 1) ∧ low ≤ k)) → (mis sg pt i k ∧ M4.1 15 (60 * i + k) = nI 0) ∨ (¬ mis sg pt i k ∧ M4.1 15 (60 * i + k) = nI 1000000) := by
              intro v hv0
              unfold St_startPairs_L24_J47
              rw [st_set (by omega) (by omega)]
              simp only [Option.bind_some]
              refine ⟨_, rfl, _, by rw [nI_1]; rfl, Fr.i 15 hF3 (by decide), fun i k hi hk => ?_, fun i k hk hnw2 hor => ?_⟩
              · rw [u_i_k (by omega)]; exact ho3 i k hi hk
              · by_cases he : 60 * i + k = 60 * n + (low + m)
                · have h5 : i = n := by omega
                  have h6 : k = low + m := by omega
                  subst h5; subst h6
                  rw [u_i_e]; exact hv0
                · rw [u_i_k he]; exact hv3 i k hk hnw2 (by omega)
            unfold St_startPairs_B24
            simp only
            rw [if_neg (by rw [nI_leI (by omega) (by omega)]; omega)]
            rcases st_fit hW hK3 hn (show low + m < N by omega) with ⟨f1, f2⟩ | ⟨f1, f2⟩
            · rw [f1]; simp only [Option.bind_some, if_true]
              exact go 0 (Or.inl ⟨f2, rfl⟩)
            · rw [f1]; simp only [Option.bind_some]
              rw [if_neg (by decide)]
              exact go 1000000 (Or.inr ⟨f2, rfl⟩))
          (fun a ha => by
            obtain ⟨M3, rfl, hF3, ho3, hv3⟩ := ha
            refine ⟨M3, ?_, hF3, ho3, fun i k hk hnw hor => hv3 i k hk hnw (by omega)⟩
            unfold St_startPairs_B24
            simp only
            rw [if_pos (by rw [nI_leI (by omega) (by omega)]; omega)])
          (nI low, M2) ⟨M2, rfl, hF, ho, fun i k hk hnw hor => hv i k (by omega) hk hnw⟩
        unfold St_startPairs_L2_J23
        rw [r1]
        simp only [Option.bind_some]
        refine ⟨_, rfl, M3, by rw [nI_1], r2, r3, fun i k hi hk hnw => r4 i k hk hnw ?_⟩
        by_cases hin : i = n
        · subst hin; exact Or.inr ⟨rfl, hl3 k hk hnw⟩
        · exact Or.inl (by omega)
      unfold St_startPairs_B2
      simp only [h14]
      rw [if_neg (by rw [nI_leI (by omega) (by omega)]; omega)]
      by_cases hc : kn ≤ n
      · rw [if_pos ((nI_leI (by omega) (by omega)).mpr hc)]
        exact row 0 (by omega) (fun k _ => Or.inl hc) (fun k _ _ => by omega)
      · rw [if_neg (fun z => hc ((nI_leI (by omega) (by omega)).mp z))]
        exact row kn hle (fun k hk => Or.inr hk) (fun k _ hor => by omega))
    (fun a ha => by
      obtain ⟨M2, rfl, hF, ho, hv⟩ := ha
      refine ⟨M2, ?_, hF, ho, hv⟩
      unfold St_startPairs_B2
      simp only
      rw [if_pos (by rw [nI_leI (by omega) (by omega)]; omega)])
    ((0 : Int32), M) ⟨M, rfl, Fr.rf, fun _ _ _ _ => rfl, fun i k hi => by omega⟩
  rw [e1]
  exact ⟨Mz, rfl, e2, e3, e4⟩
end SWS
