/-! LEAST -/
def sumP (p : Nat → Option Nat) (f : Nat → Nat) : Nat → Nat
  | 0 => 0
  | m + 1 => sumP p f m + (match p m with
    | none => 0
    | some j => f j)
def minP (p : Nat → Option Nat) (f : Nat → Nat) (T : Nat) : Nat → Nat
  | 0 => T
  | m + 1 => min (minP p f T m) (match p m with
    | none => T
    | some j => f j)
def one_ (x : Int32) : Prop := x = 42 ∨ x = 110 ∨ x = 115 ∨ x = 116
/-- the size by the parts' -/
def LF (sg : Nat → Int32) (pt : Nat → Nat → Option Nat) (T : Nat) (f : Nat → Nat) (i : Nat) : Nat :=
  if sg i = 42 ∨ sg i = 110 ∨ sg i = 115 ∨ sg i = 116 then 1 else if sg i = 123 then 1 + sumP (pt i) f 8 else if sg i = 91 then 1 + minP (pt i) f T 8 else T
def IsL (n : Nat) (sg : Nat → Int32) (pt : Nat → Nat → Option Nat) (T : Nat) (f : Nat → Nat) : Prop := ∀ i, i < n → f i = min T (LF sg pt T f i)
theorem sumP_mono {p : Nat → Option Nat} {f g : Nat → Nat} {m : Nat} (h : ∀ s j, s < m → p s = some j → f j ≤ g j) : sumP p f m ≤ sumP p g m := by
  induction m with
  | zero => exact Nat.le_refl _
  | succ m ih =>
    have h1 := ih (fun s j hs => h s j (by omega))
    simp only [sumP]
    cases hp : p m with
    | none => simpa using h1
    | some j => have := h m j (by omega) hp; simp only; omega
theorem minP_mono {p : Nat → Option Nat} {f g : Nat → Nat} {T m : Nat} (h : ∀ s j, s < m → p s = some j → f j ≤ g j) : minP p f T m ≤ minP p g T m := by
  induction m with
  | zero => exact Nat.le_refl _
  | succ m ih =>
    have h1 := ih (fun s j hs => h s j (by omega))
    simp only [minP]
    cases hp : p m with
    | none => simp only; omega
    | some j => have := h m j (by omega) hp; simp only; omega
theorem sumP_ge {p : Nat → Option Nat} {f : Nat → Nat} {m s j : Nat} (hs : s < m) (hp : p s = some j) : f j ≤ sumP p f m := by
  induction m with
  | zero => omega
  | succ m ih =>
    simp only [sumP]
    by_cases h : s = m
    · subst h; rw [hp]; simp only; omega
    · have := ih (by omega); omega
theorem minP_le {p : Nat → Option Nat} {f : Nat → Nat} {T m s j : Nat} (hs : s < m) (hp : p s = some j) : minP p f T m ≤ f j := by
  induction m with
  | zero => omega
  | succ m ih =>
    simp only [minP]
    by_cases h : s = m
    · subst h; rw [hp]; simp only; omega
    · have := ih (by omega); omega
theorem minP_top {p : Nat → Option Nat} {f : Nat → Nat} {T m : Nat} : minP p f T m ≤ T := by
  induction m with
  | zero => exact Nat.le_refl _
  | succ m ih => simp only [minP]; omega
theorem minP_at {p : Nat → Option Nat} {f : Nat → Nat} {T m : Nat} (h : minP p f T m < T) : ∃ s j, s < m ∧ p s = some j ∧ minP p f T m = f j := by
  induction m with
  | zero => simp only [minP] at h; omega
  | succ m ih =>
    simp only [minP] at h ⊢
    cases hp : p m with
    | none =>
      rw [hp] at h
      simp only at h ⊢
      have h2 : minP p f T m < T := by omega
      obtain ⟨s, j, h3, h4, h5⟩ := ih h2
      exact ⟨s, j, by omega, h4, by omega⟩
    | some j =>
      rw [hp] at h
      simp only at h ⊢
      by_cases hc : f j ≤ minP p f T m
      · exact ⟨m, j, by omega, hp, by omega⟩
      · obtain ⟨s, j2, h3, h4, h5⟩ := ih (by have := @minP_top p f T m; omega)
        exact ⟨s, j2, by omega, h4, by omega⟩
theorem sumP_congr {p : Nat → Option Nat} {f g : Nat → Nat} {m : Nat} (h : ∀ s j, s < m → p s = some j → f j = g j) : sumP p f m = sumP p g m :=
  Nat.le_antisymm (sumP_mono fun s j hs hp => Nat.le_of_eq (h s j hs hp)) (sumP_mono fun s j hs hp => Nat.le_of_eq (h s j hs hp).symm)
theorem LF_mono {sg : Nat → Int32} {pt : Nat → Nat → Option Nat} {T : Nat} {f g : Nat → Nat} {i : Nat} (h : ∀ s j, s < 8 → pt i s = some j → f j ≤ g j) : LF sg pt T f i ≤ LF sg pt T g i := by
  unfold LF
  split
  · exact Nat.le_refl _
  · split
    · have := sumP_mono (m := 8) h; omega
    · split
      · have := minP_mono (T := T) (m := 8) h; omega
      · exact Nat.le_refl _
theorem LF_congr {sg : Nat → Int32} {pt : Nat → Nat → Option Nat} {T : Nat} {f g : Nat → Nat} {i : Nat} (h : ∀ s j, s < 8 → pt i s = some j → f j = g j) : LF sg pt T f i = LF sg pt T g i :=
  Nat.le_antisymm (LF_mono fun s j hs hp => Nat.le_of_eq (h s j hs hp)) (LF_mono fun s j hs hp => Nat.le_of_eq (h s j hs hp).symm)
theorem LF_pos {sg : Nat → Int32} {pt : Nat → Nat → Option Nat} {T : Nat} {f : Nat → Nat} {i : Nat} (hT : 1 ≤ T) : 1 ≤ LF sg pt T f i := by
  unfold LF
  split
  · exact Nat.le_refl _
  · split
    · omega
    · split <;> omega
/-- sizes up to T2 - 1 are the same under both tops -/
theorem IsL_le {n : Nat} {sg : Nat → Int32} {pt : Nat → Nat → Option Nat} {T1 T2 T : Nat} {f g : Nat → Nat} (hc : ∀ i s j, i < n → pt i s = some j → j < n) (h1 : T ≤ T1) (h2 : T ≤ T2) (hf : IsL n sg pt T1 f) (hg : IsL n sg pt T2 g) :
    ∀ v, v < T → ∀ i, i < n → (f i = v ↔ g i = v) := by
  intro v
  induction v using Nat.strongRecOn with
  | ind v ih =>
    have key : ∀ (f g : Nat → Nat) (T1 T2 : Nat), T ≤ T1 → T ≤ T2 → IsL n sg pt T1 f → IsL n sg pt T2 g → (∀ w, w < v → w < T → ∀ i, i < n → (f i = w ↔ g i = w)) → v < T → ∀ i, i < n → f i = v → g i = v := by
      intro f g T1 T2 h1 h2 hf hg ih hv i hi hfi
      have e1 := hf i hi
      have e2 := hg i hi
      have hLF : LF sg pt T1 f i = v := by omega
      have hle : LF sg pt T2 g i ≤ v := by
        unfold LF at hLF ⊢
        split at hLF
        · rename_i hs; rw [if_pos hs]; omega
        · rename_i hs; rw [if_neg hs]
          split at hLF
          · rename_i hs2; rw [if_pos hs2]
            have : sumP (pt i) g 8 = sumP (pt i) f 8 := by
              apply sumP_congr
              intro s j hs8 hp
              have h9 := sumP_ge (f := f) hs8 hp
              have hj := hc i s j hi hp
              exact (ih (f j) (by omega) (by omega) j hj).mp rfl
            omega
          · rename_i hs2; rw [if_neg hs2]
            split at hLF
            · rename_i hs3; rw [if_pos hs3]
              obtain ⟨s, j, hs8, hp, he⟩ := minP_at (p := pt i) (f := f) (T := T1) (m := 8) (by omega)
              have hj := hc i s j hi hp
              have h9 := (ih (f j) (by omega) (by omega) j hj).mp rfl
              have h10 := minP_le (f := g) (T := T2) hs8 hp
              omega
            · omega
      have hge : ¬ g i < v := by
        intro hlt
        have := (ih (g i) hlt (by omega) i hi).mpr rfl
        omega
      omega
    intro hv i hi
    exact ⟨key f g T1 T2 h1 h2 hf hg (fun w hw => ih w hw) hv i hi, key g f T2 T1 h2 h1 hg hf (fun w hw hwT i hi => (ih w hw hwT i hi).symm) hv i hi⟩
theorem sumP_bd {p : Nat → Option Nat} {f : Nat → Nat} {c m : Nat} (h : ∀ s j, s < m → p s = some j → f j ≤ c) : sumP p f m ≤ c * m := by
  induction m with
  | zero => exact Nat.le_refl _
  | succ m ih =>
    have h1 := ih (fun s j hs => h s j (by omega))
    simp only [sumP]
    cases hp : p m with
    | none => simp only; rw [Nat.mul_succ]; omega
    | some j => have := h m j (by omega) hp; simp only; rw [Nat.mul_succ]; omega
theorem LF_bd {sg : Nat → Int32} {pt : Nat → Nat → Option Nat} {T : Nat} {f : Nat → Nat} {i : Nat} (hT : 1 ≤ T) (h : ∀ s j, s < 8 → pt i s = some j → f j ≤ T) : LF sg pt T f i ≤ 1 + T * 8 := by
  unfold LF
  split
  · omega
  · split
    · have := sumP_bd h; omega
    · split
      · have := @minP_top (pt i) f T 8; omega
      · omega
theorem NetK_fr {M M2 : QM} {T : List Nat} {N : Nat} {sg : Nat → Int32} {pt : Nat → Nat → Option Nat} {nm : Nat → Option Nat} (hfr : Fr T M M2) (hT : (3 ∉ T ∧ 4 ∉ T ∧ 5 ∉ T ∧ 6 ∉ T ∧ 7 ∉ T)) (h : NetK M N sg pt nm) : NetK M2 N sg pt nm := by
  unfold NetK at h ⊢
  rw [(hfr 3 hT.1).1, (hfr 4 hT.2.1).1, (hfr 5 hT.2.2.1).1, (hfr 6 hT.2.2.2.1).1, (hfr 7 hT.2.2.2.2).1]
  exact h
theorem NetM_fr {M M2 : QM} {T : List Nat} {N : Nat} {sg : Nat → Int32} {pt : Nat → Nat → Option Nat} {nm : Nat → Option Nat} (hfr : Fr T M M2) (h0 : M2.1 0 2 = M.1 0 2) (hT : (2 ∉ T ∧ 3 ∉ T ∧ 4 ∉ T)) (h : NetM M N sg pt nm) : NetM M2 N sg pt nm := by
  unfold NetM at h ⊢
  rw [h0, (hfr 2 hT.1).1, (hfr 3 hT.2.1).1, (hfr 4 hT.2.2).1]
  exact h
def tot (f : Nat → Nat) : Nat → Nat
  | 0 => 0
  | n + 1 => tot f n + f n
theorem tot_mono {f g : Nat → Nat} {n : Nat} (h : ∀ i, i < n → f i ≤ g i) : tot f n ≤ tot g n := by
  induction n with
  | zero => exact Nat.le_refl _
  | succ n ih => have := ih (fun i hi => h i (by omega)); have := h n (by omega); simp only [tot]; omega
theorem tot_lt {f g : Nat → Nat} {n i : Nat} (h : ∀ i, i < n → f i ≤ g i) (hi : i < n) (hlt : f i < g i) : tot f n < tot g n := by
  induction n with
  | zero => omega
  | succ n ih =>
    simp only [tot]
    have h1 := h n (by omega)
    by_cases e : i = n
    · subst e; have := tot_mono (n := i) (fun i hi => h i (by omega)); omega
    · have := ih (fun i hi => h i (by omega)) (by omega); omega
theorem tot_bd {f : Nat → Nat} {n c : Nat} (h : ∀ i, i < n → f i ≤ c) : tot f n ≤ c * n := by
  induction n with
  | zero => exact Nat.le_refl _
  | succ n ih => have := ih (fun i hi => h i (by omega)); have := h n (by omega); simp only [tot]; rw [Nat.mul_succ]; omega
theorem tot_ge {f : Nat → Nat} {n : Nat} (h : ∀ i, i < n → 1 ≤ f i) : n ≤ tot f n := by
  induction n with
  | zero => omega
  | succ n ih => have := ih (fun i hi => h i (by omega)); have := h n (by omega); simp only [tot]; omega
theorem tot_min {f : Nat → Nat} {n i : Nat} (h : ∀ i, i < n → 1 ≤ f i) (ht : tot f n ≤ n) (hi : i < n) : f i = 1 := by
  induction n with
  | zero => omega
  | succ n ih =>
    simp only [tot] at ht
    have h1 := h n (by omega)
    have h2 := tot_ge (fun i hi => h i (by omega)) (n := n)
    by_cases e : i = n
    · subst e; omega
    · exact ih (fun i hi => h i (by omega)) (by omega) (by omega)
def upf (f : Nat → Nat) (i v : Nat) : Nat → Nat := fun j => if j = i then v else f j
theorem upf_e {f : Nat → Nat} {i v : Nat} : upf f i v i = v := by simp [upf]
theorem upf_ne {f : Nat → Nat} {i v j : Nat} (h : j ≠ i) : upf f i v j = f j := by simp [upf, h]
theorem nI_pred1 {a : Nat} (h : 0 < a) : nI a - 1 = nI (a - 1) := nI_sub (b := 1) (by omega)
theorem nI_lt_self (a : Nat) (h : a < 2 ^ 31) : nI a - 1 < nI a := by
  by_cases h0 : a = 0
  · subst h0; decide
  · rw [nI_pred1 (by omega), nI_ltI (by omega) h]; omega
section LE
variable {M : QM} {N kl : Nat} {sg : Nat → Int32} {pt : Nat → Nat → Option Nat} {nm : Nat → Option Nat} {f : Nat → Nat}
theorem le_found {i : Nat} (hi : i < 60) : Le_foundOf (nI i) M = some (M.1 32 i) := by
  unfold Le_foundOf
  simp (disch := omega) only [l_0, l_60, nI_ltI, nI_leI, if_neg, ck_in, ix_nI]
theorem le_found_no : Le_foundOf (-6) M = some 41 := by
  unfold Le_foundOf
  rw [if_pos (by decide)]
theorem le_sum (hW : WF N sg pt nm) (hK : NetK M N sg pt nm) {i : Nat} (hi : i < N) (hf : ∀ j, j < N → M.1 32 j = nI (f j)) : Le_sumOfParts (nI i) M = some (nI (sumP (pt i) f 8)) := by
  have hN := hW.1
  unfold Le_sumOfParts
  obtain ⟨b, h1, rfl⟩ := iter_0 (B := Le_sumOfParts_B4 (nI i) M) (fun k a => a = (nI (sumP (pt i) f k), nI k)) (fun b => b = nI (sumP (pt i) f 8)) 8 (by omega) (fun k a hk ha => by
    subst ha
    refine Or.inl ⟨(nI (sumP (pt i) f (k + 1)), nI (k + 1)), ?_, rfl⟩
    unfold Le_sumOfParts_B4
    rw [if_neg (by rw [l_8, nI_leI (by omega) (by omega)]; omega), kn_part hK hN hi hk]
    cases hp : pt i k with
    | none => simp only [Option.bind_some, enc_none, if_true, sumP, hp, Nat.add_zero, nI_1]
    | some j =>
      have hj := (hW.2.2.1 i k j hi hp).1
      simp only [Option.bind_some, enc_some, if_neg (nI_neg6 (n := j) (by omega)), le_found (M := M) (i := j) (by omega), hf j hj, sumP, hp, nI_1, nI_add]) (fun a ha => by
    subst ha
    refine ⟨_, ?_, rfl⟩
    unfold Le_sumOfParts_B4
    rw [if_pos (show (8 : Int32) ≤ nI 8 by decide)]) ((0 : Int32), (0 : Int32)) rfl
  rw [h1]
  rfl
theorem min_i {a b : Nat} (ha : a < 2 ^ 31) (hb : b < 2 ^ 31) : (if nI a < nI b then nI a else nI b) = nI (min b a) := by
  by_cases h : a < b
  · rw [if_pos ((nI_ltI ha hb).mpr h)]; congr 1; omega
  · rw [if_neg (fun z => h ((nI_ltI ha hb).mp z))]; congr 1; omega
theorem l_41 : (41 : Int32) = nI 41 := rfl
theorem l_40 : (40 : Int32) = nI 40 := rfl
theorem le_min (hW : WF N sg pt nm) (hK : NetK M N sg pt nm) {i : Nat} (hi : i < N) (hf : ∀ j, j < N → M.1 32 j = nI (f j)) (hb : ∀ j, j < N → f j ≤ 41) : Le_leastOfParts (nI i) M = some (nI (minP (pt i) f 41 8)) := by
  have hN := hW.1
  unfold Le_leastOfParts
  obtain ⟨b, h1, rfl⟩ := iter_0 (B := Le_leastOfParts_B5 (nI i) M) (fun k a => a = (nI (minP (pt i) f 41 k), nI k)) (fun b => b = nI (minP (pt i) f 41 8)) 8 (by omega) (fun k a hk ha => by
    subst ha
    refine Or.inl ⟨(nI (minP (pt i) f 41 (k + 1)), nI (k + 1)), ?_, rfl⟩
    unfold Le_leastOfParts_B5
    have ht := @minP_top (pt i) f 41 k
    rw [if_neg (by rw [l_8, nI_leI (by omega) (by omega)]; omega), kn_part hK hN hi hk]
    cases hp : pt i k with
    | none => simp only [Option.bind_some, enc_none, le_found_no, minP, hp, nI_1, l_41]; rw [min_i (by omega) (by omega)]
    | some j =>
      have hj := (hW.2.2.1 i k j hi hp).1
      have := hb j hj
      simp only [Option.bind_some, enc_some, le_found (M := M) (i := j) (by omega), hf j hj, minP, hp, nI_1]; rw [min_i (by omega) (by omega)]) (fun a ha => by
    subst ha
    refine ⟨_, ?_, rfl⟩
    unfold Le_leastOfParts_B5
    rw [if_pos (show (8 : Int32) ≤ nI 8 by decide)]) ((41 : Int32), (0 : Int32)) rfl
  rw [h1]
  rfl
theorem le_size (hW : WF N sg pt nm) (hK : NetK M N sg pt nm) {i : Nat} (hi : i < N) (hf : ∀ j, j < N → M.1 32 j = nI (f j)) (hb : ∀ j, j < N → f j ≤ 41) : Le_sizeByParts (nI i) M = some (nI (LF sg pt 41 f i)) := by
  unfold Le_sizeByParts
  rw [kn_sign hK hW.1 hi, le_min hW hK hi hf hb, le_sum hW hK hi hf]
  have hok := hW.2.1 i hi
  unfold LF
  simp only [Option.bind_some, l_1, nI_add]
  unfold okSign at hok
  rcases hok with h | h | h | h | h | h | h | h | h <;> rw [h] <;> simp
  · rfl
  · rfl
  · rfl
end LE

/-- the table of the least sizes while it is being made (from kl on) -/
def LI (M : QM) (N kl : Nat) (sg : Nat → Int32) (pt : Nat → Nat → Option Nat) (f : Nat → Nat) : Prop :=
  (∀ i, i < N → M.1 32 i = nI (f i)) ∧ (∀ i, i < N → 1 ≤ f i ∧ f i ≤ 41) ∧ ∀ i, kl ≤ i → i < N → min 41 (LF sg pt 41 f i) ≤ f i
section LE2
variable {M : QM} {N kl : Nat} {sg : Nat → Int32} {pt : Nat → Nat → Option Nat} {nm : Nat → Option Nat} {f : Nat → Nat}
theorem le_lessen (hW : WF N sg pt nm) (hK : NetK M N sg pt nm) (hkl : M.1 31 2 = nI kl) (hle : kl ≤ N) (hI : LI M N kl sg pt f) :
    ∃ (b : Int32) (M2 : QM) (f2 : Nat → Nat), Le_lessen (nI N) M = some (b, M2) ∧ Fr [32] M M2 ∧ LI M2 N kl sg pt f2 ∧ (∀ i, i < kl → f2 i = f i) ∧ (∀ i, i < N → f2 i ≤ f i) ∧
      ((b = 0 ∧ (∀ i, i < N → f2 i = f i) ∧ ∀ i, kl ≤ i → i < N → f i ≤ min 41 (LF sg pt 41 f i)) ∨ (b = 1 ∧ tot f2 N < tot f N)) := by
  have hN := hW.1
  unfold Le_lessen
  obtain ⟨b, h1, M1, f1, b1, hb, hF, hI1, hlow, hle1, hd⟩ := iter_0 (B := Le_lessen_B6)
    (fun k a => ∃ (M1 : QM) (f1 : Nat → Nat) (b1 : Int32), a = (b1, nI (N - k) - 1, M1) ∧ Fr [32] M M1 ∧ LI M1 N kl sg pt f1 ∧ (∀ i, i < kl → f1 i = f i) ∧ (∀ i, i < N → f1 i ≤ f i) ∧ ((b1 = 0 ∧ (∀ i, i < N → f1 i = f i) ∧ ∀ i, N - k ≤ i → i < N → f i ≤ min 41 (LF sg pt 41 f i)) ∨ (b1 = 1 ∧ tot f1 N < tot f N)))
    (fun b => ∃ (M1 : QM) (f1 : Nat → Nat) (b1 : Int32), b = (b1, M1) ∧ Fr [32] M M1 ∧ LI M1 N kl sg pt f1 ∧ (∀ i, i < kl → f1 i = f i) ∧ (∀ i, i < N → f1 i ≤ f i) ∧ ((b1 = 0 ∧ (∀ i, i < N → f1 i = f i) ∧ ∀ i, kl ≤ i → i < N → f i ≤ min 41 (LF sg pt 41 f i)) ∨ (b1 = 1 ∧ tot f1 N < tot f N)))
    (N - kl) (by omega) (fun k a hk ha => by
      obtain ⟨M1, f1, b1, rfl, hF, hI1, hlow, hle1, hd⟩ := ha
      left
      have hi : N - k - 1 < N := by omega
      generalize hie : N - k - 1 = i at hi
      have hnode : nI (N - k) - 1 = nI i := by rw [nI_pred1 (by omega), hie]
      have hK1 : NetK M1 N sg pt nm := NetK_fr hF (by decide) hK
      have h31 : M1.1 31 2 = nI kl := by rw [(hF 31 (by decide)).1]; exact hkl
      have hsz := le_size hW hK1 hi hI1.1 (fun j hj => (hI1.2.1 j hj).2)
      have hbd := LF_bd (sg := sg) (pt := pt) (T := 41) (f := f1) (i := i) (by omega) (fun s j hs hp => (hI1.2.1 j (hW.2.2.1 i s j hi hp).1).2)
      have hpos := LF_pos (sg := sg) (pt := pt) (T := 41) (f := f1) (i := i) (by omega)
      have hf1 := hI1.2.1 i hi
      have hnext : nI (N - k) - 1 - 1 = nI (N - (k + 1)) - 1 := by rw [nI_pred1 (a := N - k) (by omega)]; rfl
      unfold Le_lessen_B6
      simp only [hnode, h31] at hnext ⊢
      rw [if_neg (by rw [nI_ltI (by omega) (by omega)]; omega), if_neg (nI_pos (by omega)), hsz]
      simp only [Option.bind_some]
      rw [if_neg (by rw [l_60, nI_leI (by omega) (by omega)]; omega), ck_in (by omega) (by omega), ck_in (by omega) (by omega), ix_nI (by omega), l_41, min_i (by omega) (by omega), hI1.1 i hi]
      by_cases hc : f1 i ≤ min 41 (LF sg pt 41 f1 i)
      · rw [if_pos ((nI_leI (by omega) (by omega)).mpr hc)]
        refine ⟨_, rfl, M1, f1, b1, by rw [hnext], hF, hI1, hlow, hle1, ?_⟩
        rcases hd with ⟨hb0, heq, hst⟩ | hd
        · refine Or.inl ⟨hb0, heq, fun j h1 h2 => ?_⟩
          by_cases hj : j = i
          · subst hj
            have e : LF sg pt 41 f1 j = LF sg pt 41 f j := LF_congr (fun s q hs hp => heq q (hW.2.2.1 j s q hi hp).1)
            rw [← e, ← heq j hi]; exact hc
          · exact hst j (by omega) h2
        · exact Or.inr hd
      · rw [if_neg (fun z => hc ((nI_leI (by omega) (by omega)).mp z))]
        have hlt : min 41 (LF sg pt 41 f1 i) < f1 i := by omega
        have hmono : ∀ j, upf f1 i (min 41 (LF sg pt 41 f1 i)) j ≤ f1 j := fun j => by
          by_cases hj : j = i
          · subst hj; rw [upf_e]; omega
          · rw [upf_ne hj]; omega
        refine ⟨_, rfl, u_i M1 32 i (nI (min 41 (LF sg pt 41 f1 i))), upf f1 i (min 41 (LF sg pt 41 f1 i)), 1, by rw [hnext], Fr.i 32 hF (by decide), ⟨?_, ?_, ?_⟩, ?_, ?_, ?_⟩
        · intro j hj
          by_cases hji : j = i
          · subst hji; rw [u_i_e, upf_e]
          · rw [u_i_k hji, upf_ne hji]; exact hI1.1 j hj
        · intro j hj
          have h5 := hmono j
          have h6 := hI1.2.1 j hj
          by_cases hji : j = i
          · subst hji; rw [upf_e]; omega
          · rw [upf_ne hji]; exact h6
        · intro j h3 h4
          have h5 := LF_mono (sg := sg) (pt := pt) (T := 41) (i := j) (fun s q _ _ => hmono q)
          have h6 := hI1.2.2 j h3 h4
          by_cases hji : j = i
          · subst hji; rw [upf_e]; omega
          · rw [upf_ne hji]; omega
        · intro j hj
          rw [upf_ne (by omega)]; exact hlow j hj
        · intro j hj
          exact Nat.le_trans (hmono j) (hle1 j hj)
        · have h7 := tot_lt (n := N) (fun j _ => hmono j) hi (by rw [upf_e]; exact hlt)
          have h8 := tot_mono (n := N) hle1
          exact Or.inr ⟨rfl, by omega⟩)
    (fun a ha => by
      obtain ⟨M1, f1, b1, rfl, hF, hI1, hlow, hle1, hd⟩ := ha
      have e : N - (N - kl) = kl := by omega
      rw [e] at hd ⊢
      have h31 : M1.1 31 2 = nI kl := by rw [(hF 31 (by decide)).1]; exact hkl
      refine ⟨(b1, M1), ?_, M1, f1, b1, rfl, hF, hI1, hlow, hle1, hd⟩
      unfold Le_lessen_B6
      simp only [h31]
      rw [if_pos (nI_lt_self kl (by omega))])
    ((0 : Int32), nI N - 1, M) ⟨M, f, 0, by rw [Nat.sub_zero], Fr.rf, hI, fun _ _ => rfl, fun _ _ => Nat.le_refl _, Or.inl ⟨rfl, fun _ _ => rfl, fun i h1 h2 => by omega⟩⟩
  subst hb
  refine ⟨b1, M1, f1, ?_, hF, hI1, hlow, hle1, hd⟩
  rw [h1]
  simp only [Option.bind_some]
  rw [ck_t (by rcases hd with ⟨h, -⟩ | ⟨h, -⟩ <;> rw [h] <;> rfl)]
def LeK (M : QM) (N : Nat) (sg : Nat → Int32) (pt : Nat → Nat → Option Nat) : Prop :=
  ∃ (kl : Nat) (f : Nat → Nat), kl ≤ N ∧ M.1 31 2 = nI kl ∧ Clo kl pt ∧ IsL kl sg pt 41 f ∧ ∀ i, i < kl → M.1 32 i = nI (f i) ∧ 1 ≤ f i ∧ f i ≤ 41
theorem le_catchUp (hW : WF N sg pt nm) (hK : NetK M N sg pt nm) (hL : LeK M N sg pt) :
    ∃ (M2 : QM) (f : Nat → Nat), Le_catchUp M = some M2 ∧ Fr [31, 32] M M2 ∧ M2.1 31 2 = nI N ∧ IsL N sg pt 41 f ∧ ∀ i, i < N → M2.1 32 i = nI (f i) ∧ 1 ≤ f i ∧ f i ≤ 41 := by
  have hN := hW.1
  obtain ⟨kl, f0, hle, hkl, hclo, hfix, hval⟩ := hL
  unfold Le_catchUp
  rw [kn_nodes hK]
  have hmin : (if (60 : Int32) < nI N then (60 : Int32) else nI N) = nI N := by
    rw [if_neg (by rw [l_60, nI_ltI (by omega) (by omega)]; omega)]
  simp only [Option.bind_some, hmin, hkl]
  rw [if_neg (nI_pos (by omega))]
  by_cases hc : kl < N
  · rw [if_pos ((nI_ltI (by omega) (by omega)).mpr hc)]
    -- the new rows are 41
    obtain ⟨Ma, h1, hFa, hva⟩ := iter_0 (B := Le_catchUp_B34 (nI N))
      (fun k a => ∃ M1, a = (nI (kl + k), M1) ∧ Fr [32] M M1 ∧ ∀ i, i < kl + k → M1.1 32 i = nI (if i < kl then f0 i else 41))
      (fun M1 => Fr [32] M M1 ∧ ∀ i, i < N → M1.1 32 i = nI (if i < kl then f0 i else 41))
      (N - kl) (by omega) (fun k a hk ha => by
        obtain ⟨M1, rfl, hF, hv⟩ := ha
        left
        refine ⟨(nI (kl + (k + 1)), u_i M1 32 (kl + k) 41), ?_, u_i M1 32 (kl + k) 41, rfl, Fr.i 32 hF (by decide), fun i hi => ?_⟩
        · unfold Le_catchUp_B34
          rw [if_neg (by rw [nI_leI (by omega) (by omega)]; omega), ck_in (by omega) (by omega), ix_nI (by omega), nI_1]
          rfl
        · by_cases hi2 : i = kl + k
          · subst hi2; rw [u_i_e, if_neg (by omega)]; rfl
          · rw [u_i_k hi2]; exact hv i (by omega))
      (fun a ha => by
        obtain ⟨M1, rfl, hF, hv⟩ := ha
        rw [show kl + (N - kl) = N by omega] at hv ⊢
        refine ⟨M1, ?_, hF, hv⟩
        unfold Le_catchUp_B34
        rw [if_pos (by rw [nI_leI (by omega) (by omega)]; omega)])
      (nI kl, M) ⟨M, rfl, Fr.rf, fun i hi => by rw [if_pos (show i < kl from hi)]; exact (hval i hi).1⟩
    rw [h1]
    simp only [Option.bind_some]
    -- the sweeps
    have hI0 : LI Ma N kl sg pt (fun i => if i < kl then f0 i else 41) := by
      refine ⟨hva, fun i hi => ?_, fun i h2 h3 => ?_⟩
      · dsimp only
        by_cases h : i < kl
        · rw [if_pos h]; exact (hval i h).2
        · rw [if_neg h]; omega
      · show _ ≤ (if i < kl then f0 i else 41)
        rw [if_neg (by omega)]; omega
    have hbase : tot (fun i => if i < kl then f0 i else 41) N ≤ 41 * 60 := by
      have := tot_bd (f := fun i => if i < kl then f0 i else 41) (n := N) (c := 41) (fun i hi => (hI0.2.1 i hi).2)
      omega
    obtain ⟨Mb, h2, f2, hFb, hIb, hlowb, hstb⟩ := iter_0 (B := Le_catchUp_B57 (nI N))
      (fun k a => ∃ (M1 : QM) (f1 : Nat → Nat) (b1 : Int32), a = (b1, nI k, M1) ∧ Fr [32] Ma M1 ∧ LI M1 N kl sg pt f1 ∧ (∀ i, i < kl → f1 i = f0 i) ∧ ((b1 = 0 ∧ ∀ i, kl ≤ i → i < N → f1 i ≤ min 41 (LF sg pt 41 f1 i)) ∨ (b1 = 1 ∧ tot f1 N + k ≤ tot (fun i => if i < kl then f0 i else 41) N)))
      (fun M1 => ∃ f1 : Nat → Nat, Fr [32] Ma M1 ∧ LI M1 N kl sg pt f1 ∧ (∀ i, i < kl → f1 i = f0 i) ∧ ∀ i, kl ≤ i → i < N → f1 i ≤ min 41 (LF sg pt 41 f1 i))
      2400 (by omega) (fun k a hk ha => by
        obtain ⟨M1, f1, b1, rfl, hF, hI1, hlow, hd⟩ := ha
        rcases hd with ⟨hb0, hst⟩ | ⟨hb1, ht⟩
        · right
          refine ⟨M1, ?_, f1, hF, hI1, hlow, hst⟩
          unfold Le_catchUp_B57
          simp only
          rw [if_neg (by rw [show (2400 : Int32) = nI 2400 from rfl, nI_leI (by omega) (by omega)]; omega), if_pos hb0]
        · left
          have hK1 : NetK M1 N sg pt nm := NetK_fr hF (by decide) (NetK_fr hFa (by decide) hK)
          have h31 : M1.1 31 2 = nI kl := by rw [(hF 31 (by decide)).1, (hFa 31 (by decide)).1]; exact hkl
          obtain ⟨b2, M2, f2, g1, g2, g3, g4, g5, g6⟩ := le_lessen hW hK1 h31 hle hI1
          refine ⟨(b2, nI (k + 1), M2), ?_, M2, f2, b2, rfl, Fr.tr hF g2, g3, fun i hi => (g4 i hi).trans (hlow i hi), ?_⟩
          · unfold Le_catchUp_B57
            simp only
            rw [if_neg (by rw [show (2400 : Int32) = nI 2400 from rfl, nI_leI (by omega) (by omega)]; omega), if_neg (by rw [hb1]; decide), g1]
            simp only [Option.bind_some, nI_1]
          · rcases g6 with ⟨g7, g8, g9⟩ | ⟨g7, g8⟩
            · refine Or.inl ⟨g7, fun i h5 h6 => ?_⟩
              rw [g8 i h6, LF_congr (g := f1) (fun s q hs hp => g8 q (hW.2.2.1 i s q h6 hp).1)]
              exact g9 i h5 h6
            · exact Or.inr ⟨g7, by omega⟩)
      (fun a ha => by
        obtain ⟨M1, f1, b1, rfl, hF, hI1, hlow, hd⟩ := ha
        refine ⟨M1, ?_, f1, hF, hI1, hlow, ?_⟩
        · unfold Le_catchUp_B57
          simp only
          rw [if_pos (by decide)]
        · rcases hd with ⟨hb0, hst⟩ | ⟨hb1, ht⟩
          · exact hst
          · intro i h5 h6
            have h7 := tot_min (n := N) (fun i hi => (hI1.2.1 i hi).1) (by
              have hg : tot (fun i => if i < kl then f0 i else 41) N ≤ 41 * N := tot_bd (fun i hi => (hI0.2.1 i hi).2)
              omega) h6
            have h8 := LF_pos (sg := sg) (pt := pt) (T := 41) (f := f1) (i := i) (by omega)
            omega)
      ((1 : Int32), (0 : Int32), Ma) ⟨Ma, _, 1, rfl, Fr.rf, hI0, fun i hi => by show (if i < kl then f0 i else 41) = f0 i; rw [if_pos hi], Or.inr ⟨rfl, Nat.le_refl _⟩⟩
    rw [h2]
    simp only [Option.bind_some, Le_catchUp_J80]
    refine ⟨_, f2, rfl, ?_, u_i_e, ?_, fun i hi => ?_⟩
    · exact Fr.i 31 (Fr.tr (Fr.sub hFa (by decide)) (Fr.sub hFb (by decide))) (by decide)
    · intro i hi
      by_cases hik : i < kl
      · rw [hlowb i hik, hfix i hik]
        congr 1
        exact LF_congr (fun s q hs hp => (hlowb q (hclo i s q hik hp)).symm)
      · have h5 := hstb i (by omega) hi
        have h6 := hIb.2.2 i (by omega) hi
        omega
    · rw [u_i_o (by decide)]
      exact ⟨hIb.1 i hi, hIb.2.1 i hi⟩
  · rw [if_neg (fun z => hc ((nI_ltI (by omega) (by omega)).mp z))]
    have e : kl = N := by omega
    subst e
    exact ⟨M, f0, rfl, Fr.rf, hkl, hfix, hval⟩
end LE2
