/-! ways down, as numbers -/
section DI
variable {sg : Nat → Int32} {pt : Nat → Nat → Option Nat} {nm : Nat → Option Nat} {N : Nat}
theorem Dn_up {r i k : Nat} (h : Dn sg pt r i k) : Dn sg pt (r + 1) i k := by
  induction r generalizing i k with
  | zero => exact Or.inl h
  | succ r ih =>
    rcases h with h | ⟨s, a, b, h1, h2, h3⟩
    · exact Or.inl h
    · exact Or.inr ⟨s, a, b, h1, h2, ih h3⟩
theorem Dn_le {r q i k : Nat} (h : Dn sg pt r i k) (hq : r ≤ q) : Dn sg pt q i k := by
  obtain ⟨n, rfl⟩ : ∃ n, q = r + n := ⟨q - r, by omega⟩
  clear hq
  induction n with
  | zero => exact h
  | succ n ih => exact Dn_up ih
theorem Dv_of {r i k : Nat} (h : Dn sg pt r i k) : ∃ v, v ≤ r ∧ Dv sg pt i k v := by
  induction r with
  | zero => exact ⟨0, Nat.le_refl _, h, fun u hu => by omega⟩
  | succ r ih =>
    by_cases h2 : Dn sg pt r i k
    · obtain ⟨v, hv, hd⟩ := ih h2
      exact ⟨v, by omega, hd⟩
    · exact ⟨r + 1, Nat.le_refl _, h, fun u hu z => h2 (Dn_le z (by omega))⟩
theorem Dv_uniq {i k u v : Nat} (h1 : Dv sg pt i k u) (h2 : Dv sg pt i k v) : u = v := by
  by_cases a : u < v
  · exact absurd h1.1 (h2.2 u a)
  · by_cases b : v < u
    · exact absurd h2.1 (h1.2 v b)
    · omega
theorem My_or {i k : Nat} : My sg pt i k ∨ ∃ v, Dv sg pt i k v := by
  by_cases h : ∃ r, Dn sg pt r i k
  · obtain ⟨r, hr⟩ := h
    obtain ⟨v, -, hv⟩ := Dv_of hr
    exact Or.inr ⟨v, hv⟩
  · exact Or.inl (fun r hr => h ⟨r, hr⟩)
theorem Dv_not {i k v : Nat} (h : Dv sg pt i k v) : ¬ My sg pt i k := fun z => z v h.1
/-- behind a pair of v + 1 steps stands one of v steps -/
theorem Dv_beh {i k v : Nat} (h : Dv sg pt i k (v + 1)) : ∃ s a b, s < 8 ∧ beh sg pt i k s = some (a, b) ∧ Dv sg pt a b v := by
  obtain ⟨h1, h2⟩ := h
  rcases h1 with h1 | ⟨s, a, b, h3, h4, h5⟩
  · exact absurd h1 (h2 0 (by omega))
  · exact ⟨s, a, b, h3, h4, h5, fun u hu z => h2 (u + 1) (by omega) (Or.inr ⟨s, a, b, h3, h4, z⟩)⟩
theorem beh_lt (hW : WF N sg pt nm) {i k s a b : Nat} (hi : i < N) (hk : k < N) (h : beh sg pt i k s = some (a, b)) : a < N ∧ b < N := by
  unfold beh at h
  cases h1 : pt i s with
  | none => rw [h1] at h; cases h
  | some x =>
    cases h2 : pt k s with
    | none => rw [h1, h2] at h; cases h
    | some y =>
      rw [h1, h2] at h
      simp only at h
      have hx := (hW.2.2.1 i s x hi h1).1
      have hy := (hW.2.2.1 k s y hk h2).1
      split at h
      · cases h; exact ⟨hy, hx⟩
      · cases h; exact ⟨hx, hy⟩
theorem beh_clo {n : Nat} (hc : Clo n pt) {i k s a b : Nat} (hi : i < n) (hk : k < n) (h : beh sg pt i k s = some (a, b)) : a < n ∧ b < n := by
  unfold beh at h
  cases h1 : pt i s with
  | none => rw [h1] at h; cases h
  | some x =>
    cases h2 : pt k s with
    | none => rw [h1, h2] at h; cases h
    | some y =>
      rw [h1, h2] at h
      simp only at h
      have hx := hc i s x hi h1
      have hy := hc k s y hk h2
      split at h
      · cases h; exact ⟨hy, hx⟩
      · cases h; exact ⟨hx, hy⟩
theorem beh_some {i k s : Nat} : (beh sg pt i k s).isSome = true ↔ has_ pt i s ∧ has_ pt k s := by
  unfold beh has_
  cases pt i s with
  | none => simp
  | some x =>
    cases pt k s with
    | none => simp
    | some y => simp only [Option.isSome_some, and_self, iff_true]; split <;> rfl
/-- a level that is reached has those below it -/
theorem Dv_down (hW : WF N sg pt nm) {v : Nat} : ∀ {i k : Nat}, i < N → k < N → Dv sg pt i k v → ∀ u, u ≤ v → ∃ a b, a < N ∧ b < N ∧ Dv sg pt a b u := by
  induction v with
  | zero => intro i k hi hk h u hu; exact ⟨i, k, hi, hk, by rw [show u = 0 by omega]; exact h⟩
  | succ v ih =>
    intro i k hi hk h u hu
    by_cases e : u = v + 1
    · subst e; exact ⟨i, k, hi, hk, h⟩
    · obtain ⟨s, a, b, h1, h2, h3⟩ := Dv_beh h
      obtain ⟨ha, hb⟩ := beh_lt hW hi hk h2
      exact ih ha hb h3 u (by omega)
/-- how many pairs have a way of at most v steps -/
noncomputable def cntD (N : Nat) (sg : Nat → Int32) (pt : Nat → Nat → Option Nat) (v p : Nat) : Nat :=
  @ite Nat (p / 60 < N ∧ p % 60 < N ∧ Dn sg pt v (p / 60) (p % 60)) (Classical.propDecidable _) 1 0
theorem cntD_1 {v p : Nat} (h : p / 60 < N ∧ p % 60 < N ∧ Dn sg pt v (p / 60) (p % 60)) : cntD N sg pt v p = 1 := by
  unfold cntD; rw [if_pos h]
theorem cntD_0 {v p : Nat} (h : ¬ (p / 60 < N ∧ p % 60 < N ∧ Dn sg pt v (p / 60) (p % 60))) : cntD N sg pt v p = 0 := by
  unfold cntD; rw [if_neg h]
theorem cntD_le {v p : Nat} : cntD N sg pt v p ≤ 1 := by
  unfold cntD; split <;> omega
theorem cntD_mono {v p : Nat} : cntD N sg pt v p ≤ cntD N sg pt (v + 1) p := by
  by_cases h : p / 60 < N ∧ p % 60 < N ∧ Dn sg pt v (p / 60) (p % 60)
  · rw [cntD_1 h, cntD_1 ⟨h.1, h.2.1, Dn_up h.2.2⟩]; omega
  · rw [cntD_0 h]; omega
theorem Dv_many (hW : WF N sg pt nm) {v : Nat} : ∀ {i k : Nat}, i < N → k < N → Dv sg pt i k v → v + 1 ≤ tot (cntD N sg pt v) 3600 := by
  have hN := hW.1
  have hp : ∀ i k, i < N → k < N → (60 * i + k) / 60 = i ∧ (60 * i + k) % 60 = k := fun i k hi hk => by omega
  induction v with
  | zero =>
    intro i k hi hk h
    obtain ⟨e1, e2⟩ := hp i k hi hk
    have h1 : cntD N sg pt 0 (60 * i + k) = 1 := cntD_1 (by rw [e1, e2]; exact ⟨hi, hk, h.1⟩)
    have h2 := tot_lt (f := fun _ => 0) (g := cntD N sg pt 0) (n := 3600) (i := 60 * i + k) (fun _ _ => Nat.zero_le _) (by omega) (by rw [h1]; omega)
    omega
  | succ v ih =>
    intro i k hi hk h
    obtain ⟨s, a, b, h1, h2, h3⟩ := Dv_beh h
    obtain ⟨ha, hb⟩ := beh_lt hW hi hk h2
    have h4 := ih ha hb h3
    obtain ⟨e1, e2⟩ := hp i k hi hk
    have h5 : cntD N sg pt (v + 1) (60 * i + k) = 1 := cntD_1 (by rw [e1, e2]; exact ⟨hi, hk, h.1⟩)
    have h6 : cntD N sg pt v (60 * i + k) = 0 := cntD_0 (by rw [e1, e2]; exact fun z => h.2 v (by omega) z.2.2)
    have h7 := tot_lt (f := cntD N sg pt v) (g := cntD N sg pt (v + 1)) (n := 3600) (i := 60 * i + k) (fun _ _ => cntD_mono) (by omega) (by rw [h5, h6]; omega)
    omega
theorem Dv_lt (hW : WF N sg pt nm) {i k v : Nat} (hi : i < N) (hk : k < N) (h : Dv sg pt i k v) : v < 3600 := by
  have h1 := Dv_many hW hi hk h
  have h2 := tot_bd (f := cntD N sg pt v) (n := 3600) (c := 1) (fun _ _ => cntD_le)
  omega
theorem Dn_congr {sg2 : Nat → Int32} {pt2 : Nat → Nat → Option Nat} {n : Nat} (hs : ∀ i, i < n → sg i = sg2 i) (hp : ∀ i, i < n → pt i = pt2 i) (hc : Clo n pt) : ∀ (r i k : Nat), i < n → k < n → (Dn sg pt r i k ↔ Dn sg2 pt2 r i k) := by
  have hm : ∀ i k, i < n → k < n → (mis sg pt i k ↔ mis sg2 pt2 i k) := fun i k hi hk => by
    unfold mis has_
    rw [hs i hi, hs k hk, hp i hi, hp k hk]
  have hb : ∀ i k s, i < n → k < n → beh sg pt i k s = beh sg2 pt2 i k s := fun i k s hi hk => by
    unfold beh
    rw [hs i hi, hp i hi, hp k hk]
  intro r
  induction r with
  | zero => exact hm
  | succ r ih =>
    intro i k hi hk
    simp only [Dn]
    rw [hm i k hi hk]
    refine or_congr Iff.rfl ⟨fun h => ?_, fun h => ?_⟩
    · obtain ⟨s, a, b, h1, h2, h3⟩ := h
      obtain ⟨ha, hbn⟩ := beh_clo hc hi hk h2
      exact ⟨s, a, b, h1, by rw [← hb i k s hi hk]; exact h2, (ih a b ha hbn).mp h3⟩
    · obtain ⟨s, a, b, h1, h2, h3⟩ := h
      rw [← hb i k s hi hk] at h2
      obtain ⟨ha, hbn⟩ := beh_clo hc hi hk h2
      exact ⟨s, a, b, h1, h2, (ih a b ha hbn).mpr h3⟩
theorem Dok_congr {sg2 : Nat → Int32} {pt2 : Nat → Nat → Option Nat} {n top : Nat} (hs : ∀ i, i < n → sg i = sg2 i) (hp : ∀ i, i < n → pt i = pt2 i) (hc : Clo n pt) {i k : Nat} {x : Int32} (hi : i < n) (hk : k < n) (h : Dok top sg pt i k x) : Dok top sg2 pt2 i k x := by
  have hd := fun r => Dn_congr hs hp hc r i k hi hk
  rcases h with ⟨v, h1, h2, h3⟩ | ⟨h1, h2⟩
  · exact Or.inl ⟨v, h1, ⟨(hd v).mp h2.1, fun u hu z => h2.2 u hu ((hd u).mpr z)⟩, h3⟩
  · exact Or.inr ⟨fun r z => h1 r ((hd r).mpr z), h2⟩
end DI
