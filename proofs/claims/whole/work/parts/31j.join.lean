/-! JOIN: the call -/
section JNA
variable {MK MM MK0 MM0 M : QM} {N A n : Nat} {sg sg2 : Nat → Int32} {pt pt2 : Nat → Nat → Option Nat} {nm : Nat → Option Nat} {f : Nat → Tq} {nx : Nat → Nat} {D : Nat → Nat → Nat}
theorem StK_ext (h : StK M N sg pt) (hs : ∀ i, i < N → sg i = sg2 i) (hp : ∀ i, i < N → pt i = pt2 i) (hA : N ≤ A) : StK M A sg2 pt2 := by
  obtain ⟨kn, h1, h2, h3, h4⟩ := h
  refine ⟨kn, by omega, h2, fun i s j hi hj => h3 i s j hi (by rw [hp i (by omega)]; exact hj), fun i k hi hk => ?_⟩
  exact Dok_congr (fun i hi => hs i (by omega)) (fun i hi => hp i (by omega)) h3 hi hk (h4 i k hi hk)
theorem CoK_ext (h : CoK M N sg pt) (hs : ∀ i, i < N → sg i = sg2 i) (hp : ∀ i, i < N → pt i = pt2 i) (hA : N ≤ A) : CoK M A sg2 pt2 := by
  obtain ⟨kn, h1, h2, h3, h4⟩ := h
  refine ⟨kn, by omega, h2, fun i s j hi hj => h3 i s j hi (by rw [hp i (by omega)]; exact hj), fun i s hi h5 h6 => ?_⟩
  rw [← cN_congr (n := kn) (fun i hi => hs i (by omega)) (fun i hi => hp i (by omega)) h3 s h6 i hi]
  exact h4 i s hi h5 h6
theorem LeK_ext (h : LeK M N sg pt) (hs : ∀ i, i < N → sg i = sg2 i) (hp : ∀ i, i < N → pt i = pt2 i) (hA : N ≤ A) : LeK M A sg2 pt2 := by
  obtain ⟨kn, f, h1, h2, h3, h4, h5⟩ := h
  refine ⟨kn, f, by omega, h2, fun i s j hi hj => h3 i s j hi (by rw [hp i (by omega)]; exact hj), fun i hi => ?_, h5⟩
  have := h4 i hi
  unfold LF at this ⊢
  rw [← hs i (by omega), ← hp i (by omega)]
  exact this
theorem jP_oldf {i : Nat} (h : i < N) : pt i = jP N sg pt f nx D i := by
  funext s
  rw [jP_old h]
theorem jP_full (hi : N ≤ n) (h8 : nx n = 8) {s : Nat} (hs : s < 8) : jP N sg pt f nx D n s = jx (jtk sg pt (f n) s) (D n s) (jkp sg pt (f n) s) := by
  unfold jP
  rw [if_neg (by omega), h8, if_pos hs]
theorem jQ_full (hi : N ≤ n) (h8 : nx n = 8) {s : Nat} (hs : s < 8) : jQ N sg pt f nx D n s = jP N sg pt f nx D n s := by
  rw [jP_full hi h8 hs]
  unfold jQ
  rw [if_neg (by omega), h8, if_pos hs]
  cases jtk sg pt (f n) s <;> rfl
theorem jkp_lt (hW : WF N sg pt nm) {q : Tq} (h1 : q.1 < N) (h2 : q.2.1 < N) {s j : Nat} (e : jkp sg pt q s = some j) : j < N := by
  unfold jkp at e
  by_cases c : sg q.1 = sg q.2.1 ∧ (sg q.1 = 123 ∧ q.2.2 = 1 ∨ sg q.1 = 91 ∧ q.2.2 = 0)
  · rw [if_pos c] at e
    cases e1 : pt q.1 s with
    | none =>
      cases e2 : pt q.2.1 s with
      | none => rw [e1, e2] at e; cases e
      | some b => rw [e1, e2] at e; cases e; exact (hW.2.2.1 _ _ _ h2 e2).1
    | some a =>
      cases e2 : pt q.2.1 s with
      | none => rw [e1, e2] at e; cases e; exact (hW.2.2.1 _ _ _ h1 e1).1
      | some b => rw [e1, e2] at e; cases e
  · rw [if_neg c] at e; cases e
theorem okS {x : Int32} (h : x = 123 ∨ x = 91 ∨ x = 42 ∨ x = 62) : okSign x := by
  rcases h with h | h | h | h <;> rw [h] <;> unfold okSign <;> decide
theorem j_WF (hW : WF N sg pt nm) (hI : JI N sg pt A f nx D []) : WF A (jS N sg f) (jP N sg pt f nx D) nm := by
  obtain ⟨i1, i2, i3, i4, i5, i6, i7, i8, i9⟩ := hI
  have h8 : ∀ n, N ≤ n → n < A → nx n = 8 := fun n h1 h2 => i8 n h1 h2 List.not_mem_nil
  have hs8 : ∀ i s j, i < A → jP N sg pt f nx D i s = some j → s < 8 := fun i s j hi h => jP_lt hW (fun z => (i3 i z hi).2) h
  have sgn : ∀ i, N ≤ i → i < A → (sg (f i).1 = sg (f i).2.1 ∧ jsg sg (f i) = sg (f i).1 ∧ (sg (f i).1 = 123 ∨ sg (f i).1 = 91 ∨ sg (f i).1 = 42 ∨ sg (f i).1 = 62)) ∨ (¬ sg (f i).1 = sg (f i).2.1 ∧ (jsg sg (f i) = 46 ∨ jsg sg (f i) = 33)) := by
    intro i h1 h2
    unfold jsg
    by_cases c : sg (f i).1 = sg (f i).2.1
    · rw [if_pos c]
      exact Or.inl ⟨c, rfl, icp_sign hW (i3 i h1 h2).1 c⟩
    · rw [if_neg c]
      refine Or.inr ⟨c, ?_⟩
      split
      · exact Or.inl rfl
      · exact Or.inr rfl
  have nop : ∀ i, N ≤ i → i < A → ¬ sg (f i).1 = sg (f i).2.1 → ∀ s, jP N sg pt f nx D i s = none := by
    intro i h1 h2 c s
    unfold jP
    rw [if_neg (by omega)]
    by_cases z : s < nx i
    · rw [if_pos z]
      unfold jtk jkp
      rw [if_neg c, if_neg (fun y => c y.1)]
      rfl
    · rw [if_neg z]
  have nos : ∀ i, N ≤ i → i < A → ∀ s, (s < 8 → jtk sg pt (f i) s = none ∧ jkp sg pt (f i) s = none) → jP N sg pt f nx D i s = none := by
    intro i h1 h2 s h
    by_cases z : s < 8
    · rw [jP_full h1 (h8 i h1 h2) z, (h z).1, (h z).2]
      rfl
    · unfold jP
      rw [if_neg (by omega), if_neg (by have := (i3 i h1 h2).2; omega)]
  refine ⟨i2, fun i hi => ?_, fun i s j hi h => ⟨?_, hs8 i s j hi h⟩, fun k j h => by have := hW.2.2.2.1 k j h; omega, fun i hi h => ?_, fun i hi h => ?_, fun i hi g1 g2 g3 g4 s => ?_⟩
  · by_cases c : i < N
    · rw [jS_old c]; exact hW.2.1 i c
    · rw [jS_new (by omega)]
      rcases sgn i (by omega) hi with ⟨-, a, b⟩ | ⟨-, a⟩
      · rw [a]; exact okS b
      · rcases a with a | a <;> rw [a] <;> unfold okSign <;> decide
  · by_cases c : i < N
    · rw [jP_old c] at h
      have := (hW.2.2.1 i s j c h).1
      omega
    · have hs := hs8 i s j hi h
      rw [jP_full (by omega) (h8 i (by omega) hi) hs] at h
      obtain ⟨q1, q2, -⟩ := (i3 i (by omega) hi).1
      cases e : jtk sg pt (f i) s with
      | none =>
        rw [e] at h
        have := jkp_lt hW q1 q2 (show jkp sg pt (f i) s = some j from h)
        omega
      | some t =>
        rw [e] at h
        have h' : some (D i s) = some j := h
        have := i9 i s t (by omega) hi (by rw [h8 i (by omega) hi]; exact hs) e
        have := Option.some.inj h'
        omega
  · by_cases c : i < N
    · rw [jS_old c] at h
      have := hW.2.2.2.2.1 i c h
      refine ⟨by rw [jP_old c]; exact this.1, fun s hs => by rw [jP_old c]; exact this.2 s hs⟩
    · rw [jS_new (by omega)] at h
      rcases sgn i (by omega) hi with ⟨a, b, -⟩ | ⟨-, b⟩
      · rw [b] at h
        obtain ⟨q1, q2, -⟩ := (i3 i (by omega) hi).1
        have w1 := hW.2.2.2.2.1 _ q1 h
        have w2 := hW.2.2.2.2.1 _ q2 (a ▸ h)
        obtain ⟨x, hx⟩ := Option.isSome_iff_exists.mp w1.1
        obtain ⟨y, hy⟩ := Option.isSome_iff_exists.mp w2.1
        refine ⟨?_, fun s hs => nos i (by omega) hi s (fun z => ⟨?_, jkp_no (by rw [h]; decide) (by rw [h]; decide) s⟩)⟩
        · rw [jP_full (by omega) (h8 i (by omega) hi) (by omega)]
          unfold jtk
          rw [if_pos a, hx, hy]
          rfl
        · unfold jtk
          rw [if_pos a, w1.2 s hs]
      · rcases b with b | b <;> rw [b] at h <;> exact absurd h (by decide)
  · by_cases c : i < N
    · rw [jS_old c] at h
      have := hW.2.2.2.2.2.1 i c h
      refine ⟨by rw [jP_old c]; exact this.1, by rw [jP_old c]; exact this.2.1, fun s hs => by rw [jP_old c]; exact this.2.2 s hs⟩
    · rw [jS_new (by omega)] at h
      rcases sgn i (by omega) hi with ⟨a, b, -⟩ | ⟨-, b⟩
      · rw [b] at h
        obtain ⟨q1, q2, -⟩ := (i3 i (by omega) hi).1
        have w1 := hW.2.2.2.2.2.1 _ q1 h
        have w2 := hW.2.2.2.2.2.1 _ q2 (a ▸ h)
        obtain ⟨x, hx⟩ := Option.isSome_iff_exists.mp w1.1
        obtain ⟨y, hy⟩ := Option.isSome_iff_exists.mp w2.1
        obtain ⟨x1, hx1⟩ := Option.isSome_iff_exists.mp w1.2.1
        obtain ⟨y1, hy1⟩ := Option.isSome_iff_exists.mp w2.2.1
        refine ⟨?_, ?_, fun s hs => nos i (by omega) hi s (fun z => ⟨?_, jkp_no (by rw [h]; decide) (by rw [h]; decide) s⟩)⟩
        · rw [jP_full (by omega) (h8 i (by omega) hi) (by omega)]
          unfold jtk
          rw [if_pos a, hx, hy]
          rfl
        · rw [jP_full (by omega) (h8 i (by omega) hi) (by omega)]
          unfold jtk
          rw [if_pos a, hx1, hy1]
          rfl
        · unfold jtk
          rw [if_pos a, w1.2.2 s hs]
      · rcases b with b | b <;> rw [b] at h <;> exact absurd h (by decide)
  · by_cases c : i < N
    · rw [jS_old c] at g1 g2 g3 g4
      rw [jP_old c]
      exact hW.2.2.2.2.2.2 i c g1 g2 g3 g4 s
    · rw [jS_new (by omega)] at g1 g2 g3 g4
      rcases sgn i (by omega) hi with ⟨a, b, d⟩ | ⟨a, b⟩
      · rw [b] at g1 g2 g3 g4
        rcases d with d | d | d | d
        · exact absurd d g3
        · exact absurd d g4
        · exact absurd d g1
        · exact absurd d g2
      · exact nop i (by omega) hi a s
end JNA
