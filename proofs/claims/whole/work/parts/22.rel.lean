/-! what program and reference hold in common -/
/-- the signs that a node may have -/
def okSign (x : Int32) : Prop := x = 110 ∨ x = 116 ∨ x = 115 ∨ x = 46 ∨ x = 33 ∨ x = 123 ∨ x = 91 ∨ x = 42 ∨ x = 62
/-- a net of N nodes: signs, parts, names -/
def WF (N : Nat) (sg : Nat → Int32) (pt : Nat → Nat → Option Nat) (nm : Nat → Option Nat) : Prop :=
  N ≤ 60 ∧ (∀ i, i < N → okSign (sg i)) ∧ (∀ i s j, i < N → pt i s = some j → j < N ∧ s < 8) ∧ (∀ k j, nm k = some j → j < N) ∧
  (∀ i, i < N → sg i = 42 → (pt i 0).isSome = true ∧ ∀ s, 0 < s → pt i s = none) ∧
  (∀ i, i < N → sg i = 62 → (pt i 0).isSome = true ∧ (pt i 1).isSome = true ∧ ∀ s, 1 < s → pt i s = none) ∧
  (∀ i, i < N → sg i ≠ 42 → sg i ≠ 62 → sg i ≠ 123 → sg i ≠ 91 → ∀ s, pt i s = none)
def PadR (MK MM : QM) : Prop := ∃ pn : Nat, pn ≤ 100 ∧ MK.1 1 1 = nI pn ∧ MM.1 0 0 = nI pn ∧ ∀ k, k < pn → MK.1 2 k = MM.1 1 k ∧ 33 ≤ (MM.1 1 k).toInt ∧ (MM.1 1 k).toInt ≤ 126
def NetK (M : QM) (N : Nat) (sg : Nat → Int32) (pt : Nat → Nat → Option Nat) (nm : Nat → Option Nat) : Prop :=
  M.1 3 0 = 60 ∧ M.1 3 5 = nI N ∧ (∀ i, i < N → M.1 4 i = sg i) ∧
  (∀ i, i < N → ∃ m : Nat, m < 256 ∧ M.1 5 i = nI m ∧ ∀ s, s < 8 → m.testBit s = (pt i s).isSome) ∧
  (∀ i s j, i < N → pt i s = some j → M.1 6 (8 * i + s) = nI j) ∧ (∀ k, k < 8 → M.1 7 k = enc (nm k))
def NetM (M : QM) (N : Nat) (sg : Nat → Int32) (pt : Nat → Nat → Option Nat) (nm : Nat → Option Nat) : Prop :=
  M.1 0 2 = nI N ∧ (∀ i, i < N → M.1 2 i = sg i) ∧ (∀ i s, i < N → s < 8 → M.1 3 (8 * i + s) = enc (pt i s)) ∧ (∀ k, k < 8 → M.1 4 k = enc (nm k))
/-- nodes below n have parts below n alone -/
def Clo (n : Nat) (pt : Nat → Nat → Option Nat) : Prop := ∀ i s j, i < n → pt i s = some j → j < n
/-- letters of a node -/
abbrev has_ (pt : Nat → Nat → Option Nat) (i s : Nat) : Prop := (pt i s).isSome = true
/-- two nodes that don't fit by themselves -/
def mis (sg : Nat → Int32) (pt : Nat → Nat → Option Nat) (i k : Nat) : Prop :=
  ¬ (sg i = 33 ∨ sg k = 46) ∧ (sg i ≠ sg k ∨ (sg i = 123 ∧ ∃ s, s < 8 ∧ has_ pt k s ∧ ¬ has_ pt i s) ∨ (sg i = 91 ∧ ∃ s, s < 8 ∧ has_ pt i s ∧ ¬ has_ pt k s))
/-- the two parts behind a slot, the one that would stand ahead -/
def beh (sg : Nat → Int32) (pt : Nat → Nat → Option Nat) (i k s : Nat) : Option (Nat × Nat) := match pt i s, pt k s with
  | some a, some b => if s = 0 ∧ sg i = 62 then some (b, a) else some (a, b)
  | _, _ => none
/-- there is a way of at most r steps down to what doesn't fit -/
def Dn (sg : Nat → Int32) (pt : Nat → Nat → Option Nat) : Nat → Nat → Nat → Prop
  | 0, i, k => mis sg pt i k
  | r + 1, i, k => mis sg pt i k ∨ ∃ s a b, s < 8 ∧ beh sg pt i k s = some (a, b) ∧ Dn sg pt r a b
/-- the way has v steps -/
def Dv (sg : Nat → Int32) (pt : Nat → Nat → Option Nat) (i k v : Nat) : Prop := Dn sg pt v i k ∧ ∀ u, u < v → ¬ Dn sg pt u i k
/-- it may stand -/
def My (sg : Nat → Int32) (pt : Nat → Nat → Option Nat) (i k : Nat) : Prop := ∀ r, ¬ Dn sg pt r i k
/-- x tells the steps, or top -/
def Dok (top : Nat) (sg : Nat → Int32) (pt : Nat → Nat → Option Nat) (i k : Nat) (x : Int32) : Prop := (∃ v, v < 3600 ∧ Dv sg pt i k v ∧ x = nI v) ∨ (My sg pt i k ∧ x = nI top)
def StK (M : QM) (N : Nat) (sg : Nat → Int32) (pt : Nat → Nat → Option Nat) : Prop :=
  ∃ kn : Nat, kn ≤ N ∧ M.1 14 5 = nI kn ∧ Clo kn pt ∧ ∀ i k, i < kn → k < kn → Dok 1000000 sg pt i k (M.1 15 (60 * i + k))
def LaM (M : QM) (N : Nat) (sg : Nat → Int32) (pt : Nat → Nat → Option Nat) : Prop :=
  M.1 0 15 = 0 ∨ (M.1 0 15 = 1 ∧ ∀ i k, i < N → k < N → Dok 100000 sg pt i k (M.1 12 (60 * i + k)) ∧ ((My sg pt i k ∧ M.1 11 (60 * i + k) = 1) ∨ (¬ My sg pt i k ∧ M.1 11 (60 * i + k) = 0)))
def ReK (n : Nat) (M : QM) : Prop := ∃ r : Nat, r ≤ n ∧ M.1 14 4 = nI r ∧ ∀ i, i < 60 → ∃ q, q ≤ r ∧ M.1 17 i = nI q
