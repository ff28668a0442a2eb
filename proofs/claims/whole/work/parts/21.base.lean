/-! numbers, loops, checks -/
theorem nI_mul (a b : Nat) : nI a * nI b = nI (a * b) := (Int32.ofNat_mul a b).symm
theorem nI_sub {a b : Nat} (h : b ≤ a) : nI a - nI b = nI (a - b) := by
  have h1 : nI a = nI (a - b) + nI b := by rw [nI_add]; congr 1; omega
  rw [h1, Int32.add_sub_cancel]
theorem ck_t {α : Type} {b : Bool} {x : Option α} (h : b = true) : ck b x = x := by rw [h]; rfl
theorem inb_nI {k n : Nat} (h : k < n) (hn : n < 2 ^ 31) : inb (nI k) n = true := by
  have h1 := nI_in h hn
  unfold inb
  exact decide_eq_true h1
theorem ck_in {α : Type} {k n : Nat} {x : Option α} (h : k < n) (hn : n < 2 ^ 31) : ck (inb (nI k) n) x = x := ck_t (inb_nI h hn)
theorem ix_nI {k : Nat} (h : k < 2 ^ 31) : (nI k).toNatClampNeg = k := nI_clamp h
theorem i_lt {a b : Int32} : a < b ↔ a.toInt < b.toInt := Int32.lt_iff_toInt_lt
theorem i_le {a b : Int32} : a ≤ b ↔ a.toInt ≤ b.toInt := Int32.le_iff_toInt_le
theorem i_eq {a b : Int32} : a = b ↔ a.toInt = b.toInt := Int32.toInt_inj.symm
theorem nI_neg6 {n : Nat} (h : n < 2 ^ 31) : ¬ nI n = -6 := by
  rw [i_eq, nI_toInt h]
  have : (-6 : Int32).toInt = -6 := by decide
  omega
/-- the code of an optional node or name -/
def enc (x : Option Nat) : Int32 := match x with
  | none => -6
  | some j => nI j
theorem enc_none : enc none = -6 := rfl
theorem enc_some (j : Nat) : enc (some j) = nI j := rfl
theorem enc_neg {x : Option Nat} (h : ∀ j, x = some j → j < 2 ^ 31) : enc x < 0 ↔ x = none := by
  cases x with
  | none => simp [enc]
  | some j => simp only [enc_some, reduceCtorEq, iff_false]; exact nI_pos (h j rfl)
theorem enc_none_iff {x : Option Nat} (h : ∀ j, x = some j → j < 2 ^ 31) : enc x = -6 ↔ x = none := by
  cases x with
  | none => simp [enc]
  | some j => simp only [enc_some, reduceCtorEq, iff_false]; exact nI_neg6 (h j rfl)
theorem u_i_o {M : QM} {o k : Nat} {v : Int32} {a : Nat} (h : a ≠ o) : (u_i M o k v).1 a = M.1 a := by funext b; simp [u_i, h]
theorem u_i_k {M : QM} {o k : Nat} {v : Int32} {b : Nat} (h : b ≠ k) : (u_i M o k v).1 o b = M.1 o b := by simp [u_i, h]
theorem u_i_e {M : QM} {o k : Nat} {v : Int32} : (u_i M o k v).1 o k = v := by simp [u_i]
theorem u_i_2 {M : QM} {o k : Nat} {v : Int32} : (u_i M o k v).2 = M.2 := rfl
theorem u_l_o {M : QM} {o k : Nat} {v : Int64} {a : Nat} (h : a ≠ o) : (u_l M o k v).2 a = M.2 a := by funext b; simp [u_l, h]
theorem u_l_k {M : QM} {o k : Nat} {v : Int64} {b : Nat} (h : b ≠ k) : (u_l M o k v).2 o b = M.2 o b := by simp [u_l, h]
theorem u_l_e {M : QM} {o k : Nat} {v : Int64} : (u_l M o k v).2 o k = v := by simp [u_l]
theorem u_l_1 {M : QM} {o k : Nat} {v : Int64} : (u_l M o k v).1 = M.1 := rfl
theorem iter_s {α β : Type} {B : α → Option (β ⊕ α)} {n : Nat} {a a2 : α} (h : B a = some (.inr a2)) : iter B (n + 1) a = iter B n a2 := by rw [iter, h]
theorem iter_d {α β : Type} {B : α → Option (β ⊕ α)} {n : Nat} {a : α} {b : β} (h : B a = some (.inl b)) : iter B (n + 1) a = some b := by rw [iter, h]
/-- a loop of m turns, that may end early -/
theorem iter_for {α β : Type} {B : α → Option (β ⊕ α)} (P : Nat → α → Prop) (Q : β → Prop) (m : Nat)
    (step : ∀ (k : Nat) (a : α), k < m → P k a → (∃ a2, B a = some (.inr a2) ∧ P (k + 1) a2) ∨ (∃ b, B a = some (.inl b) ∧ Q b))
    (fin : ∀ a, P m a → ∃ b, B a = some (.inl b) ∧ Q b) : ∀ (j k : Nat) (n : Nat) (a : α), k + j = m → j < n → P k a → ∃ b, iter B n a = some b ∧ Q b := by
  intro j
  induction j with
  | zero =>
    intro k n a hk hn hP
    obtain ⟨n', rfl⟩ : ∃ n', n = n' + 1 := ⟨n - 1, by omega⟩
    have hk : k = m := by omega
    subst hk
    obtain ⟨b, h1, h2⟩ := fin a hP
    exact ⟨b, iter_d h1, h2⟩
  | succ j ih =>
    intro k n a hk hn hP
    obtain ⟨n', rfl⟩ : ∃ n', n = n' + 1 := ⟨n - 1, by omega⟩
    rcases step k a (by omega) hP with ⟨a2, h1, h2⟩ | ⟨b, h1, h2⟩
    · rw [iter_s h1]
      exact ih (k + 1) n' a2 (by omega) (by omega) h2
    · exact ⟨b, iter_d h1, h2⟩
theorem iter_0 {α β : Type} {B : α → Option (β ⊕ α)} (P : Nat → α → Prop) (Q : β → Prop) (m : Nat) (hm : m < 10000000)
    (step : ∀ (k : Nat) (a : α), k < m → P k a → (∃ a2, B a = some (.inr a2) ∧ P (k + 1) a2) ∨ (∃ b, B a = some (.inl b) ∧ Q b))
    (fin : ∀ a, P m a → ∃ b, B a = some (.inl b) ∧ Q b) (a : α) (h0 : P 0 a) : ∃ b, iter B FU a = some b ∧ Q b :=
  iter_for P Q m step fin m 0 FU a (by omega) hm h0
/-- a loop with a measure -/
theorem iter_m {α β : Type} {B : α → Option (β ⊕ α)} (I : α → Prop) (Q : β → Prop) (μ : α → Nat)
    (step : ∀ a, I a → (∃ a2, B a = some (.inr a2) ∧ I a2 ∧ μ a2 < μ a) ∨ (∃ b, B a = some (.inl b) ∧ Q b)) : ∀ (n : Nat) (a : α), μ a < n → I a → ∃ b, iter B n a = some b ∧ Q b := by
  intro n
  induction n with
  | zero => intro a h; omega
  | succ n ih =>
    intro a h hI
    rcases step a hI with ⟨a2, h1, h2, h3⟩ | ⟨b, h1, h2⟩
    · rw [iter_s h1]; exact ih a2 (by omega) h2
    · exact ⟨b, iter_d h1, h2⟩
/-- an answer in 0, 1 -/
def b01 (p : Prop) [Decidable p] : Int32 := if p then 1 else 0
theorem b01_isb (p : Prop) [Decidable p] : isb (b01 p) = true := by unfold b01; split <;> rfl
theorem b01_0 (p : Prop) [Decidable p] : b01 p = 0 ↔ ¬ p := by unfold b01; split <;> simp_all
/-- an int is a number below N, or not -/
theorem nd_cases (x : Int32) (N : Nat) (hN : N < 2 ^ 31) : (∃ i, i < N ∧ x = nI i) ∨ ¬ (0 ≤ x.toInt ∧ x.toInt < N) := by
  by_cases h : 0 ≤ x.toInt ∧ x.toInt < N
  · refine Or.inl ⟨x.toInt.toNat, by omega, ?_⟩
    rw [i_eq, nI_toInt (by omega)]
    omega
  · exact Or.inr h
