/-! JOIN: what both make -/
abbrev Tq : Type := Nat × Nat × Nat
/-- the sign of a made node -/
def jsg (sg : Nat → Int32) (q : Tq) : Int32 := if sg q.1 = sg q.2.1 then sg q.1 else if q.2.2 = 0 then 46 else 33
/-- the two that are needed at a slot -/
def jtk (sg : Nat → Int32) (pt : Nat → Nat → Option Nat) (q : Tq) (s : Nat) : Option Tq :=
  if sg q.1 = sg q.2.1 then (match pt q.1 s, pt q.2.1 s with
    | some a, some b => some (a, b, if sg q.1 = 62 ∧ s = 0 then 1 - q.2.2 else q.2.2)
    | _, _ => none) else none
/-- what stays at a slot -/
def jkp (sg : Nat → Int32) (pt : Nat → Nat → Option Nat) (q : Tq) (s : Nat) : Option Nat :=
  if sg q.1 = sg q.2.1 ∧ (sg q.1 = 123 ∧ q.2.2 = 1 ∨ sg q.1 = 91 ∧ q.2.2 = 0) then (match pt q.1 s, pt q.2.1 s with
    | some a, none => some a
    | none, some b => some b
    | _, _ => none) else none
def jS (N : Nat) (sg : Nat → Int32) (f : Nat → Tq) (i : Nat) : Int32 := if i < N then sg i else jsg sg (f i)
/-- a part that is asked for, or one that stays -/
def jx (o : Option Tq) (v : Nat) (k : Option Nat) : Option Nat := match o with
  | some _ => some v
  | none => k
def jP (N : Nat) (sg : Nat → Int32) (pt : Nat → Nat → Option Nat) (f : Nat → Tq) (nx : Nat → Nat) (D : Nat → Nat → Nat) (i s : Nat) : Option Nat :=
  if i < N then pt i s else if s < nx i then jx (jtk sg pt (f i) s) (D i s) (jkp sg pt (f i) s) else none
def upg (f : Nat → Tq) (n : Nat) (q : Tq) : Nat → Tq := fun x => if x = n then q else f x
def upd2 (D : Nat → Nat → Nat) (n s v : Nat) : Nat → Nat → Nat := fun a b => if a = n ∧ b = s then v else D a b
/-- what it is without a new node -/
def jPl (sg : Nat → Int32) (pt : Nat → Nat → Option Nat) (q : Tq) (j : Nat) : Prop :=
  (My sg pt q.1 q.2.1 ∧ My sg pt q.2.1 q.1 ∧ j = q.1) ∨ (My sg pt q.1 q.2.1 ∧ ¬ My sg pt q.2.1 q.1 ∧ j = if q.2.2 = 0 then q.2.1 else q.1) ∨ (¬ My sg pt q.1 q.2.1 ∧ My sg pt q.2.1 q.1 ∧ j = if q.2.2 = 0 then q.1 else q.2.1)
/-- two of which none stands for the other -/
def Icp (N : Nat) (sg : Nat → Int32) (pt : Nat → Nat → Option Nat) (q : Tq) : Prop := q.1 < N ∧ q.2.1 < N ∧ q.2.2 < 2 ∧ ¬ My sg pt q.1 q.2.1 ∧ ¬ My sg pt q.2.1 q.1
def JI (N : Nat) (sg : Nat → Int32) (pt : Nat → Nat → Option Nat) (A : Nat) (f : Nat → Tq) (nx : Nat → Nat) (D : Nat → Nat → Nat) (K : List Nat) : Prop :=
  N ≤ A ∧ A ≤ 60 ∧ (∀ n, N ≤ n → n < A → Icp N sg pt (f n) ∧ nx n ≤ 8) ∧ (∀ n m, N ≤ n → n < A → N ≤ m → m < A → f n = f m → n = m) ∧
  (∀ n, n ∈ K → N ≤ n ∧ n < A) ∧ K.Pairwise (fun a b => b < a) ∧ K.length + N ≤ A ∧ (∀ n, N ≤ n → n < A → n ∉ K → nx n = 8) ∧
  (∀ n s q, N ≤ n → n < A → s < nx n → jtk sg pt (f n) s = some q → D n s < A)
def StkK (M : QM) : List Nat → Prop
  | [] => True
  | n :: K => M.1 23 K.length = nI n ∧ StkK M K
theorem StkK_eq {M M2 : QM} {K : List Nat} (h : StkK M K) (e : ∀ x, x < K.length → M2.1 23 x = M.1 23 x) : StkK M2 K := by
  induction K with
  | nil => trivial
  | cons n K ih => exact ⟨by rw [e K.length (by simp)]; exact h.1, ih h.2 (fun x hx => e x (by simp; omega))⟩
def JK (M0 M : QM) (N : Nat) (sg : Nat → Int32) (pt : Nat → Nat → Option Nat) (nm : Nat → Option Nat) (A : Nat) (f : Nat → Tq) (na nx : Nat → Nat) (D : Nat → Nat → Nat) (K : List Nat) : Prop :=
  NetK M A (jS N sg f) (jP N sg pt f nx D) nm ∧ Fr [3, 4, 5, 6, 18, 19, 20, 21, 22, 23] M0 M ∧ M.1 18 7 = nI K.length ∧ M.1 18 8 = nI N ∧ M.1 18 9 = 0 ∧
  (∀ n, N ≤ n → n < A → M.1 19 n = nI (f n).1 ∧ M.1 20 n = nI (f n).2.1 ∧ M.1 21 n = nI (f n).2.2 ∧ M.1 22 n = nI (na n)) ∧ StkK M K
section JN1
variable {M M0 : QM} {N : Nat} {sg sg2 : Nat → Int32} {pt pt2 : Nat → Nat → Option Nat} {nm : Nat → Option Nat}
theorem NetK_cg (h : NetK M N sg pt nm) (h1 : ∀ i, i < N → sg2 i = sg i) (h2 : ∀ i s, i < N → s < 8 → pt2 i s = pt i s) (h3 : ∀ i s j, i < N → pt2 i s = some j → s < 8) : NetK M N sg2 pt2 nm := by
  obtain ⟨a0, a1, a2, a3, a4, a5⟩ := h
  refine ⟨a0, a1, fun i hi => by rw [h1 i hi]; exact a2 i hi, fun i hi => ?_, fun i s j hi hp => ?_, a5⟩
  · obtain ⟨m, m1, m2, m3⟩ := a3 i hi
    exact ⟨m, m1, m2, fun s hs => by rw [h2 i s hi hs]; exact m3 s hs⟩
  · have hs := h3 i s j hi hp
    rw [h2 i s hi hs] at hp
    exact a4 i s j hi hp
theorem kn_add (h : NetK M N sg pt nm) (hN : N < 60) (x : Int32) : Ne_addNode x M = some (nI N, u_i (u_i (u_i M 4 N x) 5 N 0) 3 5 (nI (N + 1))) := by
  obtain ⟨a0, a1, -⟩ := h
  unfold Ne_addNode
  have b0 : ∀ (P : QM) (k : Nat) (v : Int32), (u_i P 4 k v).1 3 5 = P.1 3 5 := fun P k v => by rw [u_i_o (by decide)]
  have b1 : ∀ (P : QM) (k : Nat) (v : Int32), (u_i P 5 k v).1 3 5 = P.1 3 5 := fun P k v => by rw [u_i_o (by decide)]
  rw [u_i_e, b1, b0, a1, a0, if_neg (nI_pos (by omega)), if_pos (show nI N < 60 by rw [l_60, nI_ltI (by omega) (by omega)]; exact hN), ck_in hN (by omega), ck_in hN (by omega), ix_nI (by omega), nI_1, nI_pred1 (by omega), Nat.add_sub_cancel]
theorem kn_add_full (h : NetK M 60 sg pt nm) (x : Int32) : Ne_addNode x M = some (-6, M) := by
  obtain ⟨a0, a1, -⟩ := h
  unfold Ne_addNode
  rw [a1, a0, if_neg (nI_pos (by omega)), if_neg (show ¬ nI 60 < 60 by decide)]
theorem kn_add_net (h : NetK M N sg pt nm) (hN : N < 60) (x : Int32) (h1 : ∀ i, i < N → sg2 i = sg i) (h1b : sg2 N = x) (h2 : ∀ i s, i < N → s < 8 → pt2 i s = pt i s) (h2b : ∀ s, pt2 N s = none) (h3 : ∀ i s j, i < N → pt2 i s = some j → s < 8) :
    NetK (u_i (u_i (u_i M 4 N x) 5 N 0) 3 5 (nI (N + 1))) (N + 1) sg2 pt2 nm := by
  obtain ⟨a0, a1, a2, a3, a4, a5⟩ := h
  refine ⟨a0, u_i_e, fun i hi => ?_, fun i hi => ?_, fun i s j hi hp => ?_, fun k hk => ?_⟩
  · rw [u_i_o (by decide), u_i_o (by decide)]
    by_cases e : i = N
    · subst e; rw [u_i_e, h1b]
    · rw [u_i_k e, h1 i (by omega)]; exact a2 i (by omega)
  · rw [u_i_o (by decide)]
    by_cases e : i = N
    · subst e
      exact ⟨0, by omega, by rw [u_i_e]; rfl, fun s _ => by rw [h2b s]; simp⟩
    · obtain ⟨m, m1, m2, m3⟩ := a3 i (by omega)
      exact ⟨m, m1, by rw [u_i_k e, u_i_o (by decide)]; exact m2, fun s hs => by rw [h2 i s (by omega) hs]; exact m3 s hs⟩
  · by_cases e : i = N
    · subst e; rw [h2b s] at hp; cases hp
    · have hs := h3 i s j (by omega) hp
      rw [h2 i s (by omega) hs] at hp
      rw [u_i_o (by decide), u_i_o (by decide), u_i_o (by decide)]
      exact a4 i s j (by omega) hp
  · rw [u_i_o (by decide), u_i_o (by decide), u_i_o (by decide)]
    exact a5 k hk
theorem bit_or (m s : Nat) (hm : m < 256) (hs : s < 8) : ∃ m2 : Nat, m2 < 256 ∧ (nI m ||| ((1 : Int32) <<< (nI s &&& 31))) = nI m2 ∧ ∀ t, t < 8 → (m2.testBit t = true ↔ m.testBit t = true ∨ t = s) := by
  have h : ∀ m : Nat, m < 256 → ∀ s : Nat, s < 8 → (nI m ||| ((1 : Int32) <<< (nI s &&& 31))) = nI (m ||| (1 <<< s)) ∧ (m ||| (1 <<< s)) < 256 ∧ ∀ t, t < 8 → ((m ||| (1 <<< s)).testBit t = true ↔ m.testBit t = true ∨ t = s) := by decide +kernel
  obtain ⟨h1, h2, h3⟩ := h m hm s hs
  exact ⟨_, h2, h1, h3⟩
theorem kn_set (h : NetK M N sg pt nm) (hN : N ≤ 60) {i s j : Nat} (hi : i < N) (hs : s < 8) (h2 : ∀ a b, a < N → b < 8 → pt2 a b = if a = i ∧ b = s then some j else pt a b) (h3 : ∀ a b c, a < N → pt2 a b = some c → b < 8) :
    ∃ M2, Ne_setPart (nI i) (nI s) (nI j) M = some M2 ∧ NetK M2 N sg pt2 nm ∧ Fr [5, 6] M M2 := by
  obtain ⟨a0, a1, a2, a3, a4, a5⟩ := h
  obtain ⟨m, m1, m2, m3⟩ := a3 i hi
  obtain ⟨w, w1, w2, w3⟩ := bit_or m s m1 hs
  refine ⟨u_i (u_i M 5 i (nI w)) 6 (8 * i + s) (nI j), ?_, ⟨a0, a1, fun k hk => ?_, fun k hk => ?_, fun k t c hk hp => ?_, fun k hk => ?_⟩, Fr.i 6 (Fr.i 5 Fr.rf (by decide)) (by decide)⟩
  · unfold Ne_setPart
    rw [a1, a0, if_neg (nI_pos (by omega)), if_neg (show ¬ nI N ≤ nI i by rw [nI_leI (by omega) (by omega)]; omega), if_neg (show ¬ (60 : Int32) ≤ nI i by rw [l_60, nI_leI (by omega) (by omega)]; omega), if_neg (nI_pos (by omega)), if_neg (show ¬ (8 : Int32) ≤ nI s by rw [l_8, nI_leI (by omega) (by omega)]; omega), l_8, nI_mul, nI_add, ck_in (by omega) (by omega), ck_in (by omega) (by omega), ck_in (by omega) (by omega), ix_nI (by omega), ix_nI (by omega), m2, w2, Nat.mul_comm i 8]
  · rw [u_i_o (by decide), u_i_o (by decide)]; exact a2 k hk
  · rw [u_i_o (by decide)]
    by_cases e : k = i
    · subst e
      refine ⟨w, w1, u_i_e, fun t ht => ?_⟩
      rw [h2 k t hk ht]
      have := w3 t ht
      by_cases c : t = s
      · subst c
        rw [if_pos ⟨rfl, rfl⟩]
        exact this.mpr (Or.inr rfl)
      · rw [if_neg (fun z => c z.2), ← m3 t ht]
        rw [Bool.eq_iff_iff, this]
        exact ⟨fun z => z.elim id (fun z => absurd z c), Or.inl⟩
    · obtain ⟨u, u1, u2, u3⟩ := a3 k hk
      refine ⟨u, u1, by rw [u_i_k e]; exact u2, fun t ht => ?_⟩
      rw [h2 k t hk ht, if_neg (fun z => e z.1)]
      exact u3 t ht
  · have ht := h3 k t c hk hp
    rw [h2 k t hk ht] at hp
    by_cases e : k = i ∧ t = s
    · rw [if_pos e] at hp
      cases hp
      rw [e.1, e.2, u_i_e]
    · rw [if_neg e] at hp
      rw [u_i_k (by omega), u_i_o (by decide)]
      exact a4 k t c hk hp
  · rw [u_i_o (by decide), u_i_o (by decide)]; exact a5 k hk
end JN1
