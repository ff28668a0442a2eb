/-! values: one machine for program and reference -/
theorem iter_2f {α β α' β' : Type} {B : α → Option (β ⊕ α)} {B' : α' → Option (β' ⊕ α')} (P : Nat → α → α' → Prop) (Q : β → β' → Prop) (m : Nat)
    (step : ∀ k a a', k < m → P k a a' → (∃ a2 a2', B a = some (.inr a2) ∧ B' a' = some (.inr a2') ∧ P (k + 1) a2 a2') ∨ (∃ b b', B a = some (.inl b) ∧ B' a' = some (.inl b') ∧ Q b b'))
    (fin : ∀ a a', P m a a' → ∃ b b', B a = some (.inl b) ∧ B' a' = some (.inl b') ∧ Q b b') : ∀ (j k n : Nat) (a : α) (a' : α'), k + j = m → j < n → P k a a' → ∃ b b', iter B n a = some b ∧ iter B' n a' = some b' ∧ Q b b' := by
  intro j
  induction j with
  | zero =>
    intro k n a a' hk hn hP
    obtain ⟨n', rfl⟩ : ∃ n', n = n' + 1 := ⟨n - 1, by omega⟩
    have hk : k = m := by omega
    subst hk
    obtain ⟨b, b', h1, h2, h3⟩ := fin a a' hP
    exact ⟨b, b', iter_d h1, iter_d h2, h3⟩
  | succ j ih =>
    intro k n a a' hk hn hP
    obtain ⟨n', rfl⟩ : ∃ n', n = n' + 1 := ⟨n - 1, by omega⟩
    rcases step k a a' (by omega) hP with ⟨a2, a2', h1, h2, h3⟩ | ⟨b, b', h1, h2, h3⟩
    · rw [iter_s h1, iter_s h2]
      exact ih (k + 1) n' a2 a2' (by omega) (by omega) h3
    · exact ⟨b, b', iter_d h1, iter_d h2, h3⟩
/-- two loops side by side -/
theorem iter_2 {α β α' β' : Type} {B : α → Option (β ⊕ α)} {B' : α' → Option (β' ⊕ α')} (P : Nat → α → α' → Prop) (Q : β → β' → Prop) (m : Nat) (hm : m < 10000000)
    (step : ∀ k a a', k < m → P k a a' → (∃ a2 a2', B a = some (.inr a2) ∧ B' a' = some (.inr a2') ∧ P (k + 1) a2 a2') ∨ (∃ b b', B a = some (.inl b) ∧ B' a' = some (.inl b') ∧ Q b b'))
    (fin : ∀ a a', P m a a' → ∃ b b', B a = some (.inl b) ∧ B' a' = some (.inl b') ∧ Q b b') (a : α) (a' : α') (h0 : P 0 a a') : ∃ b b', iter B FU a = some b ∧ iter B' FU a' = some b' ∧ Q b b' :=
  iter_2f P Q m step fin m 0 FU a a' (by omega) hm h0
theorem u_i_same (M : QM) (o k : Nat) : u_i M o k (M.1 o k) = M := by
  refine Prod.ext ?_ rfl
  funext a b
  show (if a = o ∧ b = k then M.1 o k else M.1 a b) = M.1 a b
  split
  · rename_i h; rw [h.1, h.2]
  · rfl
abbrev VE : Type := Int32 × Option Nat × Nat
def encW (x : Option Nat) : Int32 := match x with
  | none => -7
  | some i => nI i
theorem encW_none : encW none = -7 := rfl
theorem encW_some (i : Nat) : encW (some i) = nI i := rfl
theorem nI_neg7 {n : Nat} (h : n < 2 ^ 31) : ¬ nI n = -7 := by
  rw [i_eq, nI_toInt h]
  have : (-7 : Int32).toInt = -7 := by decide
  omega
/-- what is awaited, the node due, values, the first that doesn't fit, what is begun -/
abbrev VA : Type := Nat × Option Nat × Nat × Option Nat × List VE
abbrev VA.w (A : VA) : Nat := A.1
abbrev VA.D (A : VA) : Option Nat := A.2.1
abbrev VA.v (A : VA) : Nat := A.2.2.1
abbrev VA.mf (A : VA) : Option Nat := A.2.2.2.1
abbrev VA.stk (A : VA) : List VE := A.2.2.2.2
def vk (c : Nat) : Option Int32 := if 48 ≤ c ∧ c ≤ 57 then some 110 else if c = 84 ∨ c = 70 then some 116 else if c = 36 then some 115 else if c = 123 then some 123 else if c = 91 then some 91 else if c = 40 then some 42 else none
def wtop (l : List VE) : Nat := match l with
  | [] => 6
  | e :: _ => if e.1 = 123 then 2 else if e.1 = 91 then 4 else 1
def hdN (sg : Nat → Int32) (q : Int32) (D : Option Nat) : Option Nat := match D with
  | none => none
  | some i => if sg i = q then some i else none
def hdB (sg : Nat → Int32) (q : Int32) (D : Option Nat) : Bool := match D with
  | none => false
  | some i => decide (sg i ≠ 46 ∧ sg i ≠ q)
def nte (b : Bool) (mf : Option Nat) (k : Nat) : Option Nat := if b = true then (match mf with | none => some k | some j => some j) else mf
def dueOf (pt : Nat → Nat → Option Nat) (l : List VE) (s : Nat) : Option Nat := match l with
  | [] => none
  | e :: _ => match e.2.1 with
    | none => none
    | some i => pt i s
def mssB (pt : Nat → Nat → Option Nat) (e : VE) : Bool := match e.2.1 with
  | none => false
  | some i => (List.range 8).any (fun s => (pt i s).isSome && !(e.2.2.testBit s))
def vbegin (sg : Nat → Int32) (c k : Nat) (D : Option Nat) (A : VA) : Option VA := match vk c with
  | none => none
  | some q => some (if q = 110 ∨ q = 116 then wtop A.stk else if q = 115 then 5 else if q = 123 then 2 else if q = 91 then 3 else 1, D, A.v + 1, nte (hdB sg q D) A.mf k, if q = 110 ∨ q = 116 ∨ q = 115 then A.stk else (q, hdN sg q D, 0) :: A.stk)
def vclose (A : VA) : VA := (wtop A.stk.tail, A.D, A.v, A.mf, A.stk.tail)
def vfield (pt : Nat → Nat → Option Nat) (c k : Nat) (A : VA) : Option VA := match A.stk with
  | [] => none
  | e :: r => if c = 125 then some (wtop r, A.D, A.v, nte (mssB pt e) A.mf k, r)
    else if 97 ≤ c ∧ c < 105 ∧ e.2.2 < 2 ^ (c - 97) then some (0, dueOf pt (e :: r) (c - 97), A.v, A.mf, (e.1, e.2.1, e.2.2 ||| 2 ^ (c - 97)) :: r) else none
def topN (l : List VE) : Option Nat := match l with
  | [] => none
  | e :: _ => e.2.1
def vcase (pt : Nat → Nat → Option Nat) (c k : Nat) (A : VA) : Option VA :=
  if 97 ≤ c ∧ c < 105 then some (0, dueOf pt A.stk (c - 97), A.v, nte ((topN A.stk).isSome && (dueOf pt A.stk (c - 97)).isNone) A.mf (k - 1), A.stk) else none
def vstep (sg : Nat → Int32) (pt : Nat → Nat → Option Nat) (c k : Nat) (A : VA) : Option VA :=
  if A.w = 0 then vbegin sg c k A.D A
  else if A.w = 1 then (if c = 41 then some (vclose A) else vbegin sg c k (dueOf pt A.stk 0) A)
  else if A.w = 2 then vfield pt c k A
  else if A.w = 3 then vcase pt c k A
  else if A.w = 4 then (if c = 93 then some (vclose A) else none)
  else if A.w = 5 then (if 97 ≤ c ∧ c ≤ 122 then some (wtop A.stk, A.D, A.v, A.mf, A.stk) else none)
  else none
def SK (M : QM) (l : List VE) : Prop := match l with
  | [] => True
  | e :: r => M.1 25 r.length = e.1 ∧ M.1 26 r.length = encW e.2.1 ∧ M.1 27 r.length = nI e.2.2 ∧ SK M r
def AK (M : QM) (A : VA) : Prop := M.1 24 5 = nI A.stk.length ∧ M.1 24 6 = nI A.w ∧ M.1 24 7 = encW A.D ∧ M.1 24 8 = nI A.v ∧ M.1 24 9 = enc A.mf ∧ SK M A.stk
def okE (N : Nat) (sg : Nat → Int32) (e : VE) : Prop := (e.1 = 123 ∨ e.1 = 91 ∨ e.1 = 42) ∧ e.2.2 < 256 ∧ ∀ j, e.2.1 = some j → j < N ∧ sg j = e.1
def okT (l : List VE) (x : Int32) : Prop := match l with
  | [] => False
  | e :: _ => e.1 = x
def VI (N : Nat) (sg : Nat → Int32) (k : Nat) (A : VA) : Prop :=
  A.stk.length ≤ k ∧ A.v ≤ k ∧ A.w ≤ 6 ∧ (∀ j, A.D = some j → j < N) ∧ (∀ j, A.mf = some j → j < k) ∧ (∀ e, e ∈ A.stk → okE N sg e) ∧
  (A.w = 1 → okT A.stk 42) ∧ (A.w = 2 → okT A.stk 123) ∧ (A.w = 3 → okT A.stk 91 ∧ 0 < k) ∧ (A.w = 4 → okT A.stk 91)
theorem SK_congr {M M2 : QM} : ∀ (l : List VE), (∀ d, d < l.length → M2.1 25 d = M.1 25 d ∧ M2.1 26 d = M.1 26 d ∧ M2.1 27 d = M.1 27 d) → SK M l → SK M2 l := by
  intro l
  induction l with
  | nil => intro _ _; trivial
  | cons e r ih =>
    intro h ⟨h1, h2, h3, h4⟩
    obtain ⟨g1, g2, g3⟩ := h r.length (by simp)
    exact ⟨by rw [g1, h1], by rw [g2, h2], by rw [g3, h3], ih (fun d hd => h d (by simp; omega)) h4⟩
theorem wtop_wf {N : Nat} {sg : Nat → Int32} {l : List VE} (h : ∀ e, e ∈ l → okE N sg e) : wtop l ≤ 6 ∧ (wtop l = 1 → okT l 42) ∧ (wtop l = 2 → okT l 123) ∧ (wtop l = 3 → False) ∧ (wtop l = 4 → okT l 91) := by
  cases l with
  | nil => simp [wtop]
  | cons e r =>
    have := (h e (by simp)).1
    rcases this with h1 | h1 | h1 <;> simp [wtop, okT, h1]
theorem dueOf_lt {N : Nat} {sg : Nat → Int32} {pt : Nat → Nat → Option Nat} {nm : Nat → Option Nat} (hW : WF N sg pt nm) {l : List VE} (h : ∀ e, e ∈ l → okE N sg e) {s j : Nat} (hj : dueOf pt l s = some j) : j < N := by
  cases l with
  | nil => simp [dueOf] at hj
  | cons e r =>
    have := (h e (by simp)).2.2
    unfold dueOf at hj
    cases he : e.2.1 with
    | none => simp [he] at hj
    | some i =>
      simp only [he] at hj
      exact (hW.2.2.1 i s j (this i he).1 hj).1
theorem vk_in {c : Nat} {q : Int32} (h : vk c = some q) : q = 110 ∨ q = 116 ∨ q = 115 ∨ q = 123 ∨ q = 91 ∨ q = 42 := by
  unfold vk at h
  repeat' split at h
  all_goals first | (cases h; done) | (cases h; simp)
theorem nte_lt {b : Bool} {mf : Option Nat} {k k2 : Nat} (h : ∀ j, mf = some j → j < k2) (hk : k < k2) : ∀ j, nte b mf k = some j → j < k2 := by
  intro j hj
  unfold nte at hj
  split at hj
  · cases mf with
    | none => simp at hj; omega
    | some i => simp at hj; exact h j (by rw [hj])
  · exact h j hj
theorem nte_some {b : Bool} {mf : Option Nat} {k j : Nat} (h : mf = some j) : nte b mf k = some j := by
  subst h
  unfold nte
  split <;> rfl
theorem vbegin_VI {N : Nat} {sg : Nat → Int32} {pt : Nat → Nat → Option Nat} {nm : Nat → Option Nat} (hW : WF N sg pt nm) {c k : Nat} {D : Option Nat} {A A2 : VA} (hI : VI N sg k A) (hD : ∀ j, D = some j → j < N) (h : vbegin sg c k D A = some A2) : VI N sg (k + 1) A2 := by
  obtain ⟨w, D0, v, mf, stk⟩ := A
  obtain ⟨h1, h2, h3, h4, h5, h6, h7⟩ := hI
  dsimp only [VA.w, VA.D, VA.v, VA.mf, VA.stk] at *
  unfold vbegin at h
  cases hv : vk c with
  | none => simp [hv] at h
  | some q =>
    simp only [hv, Option.some.injEq] at h
    subst h
    have hw := wtop_wf h6
    have hm : ∀ j, nte (hdB sg q D) mf k = some j → j < k + 1 := nte_lt (fun j hj => by have := h5 j hj; omega) (by omega)
    have hh : ∀ j, hdN sg q D = some j → j < N ∧ sg j = q := by
      intro j hj
      unfold hdN at hj
      cases D with
      | none => simp at hj
      | some i =>
        simp only at hj
        split at hj
        · rename_i hs
          have hj := Option.some.inj hj
          subst hj
          exact ⟨hD _ rfl, hs⟩
        · cases hj
    rcases vk_in hv with rfl | rfl | rfl | rfl | rfl | rfl
    all_goals refine ⟨?_, by show v + 1 ≤ k + 1; omega, ?_, hD, hm, ?_, ?_, ?_, ?_, ?_⟩
    all_goals simp (decide := true) only [VA.w, VA.stk, or_false, or_true, or_self, if_true, if_false, List.length_cons, List.mem_cons]
    all_goals first | omega | exact hw.1 | exact h6 | exact hw.2.1 | exact hw.2.2.1 | exact (fun h => (hw.2.2.2.1 h).elim) | exact hw.2.2.2.2 | skip
    all_goals first | (intro h; exact absurd h (by decide)) | (intro _; rfl) | (intro _; exact ⟨rfl, by omega⟩) | skip
    all_goals (rintro e (rfl | he) <;> first | exact h6 e he | exact ⟨Or.inl rfl, (show (0 : Nat) < 256 by decide), hh⟩ | exact ⟨Or.inr (Or.inl rfl), (show (0 : Nat) < 256 by decide), hh⟩ | exact ⟨Or.inr (Or.inr rfl), (show (0 : Nat) < 256 by decide), hh⟩)
theorem vstep_VI {N : Nat} {sg : Nat → Int32} {pt : Nat → Nat → Option Nat} {nm : Nat → Option Nat} (hW : WF N sg pt nm) {c k : Nat} {A A2 : VA} (hI : VI N sg k A) (h : vstep sg pt c k A = some A2) : VI N sg (k + 1) A2 := by
  have hI' := hI
  obtain ⟨w, D0, v, mf, stk⟩ := A
  obtain ⟨h1, h2, h3, h4, h5, h6, h7, h8, h9, h10⟩ := hI
  dsimp only [VA.w, VA.D, VA.v, VA.mf, VA.stk] at *
  have ht : ∀ e, e ∈ stk.tail → okE N sg e := fun e he => h6 e (List.mem_of_mem_tail he)
  have hw := wtop_wf ht
  have hw0 := wtop_wf h6
  have hlt : stk.tail.length ≤ k := by rw [List.length_tail]; omega
  have hcl : VI N sg (k + 1) (vclose (w, D0, v, mf, stk)) :=
    ⟨by show stk.tail.length ≤ k + 1; omega, by show v ≤ k + 1; omega, hw.1, h4, fun j hj => by have := h5 j hj; omega, ht, hw.2.1, hw.2.2.1, fun h => (hw.2.2.2.1 h).elim, hw.2.2.2.2⟩
  unfold vstep at h
  split at h
  · exact vbegin_VI hW hI' h4 h
  split at h
  · split at h
    · cases h; exact hcl
    · exact vbegin_VI hW hI' (fun j hj => dueOf_lt hW h6 hj) h
  split at h
  · unfold vfield at h
    cases stk with
    | nil => simp at h
    | cons e r =>
      simp only at h
      have ht : ∀ e', e' ∈ r → okE N sg e' := ht
      have hw := wtop_wf ht
      split at h
      · cases h
        refine ⟨by simp only [List.length_cons] at h1; show r.length ≤ k + 1; omega, by show v ≤ k + 1; omega, hw.1, h4, nte_lt (fun j hj => by have := h5 j hj; omega) (by omega), ht, hw.2.1, hw.2.2.1, fun h => (hw.2.2.2.1 h).elim, hw.2.2.2.2⟩
      · split at h
        · rename_i hc
          cases h
          have hr : ∀ m : Nat, m < 256 → ∀ s : Nat, s < 8 → m ||| 2 ^ s < 256 := by decide +kernel
          have he := h6 e (by simp)
          refine ⟨by simp only [List.length_cons] at h1; show (_ :: r).length ≤ k + 1; simp only [List.length_cons]; omega, by show v ≤ k + 1; omega, (show (0 : Nat) ≤ 6 by decide), fun j hj => dueOf_lt hW h6 hj, fun j hj => by have := h5 j hj; omega, ?_, (fun h => absurd (show (0 : Nat) = 1 from h) (by decide)), (fun h => absurd (show (0 : Nat) = 2 from h) (by decide)), (fun h => absurd (show (0 : Nat) = 3 from h) (by decide)), (fun h => absurd (show (0 : Nat) = 4 from h) (by decide))⟩
          intro e' he'
          rcases List.mem_cons.mp he' with rfl | he'
          · exact ⟨he.1, hr _ he.2.1 _ (by omega), he.2.2⟩
          · exact ht e' he'
        · cases h
  split at h
  · unfold vcase at h
    split at h
    · cases h
      exact ⟨by show stk.length ≤ k + 1; omega, by show v ≤ k + 1; omega, (show (0 : Nat) ≤ 6 by decide), fun j hj => dueOf_lt hW h6 hj, nte_lt (fun j hj => by have := h5 j hj; omega) (by omega), h6, (fun h => absurd (show (0 : Nat) = 1 from h) (by decide)), (fun h => absurd (show (0 : Nat) = 2 from h) (by decide)), (fun h => absurd (show (0 : Nat) = 3 from h) (by decide)), (fun h => absurd (show (0 : Nat) = 4 from h) (by decide))⟩
    · cases h
  split at h
  · split at h
    · cases h; exact hcl
    · cases h
  split at h
  · split at h
    · cases h
      exact ⟨by show stk.length ≤ k + 1; omega, by show v ≤ k + 1; omega, hw0.1, h4, fun j hj => by have := h5 j hj; omega, h6, hw0.2.1, hw0.2.2.1, fun h => (hw0.2.2.2.1 h).elim, hw0.2.2.2.2⟩
    · cases h
  · cases h
theorem vbegin_keep {sg : Nat → Int32} {c k j : Nat} {D : Option Nat} {A A2 : VA} (h : vbegin sg c k D A = some A2) (hm : A.mf = some j) : A2.mf = some j := by
  unfold vbegin at h
  cases hv : vk c with
  | none => simp [hv] at h
  | some q =>
    simp only [hv, Option.some.injEq] at h
    subst h
    exact nte_some hm
theorem vstep_keep {sg : Nat → Int32} {pt : Nat → Nat → Option Nat} {c k j : Nat} {A A2 : VA} (h : vstep sg pt c k A = some A2) (hm : A.mf = some j) : A2.mf = some j := by
  unfold vstep at h
  split at h
  · exact vbegin_keep h hm
  split at h
  · split at h
    · cases h; exact hm
    · exact vbegin_keep h hm
  split at h
  · unfold vfield at h
    cases hs : A.stk with
    | nil => simp [hs] at h
    | cons e r =>
      simp only [hs] at h
      split at h
      · cases h; exact nte_some hm
      · split at h
        · cases h; exact hm
        · cases h
  split at h
  · unfold vcase at h
    split at h
    · cases h; exact nte_some hm
    · cases h
  split at h
  · split at h
    · cases h; exact hm
    · cases h
  split at h
  · split at h
    · cases h; exact hm
    · cases h
  · cases h
