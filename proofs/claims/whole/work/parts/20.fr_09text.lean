set_option maxRecDepth 20000 in
theorem F_Te_copyInto_B33 {x2 : Int32} {x3 : Int32} {v : Int32 × QM} {res : (QM) ⊕ (Int32 × QM)} (h : Te_copyInto_B33 x2 x3 v = some res) : Fr [3, 4, 5, 6, 7] v.2 ((Sum.elim (fun z => z) (fun z => z.2)) res) := by
  unfold Te_copyInto_B33 at h
  by_cases hb : (8 : Int32) ≤ v.1
  · have h := ite_t hb h
    cases h
    exact Fr.rf
  · have h := ite_f hb h
    obtain ⟨q5, hq5, h⟩ := bd_some h
    by_cases hb : q5 = (-6 : Int32)
    · have h := ite_t hb h
      cases h
      exact Fr.rf
    · have h := ite_f hb h
      obtain ⟨q6, hq6, h⟩ := bd_some h
      obtain ⟨q7, hq7, h⟩ := bd_some h
      have fq7 := Fr.tr (T := [3, 4, 5, 6, 7]) Fr.rf (Fr.sub (F_Ne_setPart hq7) (by decide))
      cases h
      exact fq7

theorem F_Te_copyInto_B33_L {x2 : Int32} {x3 : Int32}  {v : Int32 × QM} {k : Nat} {e : QM} (h : iter (Te_copyInto_B33 x2 x3) k v = some e) : Fr [3, 4, 5, 6, 7] ((fun v => v.2) v) ((fun z => z) e) :=
  iter_Fr (Ga := (fun v => v.2)) (Gb := (fun z => z)) (fun a res hB => F_Te_copyInto_B33 hB) k v e h

set_option maxRecDepth 20000 in
theorem F_Te_copyInto_B6 {v : Int32 × QM} {res : (QM) ⊕ (Int32 × QM)} (h : Te_copyInto_B6 v = some res) : Fr [3, 4, 5, 6, 7] v.2 ((Sum.elim (fun z => z) (fun z => z.2)) res) := by
  unfold Te_copyInto_B6 at h
  obtain ⟨q2, hq2, h⟩ := bd_some h
  by_cases hb : q2 ≤ v.1
  · have h := ite_t hb h
    cases h
    exact Fr.rf
  · have h := ite_f hb h
    obtain ⟨q3, hq3, h⟩ := bd_some h
    obtain ⟨q4, hq4, h⟩ := bd_some h
    have fq4 := Fr.tr (T := [3, 4, 5, 6, 7]) Fr.rf (Fr.sub (F_Ne_addNode hq4) (by decide))
    obtain ⟨e8, he8, h⟩ := bd_some h
    have fe8 := F_Te_copyInto_B33_L he8
    have fe8 := Fr.tr (T := [3, 4, 5, 6, 7]) fq4 fe8
    cases h
    exact fe8

theorem F_Te_copyInto_B6_L  {v : Int32 × QM} {k : Nat} {e : QM} (h : iter (Te_copyInto_B6) k v = some e) : Fr [3, 4, 5, 6, 7] ((fun v => v.2) v) ((fun z => z) e) :=
  iter_Fr (Ga := (fun v => v.2)) (Gb := (fun z => z)) (fun a res hB => F_Te_copyInto_B6 hB) k v e h

set_option maxRecDepth 20000 in
theorem F_Te_copyInto_B86 {v : Int32 × QM} {res : (QM) ⊕ (Int32 × QM)} (h : Te_copyInto_B86 v = some res) : Fr [3, 4, 5, 6, 7] v.2 ((Sum.elim (fun z => z) (fun z => z.2)) res) := by
  unfold Te_copyInto_B86 at h
  by_cases hb : (8 : Int32) ≤ v.1
  · have h := ite_t hb h
    cases h
    exact Fr.rf
  · have h := ite_f hb h
    obtain ⟨q10, hq10, h⟩ := bd_some h
    obtain ⟨q11, hq11, h⟩ := bd_some h
    obtain ⟨q12, hq12, h⟩ := bd_some h
    have fq12 := Fr.tr (T := [3, 4, 5, 6, 7]) Fr.rf (Fr.sub (F_Ne_setName hq12) (by decide))
    cases h
    exact fq12

theorem F_Te_copyInto_B86_L  {v : Int32 × QM} {k : Nat} {e : QM} (h : iter (Te_copyInto_B86) k v = some e) : Fr [3, 4, 5, 6, 7] ((fun v => v.2) v) ((fun z => z) e) :=
  iter_Fr (Ga := (fun v => v.2)) (Gb := (fun z => z)) (fun a res hB => F_Te_copyInto_B86 hB) k v e h

set_option maxRecDepth 20000 in
theorem F_Te_copyInto {M : QM} {res : QM} (h : Te_copyInto M = some res) : Fr [3, 4, 5, 6, 7] M ((fun z => z) res) := by
  unfold Te_copyInto at h
  obtain ⟨q1, hq1, h⟩ := bd_some h
  have fq1 := Fr.tr (T := [3, 4, 5, 6, 7]) Fr.rf (Fr.sub (F_Ne_clear hq1) (by decide))
  obtain ⟨e9, he9, h⟩ := bd_some h
  have fe9 := F_Te_copyInto_B6_L he9
  have fe9 := Fr.tr (T := [3, 4, 5, 6, 7]) fq1 fe9
  obtain ⟨e13, he13, h⟩ := bd_some h
  have fe13 := F_Te_copyInto_B86_L he13
  have fe13 := Fr.tr (T := [3, 4, 5, 6, 7]) fe9 fe13
  cases h
  exact fe13

set_option maxRecDepth 20000 in
theorem F_Te_readPart (rk : Int32 → QM → Option (Int32 × QM)) (hrk : ∀ (a : Int32) (M : QM) (res : Int32 × QM), rk a M = some res → Fr [8, 9, 10, 11, 12] M res.2) {p1 : Int32} {p2 : Int32} {p3 : Int32} {M : QM} {res : QM} (h : Te_readPart rk p1 p2 p3 M = some res) : Fr [8, 9, 10, 11, 12] M ((fun z => z) res) := by
  unfold Te_readPart at h
  by_cases hb : (M.1 8 3) = 0
  · have h := ite_t hb h
    obtain ⟨q1, hq1, h⟩ := bd_some h
    have fq1 := Fr.tr (T := [8, 9, 10, 11, 12]) Fr.rf (Fr.sub (hrk _ _ _ hq1) (by decide))
    obtain ⟨q2, hq2, h⟩ := bd_some h
    have fq2 := Fr.tr (T := [8, 9, 10, 11, 12]) fq1 (Fr.sub (F_Dr_setPart hq2) (by decide))
    cases h
    exact fq2
  · have h := ite_f hb h
    cases h
    exact Fr.rf

set_option maxRecDepth 20000 in
theorem F_Te_readLetters_L6_J77 (rk : Int32 → QM → Option (Int32 × QM)) (hrk : ∀ (a : Int32) (M : QM) (res : Int32 × QM), rk a M = some res → Fr [8, 9, 10, 11, 12] M res.2) {M : QM} {res : ((QM) ⊕ (QM)) ⊕ (Int32 × Int32 × QM)} (h : Te_readLetters_L6_J77 rk M = some res) : Fr [8, 9, 10, 11, 12] M ((Sum.elim (Sum.elim (fun z => z) (fun z => z)) (fun z => z.2.2)) res) := by
  unfold Te_readLetters_L6_J77 at h
  cases h
  exact (Fr.i 8 Fr.rf (by decide))

set_option maxRecDepth 20000 in
theorem F_Te_readLetters_B6 (rk : Int32 → QM → Option (Int32 × QM)) (hrk : ∀ (a : Int32) (M : QM) (res : Int32 × QM), rk a M = some res → Fr [8, 9, 10, 11, 12] M res.2) {x1 : Int32} {x2 : Int32} {x3 : Int32} {v : Int32 × Int32 × QM} {res : ((QM) ⊕ (QM)) ⊕ (Int32 × Int32 × QM)} (h : Te_readLetters_B6 rk x1 x2 x3 v = some res) : Fr [8, 9, 10, 11, 12] v.2.2 ((Sum.elim (Sum.elim (fun z => z) (fun z => z)) (fun z => z.2.2)) res) := by
  unfold Te_readLetters_B6 at h
  by_cases hb : (8 : Int32) < v.2.1
  · have h := ite_t hb h
    cases h
    exact Fr.rf
  · have h := ite_f hb h
    by_cases hb : (v.2.2.1 8 3) = 0
    · have h := ite_t hb h
      obtain ⟨q1, hq1, h⟩ := bd_some h
      by_cases hb : q1 = x2
      · have h := ite_t hb h
        cases h
        exact (Fr.i 8 Fr.rf (by decide))
      · have h := ite_f hb h
        by_cases hb : (q1 - (97 : Int32)) < v.1
        · have h := ite_t hb h
          exact Fr.tr (T := [8, 9, 10, 11, 12]) Fr.rf (F_Te_readLetters_L6_J77 rk hrk h)
        · have h := ite_f hb h
          by_cases hb : (8 : Int32) ≤ (q1 - (97 : Int32))
          · have h := ite_t hb h
            exact Fr.tr (T := [8, 9, 10, 11, 12]) Fr.rf (F_Te_readLetters_L6_J77 rk hrk h)
          · have h := ite_f hb h
            by_cases hb : x3 < (12 : Int32)
            · have h := ite_t hb h
              obtain ⟨q2, hq2, h⟩ := bd_some h
              have fq2 := Fr.tr (T := [8, 9, 10, 11, 12]) (Fr.i 8 Fr.rf (by decide)) (Fr.sub (F_Te_readPart rk hrk hq2) (by decide))
              cases h
              exact fq2
            · have h := ite_f hb h
              exact Fr.tr (T := [8, 9, 10, 11, 12]) Fr.rf (F_Te_readLetters_L6_J77 rk hrk h)
    · have h := ite_f hb h
      cases h
      exact Fr.rf

theorem F_Te_readLetters_B6_L (rk : Int32 → QM → Option (Int32 × QM)) (hrk : ∀ (a : Int32) (M : QM) (res : Int32 × QM), rk a M = some res → Fr [8, 9, 10, 11, 12] M res.2) {x1 : Int32} {x2 : Int32} {x3 : Int32}  {v : Int32 × Int32 × QM} {k : Nat} {e : (QM) ⊕ (QM)} (h : iter (Te_readLetters_B6 rk x1 x2 x3) k v = some e) : Fr [8, 9, 10, 11, 12] ((fun v => v.2.2) v) ((Sum.elim (fun z => z) (fun z => z)) e) :=
  iter_Fr (Ga := (fun v => v.2.2)) (Gb := (Sum.elim (fun z => z) (fun z => z))) (fun a res hB => F_Te_readLetters_B6 rk hrk hB) k v e h

set_option maxRecDepth 20000 in
theorem F_Te_readLetters (rk : Int32 → QM → Option (Int32 × QM)) (hrk : ∀ (a : Int32) (M : QM) (res : Int32 × QM), rk a M = some res → Fr [8, 9, 10, 11, 12] M res.2) {p1 : Int32} {p2 : Int32} {p3 : Int32} {M : QM} {res : QM} (h : Te_readLetters rk p1 p2 p3 M = some res) : Fr [8, 9, 10, 11, 12] M ((fun z => z) res) := by
  unfold Te_readLetters at h
  obtain ⟨e3, he3, h⟩ := bd_some h
  have fe3 := F_Te_readLetters_B6_L rk hrk he3
  have fe3 := Fr.tr (T := [8, 9, 10, 11, 12]) Fr.rf fe3
  cases e3 with
  | inl r3 =>
    have h := sum_l h
    cases h
    exact fe3
  | inr y3 =>
    have h := sum_r h
    cases h
    exact fe3

set_option maxRecDepth 20000 in
theorem F_Te_readKind_J77 (rk : Int32 → QM → Option (Int32 × QM)) (hrk : ∀ (a : Int32) (M : QM) (res : Int32 × QM), rk a M = some res → Fr [8, 9, 10, 11, 12] M res.2) {M : QM} {res : Int32 × QM} (h : Te_readKind_J77 rk M = some res) : Fr [8, 9, 10, 11, 12] M ((fun z => z.2) res) := by
  unfold Te_readKind_J77 at h
  cases h
  exact (Fr.i 8 Fr.rf (by decide))

set_option maxRecDepth 20000 in
theorem F_Te_readKind_J131 (rk : Int32 → QM → Option (Int32 × QM)) (hrk : ∀ (a : Int32) (M : QM) (res : Int32 × QM), rk a M = some res → Fr [8, 9, 10, 11, 12] M res.2) {x1 : Int32} {x3 : Int32} {s0 : Int32} {s1 : Int32} {M : QM} {res : Int32 × QM} (h : Te_readKind_J131 rk x1 x3 s0 s1 M = some res) : Fr [8, 9, 10, 11, 12] M ((fun z => z.2) res) := by
  unfold Te_readKind_J131 at h
  obtain ⟨q4, hq4, h⟩ := bd_some h
  have fq4 := Fr.tr (T := [8, 9, 10, 11, 12]) Fr.rf (Fr.sub (F_Te_readLetters rk hrk hq4) (by decide))
  cases h
  exact fq4

set_option maxRecDepth 20000 in
theorem F_Te_readKind_J116 (rk : Int32 → QM → Option (Int32 × QM)) (hrk : ∀ (a : Int32) (M : QM) (res : Int32 × QM), rk a M = some res → Fr [8, 9, 10, 11, 12] M res.2) {x1 : Int32} {x2 : Int32} {x3 : Int32} {M : QM} {res : Int32 × QM} (h : Te_readKind_J116 rk x1 x2 x3 M = some res) : Fr [8, 9, 10, 11, 12] M ((fun z => z.2) res) := by
  unfold Te_readKind_J116 at h
  by_cases hb : x2 = (123 : Int32)
  · have h := ite_t hb h
    exact Fr.tr (T := [8, 9, 10, 11, 12]) Fr.rf (F_Te_readKind_J131 rk hrk h)
  · have h := ite_f hb h
    exact Fr.tr (T := [8, 9, 10, 11, 12]) Fr.rf (F_Te_readKind_J131 rk hrk h)

set_option maxRecDepth 20000 in
theorem F_Te_readKind_J85 (rk : Int32 → QM → Option (Int32 × QM)) (hrk : ∀ (a : Int32) (M : QM) (res : Int32 × QM), rk a M = some res → Fr [8, 9, 10, 11, 12] M res.2) {x1 : Int32} {x2 : Int32} {M : QM} {res : Int32 × QM} (h : Te_readKind_J85 rk x1 x2 M = some res) : Fr [8, 9, 10, 11, 12] M ((fun z => z.2) res) := by
  unfold Te_readKind_J85 at h
  obtain ⟨q3, hq3, h⟩ := bd_some h
  have fq3 := Fr.tr (T := [8, 9, 10, 11, 12]) (Fr.i 8 Fr.rf (by decide)) (Fr.sub (F_Dr_addNode hq3) (by decide))
  by_cases hb : x2 = (123 : Int32)
  · have h := ite_t hb h
    exact Fr.tr (T := [8, 9, 10, 11, 12]) fq3 (F_Te_readKind_J116 rk hrk h)
  · have h := ite_f hb h
    by_cases hb : x2 = (91 : Int32)
    · have h := ite_t hb h
      exact Fr.tr (T := [8, 9, 10, 11, 12]) fq3 (F_Te_readKind_J116 rk hrk h)
    · have h := ite_f hb h
      obtain ⟨q5, hq5, h⟩ := bd_some h
      by_cases hb : q5 = 0
      · have h := ite_t hb h
        cases h
        exact fq3
      · have h := ite_f hb h
        obtain ⟨q6, hq6, h⟩ := bd_some h
        have fq6 := Fr.tr (T := [8, 9, 10, 11, 12]) fq3 (Fr.sub (F_Te_readPart rk hrk hq6) (by decide))
        by_cases hb : x2 = (62 : Int32)
        · have h := ite_t hb h
          obtain ⟨q7, hq7, h⟩ := bd_some h
          have fq7 := Fr.tr (T := [8, 9, 10, 11, 12]) fq6 (Fr.sub (F_Te_readPart rk hrk hq7) (by decide))
          cases h
          exact fq7
        · have h := ite_f hb h
          cases h
          exact fq6

set_option maxRecDepth 20000 in
theorem F_Te_readKind_J57 (rk : Int32 → QM → Option (Int32 × QM)) (hrk : ∀ (a : Int32) (M : QM) (res : Int32 × QM), rk a M = some res → Fr [8, 9, 10, 11, 12] M res.2) {x1 : Int32} {x2 : Int32} {M : QM} {res : Int32 × QM} (h : Te_readKind_J57 rk x1 x2 M = some res) : Fr [8, 9, 10, 11, 12] M ((fun z => z.2) res) := by
  unfold Te_readKind_J57 at h
  obtain ⟨q2, hq2, h⟩ := bd_some h
  by_cases hb : q2 = 0
  · have h := ite_t hb h
    exact Fr.tr (T := [8, 9, 10, 11, 12]) Fr.rf (F_Te_readKind_J77 rk hrk h)
  · have h := ite_f hb h
    by_cases hb : x1 = (12 : Int32)
    · have h := ite_t hb h
      obtain ⟨q8, hq8, h⟩ := bd_some h
      by_cases hb : q8 = 0
      · have h := ite_t hb h
        exact Fr.tr (T := [8, 9, 10, 11, 12]) Fr.rf (F_Te_readKind_J85 rk hrk h)
      · have h := ite_f hb h
        exact Fr.tr (T := [8, 9, 10, 11, 12]) Fr.rf (F_Te_readKind_J77 rk hrk h)
    · have h := ite_f hb h
      exact Fr.tr (T := [8, 9, 10, 11, 12]) Fr.rf (F_Te_readKind_J85 rk hrk h)

set_option maxRecDepth 20000 in
theorem F_Te_readKind (rk : Int32 → QM → Option (Int32 × QM)) (hrk : ∀ (a : Int32) (M : QM) (res : Int32 × QM), rk a M = some res → Fr [8, 9, 10, 11, 12] M res.2) {p1 : Int32} {M : QM} {res : Int32 × QM} (h : Te_readKind rk p1 M = some res) : Fr [8, 9, 10, 11, 12] M ((fun z => z.2) res) := by
  unfold Te_readKind at h
  obtain ⟨q1, hq1, h⟩ := bd_some h
  by_cases hb : p1 ≤ (12 : Int32)
  · have h := ite_t hb h
    by_cases hb : q1 < (65 : Int32)
    · have h := ite_t hb h
      exact Fr.tr (T := [8, 9, 10, 11, 12]) Fr.rf (F_Te_readKind_J57 rk hrk h)
    · have h := ite_f hb h
      by_cases hb : (73 : Int32) ≤ q1
      · have h := ite_t hb h
        exact Fr.tr (T := [8, 9, 10, 11, 12]) Fr.rf (F_Te_readKind_J57 rk hrk h)
      · have h := ite_f hb h
        cases h
        exact (Fr.i 8 Fr.rf (by decide))
  · have h := ite_f hb h
    cases h
    exact (Fr.i 8 Fr.rf (by decide))

theorem F_Te_readKind_r : ∀ (n : Nat) (a : Int32) (M : QM) (res : Int32 × QM), Te_readKind_r n a M = some res → Fr [8, 9, 10, 11, 12] M res.2 := by
  intro n
  induction n with
  | zero => intro a M res h; cases h
  | succ n ih =>
    intro a M res h
    have h2 : Te_readKind (Te_readKind_r n) a M = some res := h
    exact F_Te_readKind (Te_readKind_r n) ih h2

set_option maxRecDepth 20000 in
theorem F_Te_readNaming_J38 {M : QM} {res : QM} (h : Te_readNaming_J38 M = some res) : Fr [8, 9, 10, 11, 12, 13] M ((fun z => z) res) := by
  unfold Te_readNaming_J38 at h
  cases h
  exact (Fr.i 8 Fr.rf (by decide))

set_option maxRecDepth 20000 in
theorem F_Te_readNaming {M : QM} {res : QM} (h : Te_readNaming M = some res) : Fr [8, 9, 10, 11, 12, 13] M ((fun z => z) res) := by
  unfold Te_readNaming at h
  obtain ⟨q1, hq1, h⟩ := bd_some h
  by_cases hb : (q1 - (65 : Int32)) < 0
  · have h := ite_t hb h
    exact Fr.tr (T := [8, 9, 10, 11, 12, 13]) Fr.rf (F_Te_readNaming_J38 h)
  · have h := ite_f hb h
    by_cases hb : (8 : Int32) ≤ (q1 - (65 : Int32))
    · have h := ite_t hb h
      exact Fr.tr (T := [8, 9, 10, 11, 12, 13]) Fr.rf (F_Te_readNaming_J38 h)
    · have h := ite_f hb h
      obtain ⟨q2, hq2, h⟩ := bd_some h
      by_cases hb : q2 = (-6 : Int32)
      · have h := ite_t hb h
        obtain ⟨q3, hq3, h⟩ := bd_some h
        by_cases hb : q3 = (61 : Int32)
        · have h := ite_t hb h
          obtain ⟨q4, hq4, h⟩ := bd_some h
          have fq4 := Fr.tr (T := [8, 9, 10, 11, 12, 13]) (Fr.i 8 (Fr.i 8 Fr.rf (by decide)) (by decide)) (Fr.sub (F_Te_readKind_r _ _ _ _ hq4) (by decide))
          obtain ⟨q5, hq5, h⟩ := bd_some h
          have fq5 := Fr.tr (T := [8, 9, 10, 11, 12, 13]) fq4 (Fr.sub (F_Dr_setName hq5) (by decide))
          cases h
          exact fq5
        · have h := ite_f hb h
          cases h
          exact (Fr.i 8 (Fr.i 8 Fr.rf (by decide)) (by decide))
      · have h := ite_f hb h
        exact Fr.tr (T := [8, 9, 10, 11, 12, 13]) Fr.rf (F_Te_readNaming_J38 h)

set_option maxRecDepth 20000 in
theorem F_Te_read_B19 {v : Int32 × QM} {res : ((Int32 × QM) ⊕ (QM)) ⊕ (Int32 × QM)} (h : Te_read_B19 v = some res) : Fr [8, 9, 10, 11, 12, 13] v.2 ((Sum.elim (Sum.elim (fun z => z.2) (fun z => z)) (fun z => z.2)) res) := by
  unfold Te_read_B19 at h
  by_cases hb : (8 : Int32) < v.1
  · have h := ite_t hb h
    cases h
    exact Fr.rf
  · have h := ite_f hb h
    obtain ⟨q2, hq2, h⟩ := bd_some h
    have fq2 := Fr.tr (T := [8, 9, 10, 11, 12, 13]) Fr.rf (Fr.sub (F_Te_readNaming hq2) (by decide))
    by_cases hb : (q2.1 8 3) = 0
    · have h := ite_t hb h
      obtain ⟨q3, hq3, h⟩ := bd_some h
      by_cases hb : (q2.1 8 2) < q3
      · have h := ite_t hb h
        obtain ⟨q4, hq4, h⟩ := bd_some h
        by_cases hb : q4 = (59 : Int32)
        · have h := ite_t hb h
          cases h
          exact (Fr.i 8 fq2 (by decide))
        · have h := ite_f hb h
          cases h
          exact fq2
      · have h := ite_f hb h
        cases h
        exact fq2
    · have h := ite_f hb h
      cases h
      exact fq2

theorem F_Te_read_B19_L  {v : Int32 × QM} {k : Nat} {e : (Int32 × QM) ⊕ (QM)} (h : iter (Te_read_B19) k v = some e) : Fr [8, 9, 10, 11, 12, 13] ((fun v => v.2) v) ((Sum.elim (fun z => z.2) (fun z => z)) e) :=
  iter_Fr (Ga := (fun v => v.2)) (Gb := (Sum.elim (fun z => z.2) (fun z => z))) (fun a res hB => F_Te_read_B19 hB) k v e h

set_option maxRecDepth 20000 in
theorem F_Te_read {M : QM} {res : Int32 × QM} (h : Te_read M = some res) : Fr [8, 9, 10, 11, 12, 13] M ((fun z => z.2) res) := by
  unfold Te_read at h
  obtain ⟨q1, hq1, h⟩ := bd_some h
  have fq1 := Fr.tr (T := [8, 9, 10, 11, 12, 13]) Fr.rf (Fr.sub (F_Dr_clear hq1) (by decide))
  obtain ⟨e5, he5, h⟩ := bd_some h
  have fe5 := F_Te_read_B19_L he5
  have fe5 := Fr.tr (T := [8, 9, 10, 11, 12, 13]) (Fr.i 8 (Fr.i 8 fq1 (by decide)) (by decide)) fe5
  cases e5 with
  | inl r5 =>
    have h := sum_l h
    cases h
    exact fe5
  | inr y5 =>
    have h := sum_r h
    cases h
    exact fe5

