set_option maxRecDepth 20000 in
theorem F_Co_addLetter_B7 {x1 : Int32} {v : Int32 × QM} {res : (QM) ⊕ (Int32 × QM)} (h : Co_addLetter_B7 x1 v = some res) : Fr [30] v.2 ((Sum.elim (fun z => z) (fun z => z.2)) res) := by
  unfold Co_addLetter_B7 at h
  by_cases hb : v.1 < 0
  · have h := ite_t hb h
    cases h
    exact Fr.rf
  · have h := ite_f hb h
    obtain ⟨e3, he3, h⟩ := bd_some h
    have h := (ck_some h).2
    cases h
    exact (Fr.l 30 Fr.rf (by decide))

theorem F_Co_addLetter_B7_L {x1 : Int32}  {v : Int32 × QM} {k : Nat} {e : QM} (h : iter (Co_addLetter_B7 x1) k v = some e) : Fr [30] ((fun v => v.2) v) ((fun z => z) e) :=
  iter_Fr (Ga := (fun v => v.2)) (Gb := (fun z => z)) (fun a res hB => F_Co_addLetter_B7 hB) k v e h

set_option maxRecDepth 20000 in
theorem F_Co_addLetter {p1 : Int32} {p2 : Int32} {M : QM} {res : QM} (h : Co_addLetter p1 p2 M = some res) : Fr [30] M ((fun z => z) res) := by
  unfold Co_addLetter at h
  obtain ⟨e5, he5, h⟩ := bd_some h
  have fe5 := F_Co_addLetter_B7_L he5
  have fe5 := Fr.tr (T := [30]) Fr.rf fe5
  cases h
  exact fe5

set_option maxRecDepth 20000 in
theorem F_Fi_30_B6 {x1 : Int64} {x4 : Int32} {v : Int32 × QM} {res : (QM) ⊕ (Int32 × QM)} (h : Fi_30_B6 x1 x4 v = some res) : Fr [30] v.2 ((Sum.elim (fun z => z) (fun z => z.2)) res) := by
  unfold Fi_30_B6 at h
  by_cases hb : x4 ≤ v.1
  · have h := ite_t hb h
    cases h
    exact Fr.rf
  · have h := ite_f hb h
    have h := (ck_some h).2
    cases h
    exact (Fr.l 30 Fr.rf (by decide))

theorem F_Fi_30_B6_L {x1 : Int64} {x4 : Int32}  {v : Int32 × QM} {k : Nat} {e : QM} (h : iter (Fi_30_B6 x1 x4) k v = some e) : Fr [30] ((fun v => v.2) v) ((fun z => z) e) :=
  iter_Fr (Ga := (fun v => v.2)) (Gb := (fun z => z)) (fun a res hB => F_Fi_30_B6 hB) k v e h

set_option maxRecDepth 20000 in
theorem F_Fi_30 {p1 : Int64} {M : QM} {res : QM} (h : Fi_30 p1 M = some res) : Fr [30] M ((fun z => z) res) := by
  unfold Fi_30 at h
  obtain ⟨e2, he2, h⟩ := bd_some h
  have fe2 := F_Fi_30_B6_L he2
  have fe2 := Fr.tr (T := [30]) Fr.rf fe2
  cases h
  exact fe2

set_option maxRecDepth 20000 in
theorem F_Co_recordsOf_B29 {x1 : Int32} {x2 : Int32} {v : Int32 × QM} {res : (QM) ⊕ (Int32 × QM)} (h : Co_recordsOf_B29 x1 x2 v = some res) : Fr [30] v.2 ((Sum.elim (fun z => z) (fun z => z.2)) res) := by
  unfold Co_recordsOf_B29 at h
  by_cases hb : (8 : Int32) ≤ v.1
  · have h := ite_t hb h
    cases h
    exact Fr.rf
  · have h := ite_f hb h
    obtain ⟨q3, hq3, h⟩ := bd_some h
    by_cases hb : q3 = (-6 : Int32)
    · have h := ite_t hb h
      cases h
      exact Fr.rf
    · have h := ite_f hb h
      obtain ⟨q4, hq4, h⟩ := bd_some h
      have fq4 := Fr.tr (T := [30]) Fr.rf (Fr.sub (F_Co_addLetter hq4) (by decide))
      cases h
      exact fq4

theorem F_Co_recordsOf_B29_L {x1 : Int32} {x2 : Int32}  {v : Int32 × QM} {k : Nat} {e : QM} (h : iter (Co_recordsOf_B29 x1 x2) k v = some e) : Fr [30] ((fun v => v.2) v) ((fun z => z) e) :=
  iter_Fr (Ga := (fun v => v.2)) (Gb := (fun z => z)) (fun a res hB => F_Co_recordsOf_B29 hB) k v e h

set_option maxRecDepth 20000 in
theorem F_Co_recordsOf {p1 : Int32} {p2 : Int32} {M : QM} {res : Int64 × QM} (h : Co_recordsOf p1 p2 M = some res) : Fr [30] M ((fun z => z.2) res) := by
  unfold Co_recordsOf at h
  by_cases hb : p2 < 0
  · have h := ite_t hb h
    cases h
    exact Fr.rf
  · have h := ite_f hb h
    by_cases hb : p2 ≤ (12 : Int32)
    · have h := ite_t hb h
      obtain ⟨q1, hq1, h⟩ := bd_some h
      have fq1 := Fr.tr (T := [30]) Fr.rf (Fr.sub (F_Fi_30 hq1) (by decide))
      have h := (ck_some h).2
      obtain ⟨e5, he5, h⟩ := bd_some h
      have fe5 := F_Co_recordsOf_B29_L he5
      have fe5 := Fr.tr (T := [30]) (Fr.l 30 fq1 (by decide)) fe5
      have h := (ck_some h).2
      cases h
      exact fe5
    · have h := ite_f hb h
      cases h
      exact Fr.rf

set_option maxRecDepth 20000 in
theorem F_Co_valuesBySmaller {p1 : Int32} {p2 : Int32} {M : QM} {res : Int64 × QM} (h : Co_valuesBySmaller p1 p2 M = some res) : Fr [30] M ((fun z => z.2) res) := by
  unfold Co_valuesBySmaller at h
  obtain ⟨q1, hq1, h⟩ := bd_some h
  by_cases hb : q1 = 42
  · have h := ite_t hb h
    obtain ⟨q2, hq2, h⟩ := bd_some h
    cases h
    exact Fr.rf
  · have h := ite_f hb h
    by_cases hb : q1 = 91
    · have h := ite_t hb h
      obtain ⟨q4, hq4, h⟩ := bd_some h
      cases h
      exact Fr.rf
    · have h := ite_f hb h
      by_cases hb : q1 = 110
      · have h := ite_t hb h
        by_cases hb : p2 = (1 : Int32)
        · have h := ite_t hb h
          cases h
          exact Fr.rf
        · have h := ite_f hb h
          cases h
          exact Fr.rf
      · have h := ite_f hb h
        by_cases hb : q1 = 115
        · have h := ite_t hb h
          by_cases hb : p2 = (1 : Int32)
          · have h := ite_t hb h
            cases h
            exact Fr.rf
          · have h := ite_f hb h
            cases h
            exact Fr.rf
        · have h := ite_f hb h
          by_cases hb : q1 = 116
          · have h := ite_t hb h
            by_cases hb : p2 = (1 : Int32)
            · have h := ite_t hb h
              cases h
              exact Fr.rf
            · have h := ite_f hb h
              cases h
              exact Fr.rf
          · have h := ite_f hb h
            by_cases hb : q1 = 123
            · have h := ite_t hb h
              obtain ⟨q9, hq9, h⟩ := bd_some h
              have fq9 := Fr.tr (T := [30]) Fr.rf (Fr.sub (F_Co_recordsOf hq9) (by decide))
              cases h
              exact fq9
            · have h := ite_f hb h
              cases h
              exact Fr.rf

set_option maxRecDepth 20000 in
theorem F_Co_catchUp_B42 {x1 : Int32} {x2 : Int32} {v : Int32 × QM} {res : (QM) ⊕ (Int32 × QM)} (h : Co_catchUp_B42 x1 x2 v = some res) : Fr [28, 29, 30] v.2 ((Sum.elim (fun z => z) (fun z => z.2)) res) := by
  unfold Co_catchUp_B42 at h
  by_cases hb : x1 ≤ v.1
  · have h := ite_t hb h
    cases h
    exact Fr.rf
  · have h := ite_f hb h
    obtain ⟨q2, hq2, h⟩ := bd_some h
    have fq2 := Fr.tr (T := [28, 29, 30]) Fr.rf (Fr.sub (F_Co_valuesBySmaller hq2) (by decide))
    have h := (ck_some h).2
    cases h
    exact (Fr.l 29 fq2 (by decide))

theorem F_Co_catchUp_B42_L {x1 : Int32} {x2 : Int32}  {v : Int32 × QM} {k : Nat} {e : QM} (h : iter (Co_catchUp_B42 x1 x2) k v = some e) : Fr [28, 29, 30] ((fun v => v.2) v) ((fun z => z) e) :=
  iter_Fr (Ga := (fun v => v.2)) (Gb := (fun z => z)) (fun a res hB => F_Co_catchUp_B42 hB) k v e h

set_option maxRecDepth 20000 in
theorem F_Co_catchUp_B31 {x1 : Int32} {v : Int32 × QM} {res : (QM) ⊕ (Int32 × QM)} (h : Co_catchUp_B31 x1 v = some res) : Fr [28, 29, 30] v.2 ((Sum.elim (fun z => z) (fun z => z.2)) res) := by
  unfold Co_catchUp_B31 at h
  by_cases hb : (12 : Int32) < v.1
  · have h := ite_t hb h
    cases h
    exact Fr.rf
  · have h := ite_f hb h
    obtain ⟨e4, he4, h⟩ := bd_some h
    have fe4 := F_Co_catchUp_B42_L he4
    have fe4 := Fr.tr (T := [28, 29, 30]) Fr.rf fe4
    cases h
    exact fe4

theorem F_Co_catchUp_B31_L {x1 : Int32}  {v : Int32 × QM} {k : Nat} {e : QM} (h : iter (Co_catchUp_B31 x1) k v = some e) : Fr [28, 29, 30] ((fun v => v.2) v) ((fun z => z) e) :=
  iter_Fr (Ga := (fun v => v.2)) (Gb := (fun z => z)) (fun a res hB => F_Co_catchUp_B31 hB) k v e h

set_option maxRecDepth 20000 in
theorem F_Co_catchUp {M : QM} {res : QM} (h : Co_catchUp M = some res) : Fr [28, 29, 30] M ((fun z => z) res) := by
  unfold Co_catchUp at h
  obtain ⟨q1, hq1, h⟩ := bd_some h
  by_cases hb : (M.1 28 3) < 0
  · have h := ite_t hb h
    cases h
    exact Fr.rf
  · have h := ite_f hb h
    by_cases hb : (M.1 28 3) < (if (60 : Int32) < q1 then (60 : Int32) else q1)
    · have h := ite_t hb h
      obtain ⟨e5, he5, h⟩ := bd_some h
      have fe5 := F_Co_catchUp_B31_L he5
      have fe5 := Fr.tr (T := [28, 29, 30]) Fr.rf fe5
      cases h
      exact (Fr.i 28 fe5 (by decide))
    · have h := ite_f hb h
      cases h
      exact Fr.rf

set_option maxRecDepth 20000 in
theorem F_Co_forget {M : QM} {res : QM} (h : Co_forget M = some res) : Fr [28] M ((fun z => z) res) := by
  unfold Co_forget at h
  cases h
  exact (Fr.i 28 Fr.rf (by decide))

set_option maxRecDepth 20000 in
theorem F_Co_valuesOf {p1 : Int32} {p2 : Int32} {M : QM} {res : Int32 × QM} (h : Co_valuesOf p1 p2 M = some res) : Fr [28, 29, 30] M ((fun z => z.2) res) := by
  unfold Co_valuesOf at h
  obtain ⟨q1, hq1, h⟩ := bd_some h
  have fq1 := Fr.tr (T := [28, 29, 30]) Fr.rf (Fr.sub (F_Co_catchUp hq1) (by decide))
  obtain ⟨q2, hq2, h⟩ := bd_some h
  cases h
  exact fq1

