set_option maxRecDepth 20000 in
theorem F_Kn_alike {p1 : Int32} {p2 : Int32} {M : QM} {res : Int32 × QM} (h : Kn_alike p1 p2 M = some res) : Fr [14, 15] M ((fun z => z.2) res) := by
  unfold Kn_alike at h
  obtain ⟨q1, hq1, h⟩ := bd_some h
  by_cases hb : q1 = 0
  · have h := ite_t hb h
    cases h
    exact Fr.rf
  · have h := ite_f hb h
    obtain ⟨q2, hq2, h⟩ := bd_some h
    by_cases hb : q2 = 0
    · have h := ite_t hb h
      cases h
      exact Fr.rf
    · have h := ite_f hb h
      obtain ⟨q3, hq3, h⟩ := bd_some h
      have fq3 := Fr.tr (T := [14, 15]) Fr.rf (Fr.sub (F_St_catchUp hq3) (by decide))
      obtain ⟨q4, hq4, h⟩ := bd_some h
      by_cases hb : q4 = 0
      · have h := ite_t hb h
        cases h
        exact fq3
      · have h := ite_f hb h
        cases h
        exact fq3

set_option maxRecDepth 20000 in
theorem F_Kn_count {p1 : Int32} {p2 : Int32} {M : QM} {res : Int32 × QM} (h : Kn_count p1 p2 M = some res) : Fr [28, 29, 30] M ((fun z => z.2) res) := by
  unfold Kn_count at h
  obtain ⟨q1, hq1, h⟩ := bd_some h
  by_cases hb : q1 = 0
  · have h := ite_t hb h
    cases h
    exact Fr.rf
  · have h := ite_f hb h
    by_cases hb : p2 < (1 : Int32)
    · have h := ite_t hb h
      cases h
      exact Fr.rf
    · have h := ite_f hb h
      by_cases hb : p2 ≤ (12 : Int32)
      · have h := ite_t hb h
        obtain ⟨q2, hq2, h⟩ := bd_some h
        have fq2 := Fr.tr (T := [28, 29, 30]) Fr.rf (Fr.sub (F_Co_valuesOf hq2) (by decide))
        cases h
        exact fq2
      · have h := ite_f hb h
        cases h
        exact Fr.rf

set_option maxRecDepth 20000 in
theorem F_Kn_end {p1 : Int32} {p2 : Int32} {M : QM} {res : Int32 × QM} (h : Kn_end p1 p2 M = some res) : Fr [14, 15] M ((fun z => z.2) res) := by
  unfold Kn_end at h
  obtain ⟨q1, hq1, h⟩ := bd_some h
  by_cases hb : q1 = 0
  · have h := ite_t hb h
    cases h
    exact Fr.rf
  · have h := ite_f hb h
    obtain ⟨q2, hq2, h⟩ := bd_some h
    by_cases hb : q2 = 0
    · have h := ite_t hb h
      cases h
      exact Fr.rf
    · have h := ite_f hb h
      obtain ⟨q3, hq3, h⟩ := bd_some h
      have fq3 := Fr.tr (T := [14, 15]) Fr.rf (Fr.sub (F_St_catchUp hq3) (by decide))
      obtain ⟨q4, hq4, h⟩ := bd_some h
      cases h
      exact fq3

set_option maxRecDepth 20000 in
theorem F_Kn_fault {M : QM} {res : Int32 × QM} (h : Kn_fault M = some res) : Fr [8, 9, 10, 11, 12, 13] M ((fun z => z.2) res) := by
  unfold Kn_fault at h
  obtain ⟨q1, hq1, h⟩ := bd_some h
  have fq1 := Fr.tr (T := [8, 9, 10, 11, 12, 13]) Fr.rf (Fr.sub (F_Te_read hq1) (by decide))
  cases h
  exact fq1

set_option maxRecDepth 20000 in
theorem F_Kn_fits {p1 : Int32} {M : QM} {res : Int32 × QM} (h : Kn_fits p1 M = some res) : Fr [24, 25, 26, 27] M ((fun z => z.2) res) := by
  unfold Kn_fits at h
  obtain ⟨q1, hq1, h⟩ := bd_some h
  by_cases hb : q1 = 0
  · have h := ite_t hb h
    cases h
    exact Fr.rf
  · have h := ite_f hb h
    obtain ⟨q2, hq2, h⟩ := bd_some h
    have fq2 := Fr.tr (T := [24, 25, 26, 27]) Fr.rf (Fr.sub (F_Va_read hq2) (by decide))
    by_cases hb : q2.1 = (-6 : Int32)
    · have h := ite_t hb h
      obtain ⟨q3, hq3, h⟩ := bd_some h
      cases h
      exact fq2
    · have h := ite_f hb h
      cases h
      exact fq2

set_option maxRecDepth 20000 in
theorem F_Kn_join_J36 {x1 : Int32} {x2 : Int32} {x3 : Int32} {M : QM} {res : Int32 × QM} (h : Kn_join_J36 x1 x2 x3 M = some res) : Fr [3, 4, 5, 6, 14, 15, 18, 19, 20, 21, 22, 23] M ((fun z => z.2) res) := by
  unfold Kn_join_J36 at h
  obtain ⟨q3, hq3, h⟩ := bd_some h
  have fq3 := Fr.tr (T := [3, 4, 5, 6, 14, 15, 18, 19, 20, 21, 22, 23]) Fr.rf (Fr.sub (F_Jo_joined hq3) (by decide))
  cases h
  exact fq3

set_option maxRecDepth 20000 in
theorem F_Kn_join {p1 : Int32} {p2 : Int32} {p3 : Int32} {M : QM} {res : Int32 × QM} (h : Kn_join p1 p2 p3 M = some res) : Fr [3, 4, 5, 6, 14, 15, 18, 19, 20, 21, 22, 23] M ((fun z => z.2) res) := by
  unfold Kn_join at h
  obtain ⟨q1, hq1, h⟩ := bd_some h
  by_cases hb : q1 = 0
  · have h := ite_t hb h
    cases h
    exact Fr.rf
  · have h := ite_f hb h
    obtain ⟨q2, hq2, h⟩ := bd_some h
    by_cases hb : q2 = 0
    · have h := ite_t hb h
      cases h
      exact Fr.rf
    · have h := ite_f hb h
      by_cases hb : p3 = 0
      · have h := ite_t hb h
        exact Fr.tr (T := [3, 4, 5, 6, 14, 15, 18, 19, 20, 21, 22, 23]) Fr.rf (F_Kn_join_J36 h)
      · have h := ite_f hb h
        by_cases hb : p3 = (1 : Int32)
        · have h := ite_t hb h
          exact Fr.tr (T := [3, 4, 5, 6, 14, 15, 18, 19, 20, 21, 22, 23]) Fr.rf (F_Kn_join_J36 h)
        · have h := ite_f hb h
          cases h
          exact Fr.rf

set_option maxRecDepth 20000 in
theorem F_Kn_least {p1 : Int32} {M : QM} {res : Int32 × QM} (h : Kn_least p1 M = some res) : Fr [31, 32] M ((fun z => z.2) res) := by
  unfold Kn_least at h
  obtain ⟨q1, hq1, h⟩ := bd_some h
  by_cases hb : q1 = 0
  · have h := ite_t hb h
    cases h
    exact Fr.rf
  · have h := ite_f hb h
    obtain ⟨q2, hq2, h⟩ := bd_some h
    have fq2 := Fr.tr (T := [31, 32]) Fr.rf (Fr.sub (F_Le_leastOf hq2) (by decide))
    cases h
    exact fq2

set_option maxRecDepth 20000 in
theorem F_Kn_may {p1 : Int32} {p2 : Int32} {M : QM} {res : Int32 × QM} (h : Kn_may p1 p2 M = some res) : Fr [14, 15] M ((fun z => z.2) res) := by
  unfold Kn_may at h
  obtain ⟨q1, hq1, h⟩ := bd_some h
  by_cases hb : q1 = 0
  · have h := ite_t hb h
    cases h
    exact Fr.rf
  · have h := ite_f hb h
    obtain ⟨q2, hq2, h⟩ := bd_some h
    by_cases hb : q2 = 0
    · have h := ite_t hb h
      cases h
      exact Fr.rf
    · have h := ite_f hb h
      obtain ⟨q3, hq3, h⟩ := bd_some h
      have fq3 := Fr.tr (T := [14, 15]) Fr.rf (Fr.sub (F_St_catchUp hq3) (by decide))
      obtain ⟨q4, hq4, h⟩ := bd_some h
      by_cases hb : q4 = 0
      · have h := ite_t hb h
        cases h
        exact fq3
      · have h := ite_f hb h
        cases h
        exact fq3

set_option maxRecDepth 20000 in
theorem F_Kn_pieces {p1 : Int32} {M : QM} {res : Int32 × QM} (h : Kn_pieces p1 M = some res) : Fr [14, 15, 16, 17] M ((fun z => z.2) res) := by
  unfold Kn_pieces at h
  obtain ⟨q1, hq1, h⟩ := bd_some h
  by_cases hb : q1 = 0
  · have h := ite_t hb h
    cases h
    exact Fr.rf
  · have h := ite_f hb h
    obtain ⟨q2, hq2, h⟩ := bd_some h
    have fq2 := Fr.tr (T := [14, 15, 16, 17]) Fr.rf (Fr.sub (F_St_catchUp hq2) (by decide))
    obtain ⟨q3, hq3, h⟩ := bd_some h
    have fq3 := Fr.tr (T := [14, 15, 16, 17]) fq2 (Fr.sub (F_St_unlikeWithin hq3) (by decide))
    cases h
    exact fq3

set_option maxRecDepth 20000 in
theorem F_Kn_say {p1 : Int32} {M : QM} {res : Int32 × QM} (h : Kn_say p1 M = some res) : Fr [1, 2] M ((fun z => z.2) res) := by
  unfold Kn_say at h
  by_cases hb : p1 < (33 : Int32)
  · have h := ite_t hb h
    cases h
    exact Fr.rf
  · have h := ite_f hb h
    by_cases hb : p1 ≤ (126 : Int32)
    · have h := ite_t hb h
      obtain ⟨q1, hq1, h⟩ := bd_some h
      have fq1 := Fr.tr (T := [1, 2]) Fr.rf (Fr.sub (F_Pa_lay hq1) (by decide))
      by_cases hb : q1.1 = 0
      · have h := ite_t hb h
        cases h
        exact fq1
      · have h := ite_f hb h
        obtain ⟨q2, hq2, h⟩ := bd_some h
        cases h
        exact fq1
    · have h := ite_f hb h
      cases h
      exact Fr.rf

set_option maxRecDepth 20000 in
theorem F_Kn_size {M : QM} {res : Int32 × QM} (h : Kn_size M = some res) : Fr [24, 25, 26, 27] M ((fun z => z.2) res) := by
  unfold Kn_size at h
  obtain ⟨q1, hq1, h⟩ := bd_some h
  have fq1 := Fr.tr (T := [24, 25, 26, 27]) Fr.rf (Fr.sub (F_Va_read hq1) (by decide))
  by_cases hb : q1.1 = (-6 : Int32)
  · have h := ite_t hb h
    obtain ⟨q2, hq2, h⟩ := bd_some h
    cases h
    exact fq1
  · have h := ite_f hb h
    cases h
    exact fq1

set_option maxRecDepth 20000 in
theorem F_Kn_slip {M : QM} {res : Int32 × QM} (h : Kn_slip M = some res) : Fr [24, 25, 26, 27] M ((fun z => z.2) res) := by
  unfold Kn_slip at h
  obtain ⟨q1, hq1, h⟩ := bd_some h
  have fq1 := Fr.tr (T := [24, 25, 26, 27]) Fr.rf (Fr.sub (F_Va_read hq1) (by decide))
  cases h
  exact fq1

set_option maxRecDepth 20000 in
theorem F_Kn_take {M : QM} {res : Int32 × QM} (h : Kn_take M = some res) : Fr [1, 3, 4, 5, 6, 7, 8, 9, 10, 11, 12, 13, 14, 28, 31] M ((fun z => z.2) res) := by
  unfold Kn_take at h
  obtain ⟨q1, hq1, h⟩ := bd_some h
  have fq1 := Fr.tr (T := [1, 3, 4, 5, 6, 7, 8, 9, 10, 11, 12, 13, 14, 28, 31]) Fr.rf (Fr.sub (F_Te_read hq1) (by decide))
  by_cases hb : q1.1 = (-6 : Int32)
  · have h := ite_t hb h
    obtain ⟨q2, hq2, h⟩ := bd_some h
    by_cases hb : q2 = 0
    · have h := ite_t hb h
      cases h
      exact fq1
    · have h := ite_f hb h
      obtain ⟨q3, hq3, h⟩ := bd_some h
      by_cases hb : q3 ≤ (40 : Int32)
      · have h := ite_t hb h
        obtain ⟨q4, hq4, h⟩ := bd_some h
        have fq4 := Fr.tr (T := [1, 3, 4, 5, 6, 7, 8, 9, 10, 11, 12, 13, 14, 28, 31]) fq1 (Fr.sub (F_Te_copyInto hq4) (by decide))
        obtain ⟨q5, hq5, h⟩ := bd_some h
        have fq5 := Fr.tr (T := [1, 3, 4, 5, 6, 7, 8, 9, 10, 11, 12, 13, 14, 28, 31]) fq4 (Fr.sub (F_Pa_clear hq5) (by decide))
        obtain ⟨q6, hq6, h⟩ := bd_some h
        have fq6 := Fr.tr (T := [1, 3, 4, 5, 6, 7, 8, 9, 10, 11, 12, 13, 14, 28, 31]) fq5 (Fr.sub (F_St_forget hq6) (by decide))
        obtain ⟨q7, hq7, h⟩ := bd_some h
        have fq7 := Fr.tr (T := [1, 3, 4, 5, 6, 7, 8, 9, 10, 11, 12, 13, 14, 28, 31]) fq6 (Fr.sub (F_Co_forget hq7) (by decide))
        obtain ⟨q8, hq8, h⟩ := bd_some h
        have fq8 := Fr.tr (T := [1, 3, 4, 5, 6, 7, 8, 9, 10, 11, 12, 13, 14, 28, 31]) fq7 (Fr.sub (F_Le_forget hq8) (by decide))
        obtain ⟨q9, hq9, h⟩ := bd_some h
        cases h
        exact fq8
      · have h := ite_f hb h
        cases h
        exact fq1
  · have h := ite_f hb h
    cases h
    exact fq1

set_option maxRecDepth 20000 in
theorem F_Kn_told {p1 : Int32} {M : QM} {res : Int32 × QM} (h : Kn_told p1 M = some res) : Fr [14, 15, 31, 32] M ((fun z => z.2) res) := by
  unfold Kn_told at h
  by_cases hb : p1 = 0
  · have h := ite_t hb h
    obtain ⟨q1, hq1, h⟩ := bd_some h
    cases h
    exact Fr.rf
  · have h := ite_f hb h
    by_cases hb : p1 = 1
    · have h := ite_t hb h
      obtain ⟨q3, hq3, h⟩ := bd_some h
      cases h
      exact Fr.rf
    · have h := ite_f hb h
      by_cases hb : p1 = 2
      · have h := ite_t hb h
        obtain ⟨q5, hq5, h⟩ := bd_some h
        cases h
        exact Fr.rf
      · have h := ite_f hb h
        by_cases hb : p1 = 3
        · have h := ite_t hb h
          obtain ⟨q7, hq7, h⟩ := bd_some h
          have fq7 := Fr.tr (T := [14, 15, 31, 32]) Fr.rf (Fr.sub (F_Le_emptyNodes hq7) (by decide))
          cases h
          exact fq7
        · have h := ite_f hb h
          by_cases hb : p1 = 4
          · have h := ite_t hb h
            obtain ⟨q9, hq9, h⟩ := bd_some h
            have fq9 := Fr.tr (T := [14, 15, 31, 32]) Fr.rf (Fr.sub (F_St_catchUp hq9) (by decide))
            obtain ⟨q10, hq10, h⟩ := bd_some h
            cases h
            exact fq9
          · have h := ite_f hb h
            cases h
            exact Fr.rf

set_option maxRecDepth 20000 in
theorem F_Kn_way {p1 : Int32} {p2 : Int32} {p3 : Int32} {M : QM} {res : Int32 × QM} (h : Kn_way p1 p2 p3 M = some res) : Fr [14, 15] M ((fun z => z.2) res) := by
  unfold Kn_way at h
  obtain ⟨q1, hq1, h⟩ := bd_some h
  by_cases hb : q1 = 0
  · have h := ite_t hb h
    cases h
    exact Fr.rf
  · have h := ite_f hb h
    obtain ⟨q2, hq2, h⟩ := bd_some h
    by_cases hb : q2 = 0
    · have h := ite_t hb h
      cases h
      exact Fr.rf
    · have h := ite_f hb h
      obtain ⟨q3, hq3, h⟩ := bd_some h
      have fq3 := Fr.tr (T := [14, 15]) Fr.rf (Fr.sub (F_St_catchUp hq3) (by decide))
      by_cases hb : p3 = (-1 : Int32)
      · have h := ite_t hb h
        obtain ⟨q5, hq5, h⟩ := bd_some h
        cases h
        exact fq3
      · have h := ite_f hb h
        obtain ⟨q4, hq4, h⟩ := bd_some h
        cases h
        exact fq3

set_option maxRecDepth 20000 in
theorem F_Kn_wipe {M : QM} {res : Int32 × QM} (h : Kn_wipe M = some res) : Fr [1] M ((fun z => z.2) res) := by
  unfold Kn_wipe at h
  obtain ⟨q1, hq1, h⟩ := bd_some h
  obtain ⟨q2, hq2, h⟩ := bd_some h
  have fq2 := Fr.tr (T := [1]) Fr.rf (Fr.sub (F_Pa_clear hq2) (by decide))
  cases h
  exact fq2

