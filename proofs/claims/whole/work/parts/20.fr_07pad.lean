set_option maxRecDepth 20000 in
theorem F_Pa_clear {M : QM} {res : QM} (h : Pa_clear M = some res) : Fr [1] M ((fun z => z) res) := by
  unfold Pa_clear at h
  cases h
  exact (Fr.i 1 Fr.rf (by decide))

set_option maxRecDepth 20000 in
theorem F_Pa_lay {p1 : Int32} {M : QM} {res : Int32 × QM} (h : Pa_lay p1 M = some res) : Fr [1, 2] M ((fun z => z.2) res) := by
  unfold Pa_lay at h
  by_cases hb : (M.1 1 1) < 0
  · have h := ite_t hb h
    cases h
    exact Fr.rf
  · have h := ite_f hb h
    by_cases hb : (M.1 1 1) < (100 : Int32)
    · have h := ite_t hb h
      have h := (ck_some h).2
      cases h
      exact (Fr.i 1 (Fr.i 2 Fr.rf (by decide)) (by decide))
    · have h := ite_f hb h
      cases h
      exact Fr.rf

