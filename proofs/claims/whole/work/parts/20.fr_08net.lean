set_option maxRecDepth 20000 in
theorem F_Ne_addNode {p1 : Int32} {M : QM} {res : Int32 × QM} (h : Ne_addNode p1 M = some res) : Fr [3, 4, 5] M ((fun z => z.2) res) := by
  unfold Ne_addNode at h
  by_cases hb : (M.1 3 5) < 0
  · have h := ite_t hb h
    cases h
    exact Fr.rf
  · have h := ite_f hb h
    by_cases hb : (M.1 3 5) < (M.1 3 0)
    · have h := ite_t hb h
      have h := (ck_some h).2
      have h := (ck_some h).2
      cases h
      exact (Fr.i 3 (Fr.i 5 (Fr.i 4 Fr.rf (by decide)) (by decide)) (by decide))
    · have h := ite_f hb h
      cases h
      exact Fr.rf

set_option maxRecDepth 20000 in
theorem F_Dr_addNode {p1 : Int32} {M : QM} {res : Int32 × QM} (h : Dr_addNode p1 M = some res) : Fr [9, 10, 11] M ((fun z => z.2) res) := by
  unfold Dr_addNode at h
  by_cases hb : (M.1 9 5) < 0
  · have h := ite_t hb h
    cases h
    exact Fr.rf
  · have h := ite_f hb h
    by_cases hb : (M.1 9 5) < (M.1 9 0)
    · have h := ite_t hb h
      have h := (ck_some h).2
      have h := (ck_some h).2
      cases h
      exact (Fr.i 9 (Fr.i 11 (Fr.i 10 Fr.rf (by decide)) (by decide)) (by decide))
    · have h := ite_f hb h
      cases h
      exact Fr.rf

set_option maxRecDepth 20000 in
theorem F_Fi_7_B5 {x1 : Int32} {x3 : Int32} {v : Int32 × QM} {res : (QM) ⊕ (Int32 × QM)} (h : Fi_7_B5 x1 x3 v = some res) : Fr [7] v.2 ((Sum.elim (fun z => z) (fun z => z.2)) res) := by
  unfold Fi_7_B5 at h
  by_cases hb : x3 ≤ v.1
  · have h := ite_t hb h
    cases h
    exact Fr.rf
  · have h := ite_f hb h
    have h := (ck_some h).2
    cases h
    exact (Fr.i 7 Fr.rf (by decide))

theorem F_Fi_7_B5_L {x1 : Int32} {x3 : Int32}  {v : Int32 × QM} {k : Nat} {e : QM} (h : iter (Fi_7_B5 x1 x3) k v = some e) : Fr [7] ((fun v => v.2) v) ((fun z => z) e) :=
  iter_Fr (Ga := (fun v => v.2)) (Gb := (fun z => z)) (fun a res hB => F_Fi_7_B5 hB) k v e h

set_option maxRecDepth 20000 in
theorem F_Fi_7 {p1 : Int32} {M : QM} {res : QM} (h : Fi_7 p1 M = some res) : Fr [7] M ((fun z => z) res) := by
  unfold Fi_7 at h
  obtain ⟨e2, he2, h⟩ := bd_some h
  have fe2 := F_Fi_7_B5_L he2
  have fe2 := Fr.tr (T := [7]) Fr.rf fe2
  cases h
  exact fe2

set_option maxRecDepth 20000 in
theorem F_Ne_clear {M : QM} {res : QM} (h : Ne_clear M = some res) : Fr [3, 7] M ((fun z => z) res) := by
  unfold Ne_clear at h
  obtain ⟨q1, hq1, h⟩ := bd_some h
  have fq1 := Fr.tr (T := [3, 7]) (Fr.i 3 Fr.rf (by decide)) (Fr.sub (F_Fi_7 hq1) (by decide))
  cases h
  exact fq1

set_option maxRecDepth 20000 in
theorem F_Fi_13_B5 {x1 : Int32} {x3 : Int32} {v : Int32 × QM} {res : (QM) ⊕ (Int32 × QM)} (h : Fi_13_B5 x1 x3 v = some res) : Fr [13] v.2 ((Sum.elim (fun z => z) (fun z => z.2)) res) := by
  unfold Fi_13_B5 at h
  by_cases hb : x3 ≤ v.1
  · have h := ite_t hb h
    cases h
    exact Fr.rf
  · have h := ite_f hb h
    have h := (ck_some h).2
    cases h
    exact (Fr.i 13 Fr.rf (by decide))

theorem F_Fi_13_B5_L {x1 : Int32} {x3 : Int32}  {v : Int32 × QM} {k : Nat} {e : QM} (h : iter (Fi_13_B5 x1 x3) k v = some e) : Fr [13] ((fun v => v.2) v) ((fun z => z) e) :=
  iter_Fr (Ga := (fun v => v.2)) (Gb := (fun z => z)) (fun a res hB => F_Fi_13_B5 hB) k v e h

set_option maxRecDepth 20000 in
theorem F_Fi_13 {p1 : Int32} {M : QM} {res : QM} (h : Fi_13 p1 M = some res) : Fr [13] M ((fun z => z) res) := by
  unfold Fi_13 at h
  obtain ⟨e2, he2, h⟩ := bd_some h
  have fe2 := F_Fi_13_B5_L he2
  have fe2 := Fr.tr (T := [13]) Fr.rf fe2
  cases h
  exact fe2

set_option maxRecDepth 20000 in
theorem F_Dr_clear {M : QM} {res : QM} (h : Dr_clear M = some res) : Fr [9, 13] M ((fun z => z) res) := by
  unfold Dr_clear at h
  obtain ⟨q1, hq1, h⟩ := bd_some h
  have fq1 := Fr.tr (T := [9, 13]) (Fr.i 9 Fr.rf (by decide)) (Fr.sub (F_Fi_13 hq1) (by decide))
  cases h
  exact fq1

set_option maxRecDepth 20000 in
theorem F_Ne_dropFrom {p1 : Int32} {M : QM} {res : QM} (h : Ne_dropFrom p1 M = some res) : Fr [3] M ((fun z => z) res) := by
  unfold Ne_dropFrom at h
  by_cases hb : p1 < 0
  · have h := ite_t hb h
    cases h
    exact Fr.rf
  · have h := ite_f hb h
    by_cases hb : (M.1 3 5) ≤ p1
    · have h := ite_t hb h
      cases h
      exact Fr.rf
    · have h := ite_f hb h
      cases h
      exact (Fr.i 3 Fr.rf (by decide))

set_option maxRecDepth 20000 in
theorem F_Dr_dropFrom {p1 : Int32} {M : QM} {res : QM} (h : Dr_dropFrom p1 M = some res) : Fr [9] M ((fun z => z) res) := by
  unfold Dr_dropFrom at h
  by_cases hb : p1 < 0
  · have h := ite_t hb h
    cases h
    exact Fr.rf
  · have h := ite_f hb h
    by_cases hb : (M.1 9 5) ≤ p1
    · have h := ite_t hb h
      cases h
      exact Fr.rf
    · have h := ite_f hb h
      cases h
      exact (Fr.i 9 Fr.rf (by decide))

set_option maxRecDepth 20000 in
theorem F_Ne_setName {p1 : Int32} {p2 : Int32} {M : QM} {res : QM} (h : Ne_setName p1 p2 M = some res) : Fr [7] M ((fun z => z) res) := by
  unfold Ne_setName at h
  by_cases hb : p1 < 0
  · have h := ite_t hb h
    cases h
    exact Fr.rf
  · have h := ite_f hb h
    by_cases hb : (8 : Int32) ≤ p1
    · have h := ite_t hb h
      cases h
      exact Fr.rf
    · have h := ite_f hb h
      have h := (ck_some h).2
      cases h
      exact (Fr.i 7 Fr.rf (by decide))

set_option maxRecDepth 20000 in
theorem F_Dr_setName {p1 : Int32} {p2 : Int32} {M : QM} {res : QM} (h : Dr_setName p1 p2 M = some res) : Fr [13] M ((fun z => z) res) := by
  unfold Dr_setName at h
  by_cases hb : p1 < 0
  · have h := ite_t hb h
    cases h
    exact Fr.rf
  · have h := ite_f hb h
    by_cases hb : (8 : Int32) ≤ p1
    · have h := ite_t hb h
      cases h
      exact Fr.rf
    · have h := ite_f hb h
      have h := (ck_some h).2
      cases h
      exact (Fr.i 13 Fr.rf (by decide))

set_option maxRecDepth 20000 in
theorem F_Ne_setPart {p1 : Int32} {p2 : Int32} {p3 : Int32} {M : QM} {res : QM} (h : Ne_setPart p1 p2 p3 M = some res) : Fr [5, 6] M ((fun z => z) res) := by
  unfold Ne_setPart at h
  by_cases hb : p1 < 0
  · have h := ite_t hb h
    cases h
    exact Fr.rf
  · have h := ite_f hb h
    by_cases hb : (M.1 3 5) ≤ p1
    · have h := ite_t hb h
      cases h
      exact Fr.rf
    · have h := ite_f hb h
      by_cases hb : (M.1 3 0) ≤ p1
      · have h := ite_t hb h
        cases h
        exact Fr.rf
      · have h := ite_f hb h
        by_cases hb : p2 < 0
        · have h := ite_t hb h
          cases h
          exact Fr.rf
        · have h := ite_f hb h
          by_cases hb : (8 : Int32) ≤ p2
          · have h := ite_t hb h
            cases h
            exact Fr.rf
          · have h := ite_f hb h
            have h := (ck_some h).2
            have h := (ck_some h).2
            have h := (ck_some h).2
            cases h
            exact (Fr.i 6 (Fr.i 5 Fr.rf (by decide)) (by decide))

set_option maxRecDepth 20000 in
theorem F_Dr_setPart {p1 : Int32} {p2 : Int32} {p3 : Int32} {M : QM} {res : QM} (h : Dr_setPart p1 p2 p3 M = some res) : Fr [11, 12] M ((fun z => z) res) := by
  unfold Dr_setPart at h
  by_cases hb : p1 < 0
  · have h := ite_t hb h
    cases h
    exact Fr.rf
  · have h := ite_f hb h
    by_cases hb : (M.1 9 5) ≤ p1
    · have h := ite_t hb h
      cases h
      exact Fr.rf
    · have h := ite_f hb h
      by_cases hb : (M.1 9 0) ≤ p1
      · have h := ite_t hb h
        cases h
        exact Fr.rf
      · have h := ite_f hb h
        by_cases hb : p2 < 0
        · have h := ite_t hb h
          cases h
          exact Fr.rf
        · have h := ite_f hb h
          by_cases hb : (8 : Int32) ≤ p2
          · have h := ite_t hb h
            cases h
            exact Fr.rf
          · have h := ite_f hb h
            have h := (ck_some h).2
            have h := (ck_some h).2
            have h := (ck_some h).2
            cases h
            exact (Fr.i 12 (Fr.i 11 Fr.rf (by decide)) (by decide))

