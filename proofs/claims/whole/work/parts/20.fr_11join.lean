set_option maxRecDepth 20000 in
theorem F_Jo_begin_J75 {M : QM} {res : Int32 × QM} (h : Jo_begin_J75 M = some res) : Fr [3, 4, 5, 18, 19, 20, 21, 22, 23] M ((fun z => z.2) res) := by
  unfold Jo_begin_J75 at h
  cases h
  exact (Fr.i 18 Fr.rf (by decide))

set_option maxRecDepth 20000 in
theorem F_Jo_begin_J36 {x1 : Int32} {x2 : Int32} {x3 : Int32} {x4 : Int32} {M : QM} {res : Int32 × QM} (h : Jo_begin_J36 x1 x2 x3 x4 M = some res) : Fr [3, 4, 5, 18, 19, 20, 21, 22, 23] M ((fun z => z.2) res) := by
  unfold Jo_begin_J36 at h
  obtain ⟨q3, hq3, h⟩ := bd_some h
  have fq3 := Fr.tr (T := [3, 4, 5, 18, 19, 20, 21, 22, 23]) Fr.rf (Fr.sub (F_Ne_addNode hq3) (by decide))
  by_cases hb : q3.1 < 0
  · have h := ite_t hb h
    exact Fr.tr (T := [3, 4, 5, 18, 19, 20, 21, 22, 23]) fq3 (F_Jo_begin_J75 h)
  · have h := ite_f hb h
    by_cases hb : (60 : Int32) ≤ q3.1
    · have h := ite_t hb h
      exact Fr.tr (T := [3, 4, 5, 18, 19, 20, 21, 22, 23]) fq3 (F_Jo_begin_J75 h)
    · have h := ite_f hb h
      by_cases hb : (q3.2.1 18 7) < 0
      · have h := ite_t hb h
        exact Fr.tr (T := [3, 4, 5, 18, 19, 20, 21, 22, 23]) fq3 (F_Jo_begin_J75 h)
      · have h := ite_f hb h
        by_cases hb : (q3.2.1 18 7) < (60 : Int32)
        · have h := ite_t hb h
          have h := (ck_some h).2
          have h := (ck_some h).2
          have h := (ck_some h).2
          have h := (ck_some h).2
          have h := (ck_some h).2
          cases h
          exact (Fr.i 18 (Fr.i 23 (Fr.i 22 (Fr.i 21 (Fr.i 20 (Fr.i 19 fq3 (by decide)) (by decide)) (by decide)) (by decide)) (by decide)) (by decide))
        · have h := ite_f hb h
          exact Fr.tr (T := [3, 4, 5, 18, 19, 20, 21, 22, 23]) fq3 (F_Jo_begin_J75 h)

set_option maxRecDepth 20000 in
theorem F_Jo_begin_J34 {x1 : Int32} {x2 : Int32} {x3 : Int32} {s0 : Int32} {M : QM} {res : Int32 × QM} (h : Jo_begin_J34 x1 x2 x3 s0 M = some res) : Fr [3, 4, 5, 18, 19, 20, 21, 22, 23] M ((fun z => z.2) res) := by
  unfold Jo_begin_J34 at h
  exact Fr.tr (T := [3, 4, 5, 18, 19, 20, 21, 22, 23]) Fr.rf (F_Jo_begin_J36 h)

set_option maxRecDepth 20000 in
theorem F_Jo_begin {p1 : Int32} {p2 : Int32} {p3 : Int32} {M : QM} {res : Int32 × QM} (h : Jo_begin p1 p2 p3 M = some res) : Fr [3, 4, 5, 18, 19, 20, 21, 22, 23] M ((fun z => z.2) res) := by
  unfold Jo_begin at h
  obtain ⟨q1, hq1, h⟩ := bd_some h
  obtain ⟨q2, hq2, h⟩ := bd_some h
  by_cases hb : q1 = q2
  · have h := ite_t hb h
    exact Fr.tr (T := [3, 4, 5, 18, 19, 20, 21, 22, 23]) Fr.rf (F_Jo_begin_J36 h)
  · have h := ite_f hb h
    by_cases hb : p3 = 0
    · have h := ite_t hb h
      exact Fr.tr (T := [3, 4, 5, 18, 19, 20, 21, 22, 23]) Fr.rf (F_Jo_begin_J34 h)
    · have h := ite_f hb h
      exact Fr.tr (T := [3, 4, 5, 18, 19, 20, 21, 22, 23]) Fr.rf (F_Jo_begin_J34 h)

set_option maxRecDepth 20000 in
theorem F_Jo_nodeFor_J62 {x1 : Int32} {x2 : Int32} {s0 : Int32} {M : QM} {res : Int32 × QM} (h : Jo_nodeFor_J62 x1 x2 s0 M = some res) : Fr [3, 4, 5, 18, 19, 20, 21, 22, 23] M ((fun z => z.2) res) := by
  unfold Jo_nodeFor_J62 at h
  by_cases hb : s0 = 0
  · have h := ite_t hb h
    cases h
    exact Fr.rf
  · have h := ite_f hb h
    cases h
    exact Fr.rf

set_option maxRecDepth 20000 in
theorem F_Jo_nodeFor_J57 {x1 : Int32} {x2 : Int32} {M : QM} {res : Int32 × QM} (h : Jo_nodeFor_J57 x1 x2 M = some res) : Fr [3, 4, 5, 18, 19, 20, 21, 22, 23] M ((fun z => z.2) res) := by
  unfold Jo_nodeFor_J57 at h
  exact Fr.tr (T := [3, 4, 5, 18, 19, 20, 21, 22, 23]) Fr.rf (F_Jo_nodeFor_J62 h)

set_option maxRecDepth 20000 in
theorem F_Jo_nodeFor_J54 {x1 : Int32} {x2 : Int32} {s0 : Int32} {s1 : Int32} {M : QM} {res : Int32 × QM} (h : Jo_nodeFor_J54 x1 x2 s0 s1 M = some res) : Fr [3, 4, 5, 18, 19, 20, 21, 22, 23] M ((fun z => z.2) res) := by
  unfold Jo_nodeFor_J54 at h
  by_cases hb : s1 = s0
  · have h := ite_t hb h
    exact Fr.tr (T := [3, 4, 5, 18, 19, 20, 21, 22, 23]) Fr.rf (F_Jo_nodeFor_J57 h)
  · have h := ite_f hb h
    exact Fr.tr (T := [3, 4, 5, 18, 19, 20, 21, 22, 23]) Fr.rf (F_Jo_nodeFor_J62 h)

set_option maxRecDepth 20000 in
theorem F_Jo_nodeFor_J42 {x1 : Int32} {x2 : Int32} {x3 : Int32} {x4 : Int32} {M : QM} {res : Int32 × QM} (h : Jo_nodeFor_J42 x1 x2 x3 x4 M = some res) : Fr [3, 4, 5, 18, 19, 20, 21, 22, 23] M ((fun z => z.2) res) := by
  unfold Jo_nodeFor_J42 at h
  by_cases hb : x3 = (1 : Int32)
  · have h := ite_t hb h
    exact Fr.tr (T := [3, 4, 5, 18, 19, 20, 21, 22, 23]) Fr.rf (F_Jo_nodeFor_J54 h)
  · have h := ite_f hb h
    exact Fr.tr (T := [3, 4, 5, 18, 19, 20, 21, 22, 23]) Fr.rf (F_Jo_nodeFor_J54 h)

set_option maxRecDepth 20000 in
theorem F_Jo_nodeFor_J32 {x1 : Int32} {x2 : Int32} {x3 : Int32} {x4 : Int32} {x5 : Int32} {M : QM} {res : Int32 × QM} (h : Jo_nodeFor_J32 x1 x2 x3 x4 x5 M = some res) : Fr [3, 4, 5, 18, 19, 20, 21, 22, 23] M ((fun z => z.2) res) := by
  unfold Jo_nodeFor_J32 at h
  by_cases hb : x4 = 0
  · have h := ite_t hb h
    exact Fr.tr (T := [3, 4, 5, 18, 19, 20, 21, 22, 23]) Fr.rf (F_Jo_nodeFor_J42 h)
  · have h := ite_f hb h
    by_cases hb : x5 = 0
    · have h := ite_t hb h
      exact Fr.tr (T := [3, 4, 5, 18, 19, 20, 21, 22, 23]) Fr.rf (F_Jo_nodeFor_J42 h)
    · have h := ite_f hb h
      exact Fr.tr (T := [3, 4, 5, 18, 19, 20, 21, 22, 23]) Fr.rf (F_Jo_nodeFor_J57 h)

set_option maxRecDepth 20000 in
theorem F_Jo_nodeFor {p1 : Int32} {p2 : Int32} {p3 : Int32} {M : QM} {res : Int32 × QM} (h : Jo_nodeFor p1 p2 p3 M = some res) : Fr [3, 4, 5, 18, 19, 20, 21, 22, 23] M ((fun z => z.2) res) := by
  unfold Jo_nodeFor at h
  obtain ⟨q1, hq1, h⟩ := bd_some h
  obtain ⟨q2, hq2, h⟩ := bd_some h
  by_cases hb : q1 = 0
  · have h := ite_t hb h
    by_cases hb : q2 = 0
    · have h := ite_t hb h
      obtain ⟨q3, hq3, h⟩ := bd_some h
      by_cases hb : q3 = (-6 : Int32)
      · have h := ite_t hb h
        obtain ⟨q4, hq4, h⟩ := bd_some h
        have fq4 := Fr.tr (T := [3, 4, 5, 18, 19, 20, 21, 22, 23]) Fr.rf (Fr.sub (F_Jo_begin hq4) (by decide))
        cases h
        exact fq4
      · have h := ite_f hb h
        cases h
        exact Fr.rf
    · have h := ite_f hb h
      exact Fr.tr (T := [3, 4, 5, 18, 19, 20, 21, 22, 23]) Fr.rf (F_Jo_nodeFor_J32 h)
  · have h := ite_f hb h
    exact Fr.tr (T := [3, 4, 5, 18, 19, 20, 21, 22, 23]) Fr.rf (F_Jo_nodeFor_J32 h)

set_option maxRecDepth 20000 in
theorem F_Jo_partFor_J126 {x1 : Int32} {x3 : Int32} {x4 : Int32} {M : QM} {res : Int32 × QM} (h : Jo_partFor_J126 x1 x3 x4 M = some res) : Fr [3, 4, 5, 18, 19, 20, 21, 22, 23] M ((fun z => z.2) res) := by
  unfold Jo_partFor_J126 at h
  obtain ⟨q7, hq7, h⟩ := bd_some h
  have h := (ck_some h).2
  obtain ⟨q9, hq9, h⟩ := bd_some h
  by_cases hb : q9 = 0
  · have h := ite_t hb h
    cases h
    exact Fr.rf
  · have h := ite_f hb h
    cases h
    exact Fr.rf

set_option maxRecDepth 20000 in
theorem F_Jo_partFor_J122 {s0 : Int32} {s1 : Int32} {s2 : Int32} {M : QM} {res : Int32 × QM} (h : Jo_partFor_J122 s0 s1 s2 M = some res) : Fr [3, 4, 5, 18, 19, 20, 21, 22, 23] M ((fun z => z.2) res) := by
  unfold Jo_partFor_J122 at h
  obtain ⟨q12, hq12, h⟩ := bd_some h
  have fq12 := Fr.tr (T := [3, 4, 5, 18, 19, 20, 21, 22, 23]) Fr.rf (Fr.sub (F_Jo_nodeFor hq12) (by decide))
  cases h
  exact fq12

set_option maxRecDepth 20000 in
theorem F_Jo_partFor_J93 {x1 : Int32} {x3 : Int32} {x4 : Int32} {s0 : Int32} {M : QM} {res : Int32 × QM} (h : Jo_partFor_J93 x1 x3 x4 s0 M = some res) : Fr [3, 4, 5, 18, 19, 20, 21, 22, 23] M ((fun z => z.2) res) := by
  unfold Jo_partFor_J93 at h
  by_cases hb : s0 = 0
  · have h := ite_t hb h
    have h := (ck_some h).2
    exact Fr.tr (T := [3, 4, 5, 18, 19, 20, 21, 22, 23]) Fr.rf (F_Jo_partFor_J122 h)
  · have h := ite_f hb h
    have h := (ck_some h).2
    obtain ⟨q14, hq14, h⟩ := bd_some h
    exact Fr.tr (T := [3, 4, 5, 18, 19, 20, 21, 22, 23]) Fr.rf (F_Jo_partFor_J122 h)

set_option maxRecDepth 20000 in
theorem F_Jo_partFor_J92 {x1 : Int32} {x3 : Int32} {x4 : Int32} {M : QM} {res : Int32 × QM} (h : Jo_partFor_J92 x1 x3 x4 M = some res) : Fr [3, 4, 5, 18, 19, 20, 21, 22, 23] M ((fun z => z.2) res) := by
  unfold Jo_partFor_J92 at h
  exact Fr.tr (T := [3, 4, 5, 18, 19, 20, 21, 22, 23]) Fr.rf (F_Jo_partFor_J93 h)

set_option maxRecDepth 20000 in
theorem F_Jo_partFor {p1 : Int32} {p2 : Int32} {M : QM} {res : Int32 × QM} (h : Jo_partFor p1 p2 M = some res) : Fr [3, 4, 5, 18, 19, 20, 21, 22, 23] M ((fun z => z.2) res) := by
  unfold Jo_partFor at h
  by_cases hb : p1 < 0
  · have h := ite_t hb h
    cases h
    exact Fr.rf
  · have h := ite_f hb h
    by_cases hb : (60 : Int32) ≤ p1
    · have h := ite_t hb h
      cases h
      exact Fr.rf
    · have h := ite_f hb h
      obtain ⟨q1, hq1, h⟩ := bd_some h
      obtain ⟨q2, hq2, h⟩ := bd_some h
      by_cases hb : q2 = 0
      · have h := ite_t hb h
        cases h
        exact Fr.rf
      · have h := ite_f hb h
        have h := (ck_some h).2
        obtain ⟨q4, hq4, h⟩ := bd_some h
        have h := (ck_some h).2
        obtain ⟨q6, hq6, h⟩ := bd_some h
        by_cases hb : q4 = (-6 : Int32)
        · have h := ite_t hb h
          exact Fr.tr (T := [3, 4, 5, 18, 19, 20, 21, 22, 23]) Fr.rf (F_Jo_partFor_J126 h)
        · have h := ite_f hb h
          by_cases hb : q6 = (-6 : Int32)
          · have h := ite_t hb h
            exact Fr.tr (T := [3, 4, 5, 18, 19, 20, 21, 22, 23]) Fr.rf (F_Jo_partFor_J126 h)
          · have h := ite_f hb h
            obtain ⟨q10, hq10, h⟩ := bd_some h
            by_cases hb : q10 = (62 : Int32)
            · have h := ite_t hb h
              by_cases hb : p2 = 0
              · have h := ite_t hb h
                exact Fr.tr (T := [3, 4, 5, 18, 19, 20, 21, 22, 23]) Fr.rf (F_Jo_partFor_J93 h)
              · have h := ite_f hb h
                exact Fr.tr (T := [3, 4, 5, 18, 19, 20, 21, 22, 23]) Fr.rf (F_Jo_partFor_J92 h)
            · have h := ite_f hb h
              exact Fr.tr (T := [3, 4, 5, 18, 19, 20, 21, 22, 23]) Fr.rf (F_Jo_partFor_J92 h)

set_option maxRecDepth 20000 in
theorem F_Jo_goOn_J54 {M : QM} {res : QM} (h : Jo_goOn_J54 M = some res) : Fr [3, 4, 5, 6, 18, 19, 20, 21, 22, 23] M ((fun z => z) res) := by
  unfold Jo_goOn_J54 at h
  cases h
  exact (Fr.i 18 Fr.rf (by decide))

set_option maxRecDepth 20000 in
theorem F_Jo_goOn_J32 {s0 : Int32} {M : QM} {res : QM} (h : Jo_goOn_J32 s0 M = some res) : Fr [3, 4, 5, 6, 18, 19, 20, 21, 22, 23] M ((fun z => z) res) := by
  unfold Jo_goOn_J32 at h
  by_cases hb : s0 < 0
  · have h := ite_t hb h
    exact Fr.tr (T := [3, 4, 5, 6, 18, 19, 20, 21, 22, 23]) Fr.rf (F_Jo_goOn_J54 h)
  · have h := ite_f hb h
    by_cases hb : (60 : Int32) ≤ s0
    · have h := ite_t hb h
      exact Fr.tr (T := [3, 4, 5, 6, 18, 19, 20, 21, 22, 23]) Fr.rf (F_Jo_goOn_J54 h)
    · have h := ite_f hb h
      have h := (ck_some h).2
      by_cases hb : (M.1 22 s0.toNatClampNeg) < (8 : Int32)
      · have h := ite_t hb h
        have h := (ck_some h).2
        have h := (ck_some h).2
        have h := (ck_some h).2
        obtain ⟨q5, hq5, h⟩ := bd_some h
        have fq5 := Fr.tr (T := [3, 4, 5, 6, 18, 19, 20, 21, 22, 23]) (Fr.i 22 Fr.rf (by decide)) (Fr.sub (F_Jo_partFor hq5) (by decide))
        by_cases hb : q5.1 = (-6 : Int32)
        · have h := ite_t hb h
          cases h
          exact fq5
        · have h := ite_f hb h
          obtain ⟨q6, hq6, h⟩ := bd_some h
          have fq6 := Fr.tr (T := [3, 4, 5, 6, 18, 19, 20, 21, 22, 23]) fq5 (Fr.sub (F_Ne_setPart hq6) (by decide))
          cases h
          exact fq6
      · have h := ite_f hb h
        exact Fr.tr (T := [3, 4, 5, 6, 18, 19, 20, 21, 22, 23]) Fr.rf (F_Jo_goOn_J54 h)

set_option maxRecDepth 20000 in
theorem F_Jo_goOn_J30 {M : QM} {res : QM} (h : Jo_goOn_J30 M = some res) : Fr [3, 4, 5, 6, 18, 19, 20, 21, 22, 23] M ((fun z => z) res) := by
  unfold Jo_goOn_J30 at h
  exact Fr.tr (T := [3, 4, 5, 6, 18, 19, 20, 21, 22, 23]) Fr.rf (F_Jo_goOn_J32 h)

set_option maxRecDepth 20000 in
theorem F_Jo_goOn {M : QM} {res : QM} (h : Jo_goOn M = some res) : Fr [3, 4, 5, 6, 18, 19, 20, 21, 22, 23] M ((fun z => z) res) := by
  unfold Jo_goOn at h
  by_cases hb : (M.1 18 7) ≤ 0
  · have h := ite_t hb h
    exact Fr.tr (T := [3, 4, 5, 6, 18, 19, 20, 21, 22, 23]) Fr.rf (F_Jo_goOn_J30 h)
  · have h := ite_f hb h
    by_cases hb : (60 : Int32) < (M.1 18 7)
    · have h := ite_t hb h
      exact Fr.tr (T := [3, 4, 5, 6, 18, 19, 20, 21, 22, 23]) Fr.rf (F_Jo_goOn_J30 h)
    · have h := ite_f hb h
      have h := (ck_some h).2
      exact Fr.tr (T := [3, 4, 5, 6, 18, 19, 20, 21, 22, 23]) Fr.rf (F_Jo_goOn_J32 h)

set_option maxRecDepth 20000 in
theorem F_Jo_joined_B45 {x4 : Int32} {x5 : Int32} {v : Int32 × QM} {res : (QM) ⊕ (Int32 × QM)} (h : Jo_joined_B45 x4 x5 v = some res) : Fr [3, 4, 5, 6, 14, 15, 18, 19, 20, 21, 22, 23] v.2 ((Sum.elim (fun z => z) (fun z => z.2)) res) := by
  unfold Jo_joined_B45 at h
  by_cases hb : x5 ≤ v.1
  · have h := ite_t hb h
    cases h
    exact Fr.rf
  · have h := ite_f hb h
    by_cases hb : (v.2.1 18 7) ≤ 0
    · have h := ite_t hb h
      cases h
      exact Fr.rf
    · have h := ite_f hb h
      by_cases hb : (v.2.1 18 9) = 0
      · have h := ite_t hb h
        obtain ⟨q4, hq4, h⟩ := bd_some h
        have fq4 := Fr.tr (T := [3, 4, 5, 6, 14, 15, 18, 19, 20, 21, 22, 23]) Fr.rf (Fr.sub (F_Jo_goOn hq4) (by decide))
        cases h
        exact fq4
      · have h := ite_f hb h
        cases h
        exact Fr.rf

theorem F_Jo_joined_B45_L {x4 : Int32} {x5 : Int32}  {v : Int32 × QM} {k : Nat} {e : QM} (h : iter (Jo_joined_B45 x4 x5) k v = some e) : Fr [3, 4, 5, 6, 14, 15, 18, 19, 20, 21, 22, 23] ((fun v => v.2) v) ((fun z => z) e) :=
  iter_Fr (Ga := (fun v => v.2)) (Gb := (fun z => z)) (fun a res hB => F_Jo_joined_B45 hB) k v e h

set_option maxRecDepth 20000 in
theorem F_Jo_joined_J76 {x4 : Int32} {M : QM} {res : Int32 × QM} (h : Jo_joined_J76 x4 M = some res) : Fr [3, 4, 5, 6, 14, 15, 18, 19, 20, 21, 22, 23] M ((fun z => z.2) res) := by
  unfold Jo_joined_J76 at h
  by_cases hb : (M.1 18 9) = 0
  · have h := ite_t hb h
    cases h
    exact Fr.rf
  · have h := ite_f hb h
    obtain ⟨q6, hq6, h⟩ := bd_some h
    have fq6 := Fr.tr (T := [3, 4, 5, 6, 14, 15, 18, 19, 20, 21, 22, 23]) Fr.rf (Fr.sub (F_Ne_dropFrom hq6) (by decide))
    cases h
    exact fq6

set_option maxRecDepth 20000 in
theorem F_Jo_joined {p1 : Int32} {p2 : Int32} {p3 : Int32} {M : QM} {res : Int32 × QM} (h : Jo_joined p1 p2 p3 M = some res) : Fr [3, 4, 5, 6, 14, 15, 18, 19, 20, 21, 22, 23] M ((fun z => z.2) res) := by
  unfold Jo_joined at h
  obtain ⟨q1, hq1, h⟩ := bd_some h
  have fq1 := Fr.tr (T := [3, 4, 5, 6, 14, 15, 18, 19, 20, 21, 22, 23]) Fr.rf (Fr.sub (F_St_catchUp hq1) (by decide))
  obtain ⟨q2, hq2, h⟩ := bd_some h
  obtain ⟨q3, hq3, h⟩ := bd_some h
  have fq3 := Fr.tr (T := [3, 4, 5, 6, 14, 15, 18, 19, 20, 21, 22, 23]) (Fr.i 18 (Fr.i 18 (Fr.i 18 fq1 (by decide)) (by decide)) (by decide)) (Fr.sub (F_Jo_nodeFor hq3) (by decide))
  obtain ⟨e5, he5, h⟩ := bd_some h
  have fe5 := F_Jo_joined_B45_L he5
  have fe5 := Fr.tr (T := [3, 4, 5, 6, 14, 15, 18, 19, 20, 21, 22, 23]) fq3 fe5
  exact Fr.tr (T := [3, 4, 5, 6, 14, 15, 18, 19, 20, 21, 22, 23]) fe5 (F_Jo_joined_J76 h)

