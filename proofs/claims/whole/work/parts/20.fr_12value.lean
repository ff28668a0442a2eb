set_option maxRecDepth 20000 in
theorem F_Va_noteMisfit {p1 : Int32} {M : QM} {res : QM} (h : Va_noteMisfit p1 M = some res) : Fr [24] M ((fun z => z) res) := by
  unfold Va_noteMisfit at h
  by_cases hb : (M.1 24 9) = (-6 : Int32)
  · have h := ite_t hb h
    cases h
    exact (Fr.i 24 Fr.rf (by decide))
  · have h := ite_f hb h
    cases h
    exact Fr.rf

set_option maxRecDepth 20000 in
theorem F_Va_nodeHeldAgainst {p1 : Int32} {p2 : Int32} {M : QM} {res : Int32 × QM} (h : Va_nodeHeldAgainst p1 p2 M = some res) : Fr [24] M ((fun z => z.2) res) := by
  unfold Va_nodeHeldAgainst at h
  by_cases hb : (M.1 24 7) = (-7 : Int32)
  · have h := ite_t hb h
    cases h
    exact Fr.rf
  · have h := ite_f hb h
    obtain ⟨q1, hq1, h⟩ := bd_some h
    by_cases hb : q1 = (46 : Int32)
    · have h := ite_t hb h
      cases h
      exact Fr.rf
    · have h := ite_f hb h
      obtain ⟨q2, hq2, h⟩ := bd_some h
      by_cases hb : q2 = p1
      · have h := ite_t hb h
        cases h
        exact Fr.rf
      · have h := ite_f hb h
        obtain ⟨q3, hq3, h⟩ := bd_some h
        have fq3 := Fr.tr (T := [24]) Fr.rf (Fr.sub (F_Va_noteMisfit hq3) (by decide))
        cases h
        exact fq3

set_option maxRecDepth 20000 in
theorem F_Va_endValue_J62 {s0 : Int32} {M : QM} {res : Int32 × QM} (h : Va_endValue_J62 s0 M = some res) : Fr [24] M ((fun z => z.2) res) := by
  unfold Va_endValue_J62 at h
  cases h
  exact (Fr.i 24 Fr.rf (by decide))

set_option maxRecDepth 20000 in
theorem F_Va_endValue {M : QM} {res : Int32 × QM} (h : Va_endValue M = some res) : Fr [24] M ((fun z => z.2) res) := by
  unfold Va_endValue at h
  obtain ⟨q1, hq1, h⟩ := bd_some h
  by_cases hb : q1 = 0
  · have h := ite_t hb h
    cases h
    exact (Fr.i 24 Fr.rf (by decide))
  · have h := ite_f hb h
    have h := (ck_some h).2
    by_cases hb : (M.1 25 ((M.1 24 5) - (1 : Int32)).toNatClampNeg) = (123 : Int32)
    · have h := ite_t hb h
      cases h
      exact (Fr.i 24 Fr.rf (by decide))
    · have h := ite_f hb h
      have h := (ck_some h).2
      by_cases hb : (M.1 25 ((M.1 24 5) - (1 : Int32)).toNatClampNeg) = (91 : Int32)
      · have h := ite_t hb h
        exact Fr.tr (T := [24]) Fr.rf (F_Va_endValue_J62 h)
      · have h := ite_f hb h
        exact Fr.tr (T := [24]) Fr.rf (F_Va_endValue_J62 h)

set_option maxRecDepth 20000 in
theorem F_Va_openValue_J84 {s0 : Int32} {M : QM} {res : Int32 × QM} (h : Va_openValue_J84 s0 M = some res) : Fr [24, 25, 26, 27] M ((fun z => z.2) res) := by
  unfold Va_openValue_J84 at h
  cases h
  exact (Fr.i 24 Fr.rf (by decide))

set_option maxRecDepth 20000 in
theorem F_Va_openValue {p1 : Int32} {p2 : Int32} {M : QM} {res : Int32 × QM} (h : Va_openValue p1 p2 M = some res) : Fr [24, 25, 26, 27] M ((fun z => z.2) res) := by
  unfold Va_openValue at h
  by_cases hb : (M.1 24 5) < 0
  · have h := ite_t hb h
    cases h
    exact Fr.rf
  · have h := ite_f hb h
    by_cases hb : (M.1 24 5) < (100 : Int32)
    · have h := ite_t hb h
      have h := (ck_some h).2
      have h := (ck_some h).2
      have h := (ck_some h).2
      by_cases hb : p1 = (123 : Int32)
      · have h := ite_t hb h
        cases h
        exact (Fr.i 24 (Fr.i 24 (Fr.i 27 (Fr.i 26 (Fr.i 25 Fr.rf (by decide)) (by decide)) (by decide)) (by decide)) (by decide))
      · have h := ite_f hb h
        by_cases hb : p1 = (91 : Int32)
        · have h := ite_t hb h
          exact Fr.tr (T := [24, 25, 26, 27]) (Fr.i 24 (Fr.i 27 (Fr.i 26 (Fr.i 25 Fr.rf (by decide)) (by decide)) (by decide)) (by decide)) (F_Va_openValue_J84 h)
        · have h := ite_f hb h
          exact Fr.tr (T := [24, 25, 26, 27]) (Fr.i 24 (Fr.i 27 (Fr.i 26 (Fr.i 25 Fr.rf (by decide)) (by decide)) (by decide)) (by decide)) (F_Va_openValue_J84 h)
    · have h := ite_f hb h
      cases h
      exact Fr.rf

set_option maxRecDepth 20000 in
theorem F_Va_beginValue_J43 {M : QM} {res : Int32 × QM} (h : Va_beginValue_J43 M = some res) : Fr [24, 25, 26, 27] M ((fun z => z.2) res) := by
  unfold Va_beginValue_J43 at h
  obtain ⟨q3, hq3, h⟩ := bd_some h
  have fq3 := Fr.tr (T := [24, 25, 26, 27]) Fr.rf (Fr.sub (F_Va_endValue hq3) (by decide))
  have h := (ck_some h).2
  cases h
  exact fq3

set_option maxRecDepth 20000 in
theorem F_Va_beginValue {p1 : Int32} {p2 : Int32} {M : QM} {res : Int32 × QM} (h : Va_beginValue p1 p2 M = some res) : Fr [24, 25, 26, 27] M ((fun z => z.2) res) := by
  unfold Va_beginValue at h
  obtain ⟨q1, hq1, h⟩ := bd_some h
  by_cases hb : q1 = (-6 : Int32)
  · have h := ite_t hb h
    cases h
    exact Fr.rf
  · have h := ite_f hb h
    obtain ⟨q2, hq2, h⟩ := bd_some h
    have fq2 := Fr.tr (T := [24, 25, 26, 27]) (Fr.i 24 Fr.rf (by decide)) (Fr.sub (F_Va_nodeHeldAgainst hq2) (by decide))
    by_cases hb : q1 = (110 : Int32)
    · have h := ite_t hb h
      exact Fr.tr (T := [24, 25, 26, 27]) fq2 (F_Va_beginValue_J43 h)
    · have h := ite_f hb h
      by_cases hb : q1 = (116 : Int32)
      · have h := ite_t hb h
        exact Fr.tr (T := [24, 25, 26, 27]) fq2 (F_Va_beginValue_J43 h)
      · have h := ite_f hb h
        by_cases hb : q1 = (115 : Int32)
        · have h := ite_t hb h
          cases h
          exact (Fr.i 24 fq2 (by decide))
        · have h := ite_f hb h
          obtain ⟨q5, hq5, h⟩ := bd_some h
          have fq5 := Fr.tr (T := [24, 25, 26, 27]) fq2 (Fr.sub (F_Va_openValue hq5) (by decide))
          have h := (ck_some h).2
          cases h
          exact fq5

set_option maxRecDepth 20000 in
theorem F_Va_closeValue_J17 {M : QM} {res : Int32 × QM} (h : Va_closeValue_J17 M = some res) : Fr [24] M ((fun z => z.2) res) := by
  unfold Va_closeValue_J17 at h
  obtain ⟨q1, hq1, h⟩ := bd_some h
  have fq1 := Fr.tr (T := [24]) Fr.rf (Fr.sub (F_Va_endValue hq1) (by decide))
  have h := (ck_some h).2
  cases h
  exact fq1

set_option maxRecDepth 20000 in
theorem F_Va_closeValue {M : QM} {res : Int32 × QM} (h : Va_closeValue M = some res) : Fr [24] M ((fun z => z.2) res) := by
  unfold Va_closeValue at h
  by_cases hb : (M.1 24 5) ≤ 0
  · have h := ite_t hb h
    exact Fr.tr (T := [24]) Fr.rf (F_Va_closeValue_J17 h)
  · have h := ite_f hb h
    exact Fr.tr (T := [24]) (Fr.i 24 Fr.rf (by decide)) (F_Va_closeValue_J17 h)

set_option maxRecDepth 20000 in
theorem F_Va_readItem {p1 : Int32} {p2 : Int32} {M : QM} {res : Int32 × QM} (h : Va_readItem p1 p2 M = some res) : Fr [24, 25, 26, 27] M ((fun z => z.2) res) := by
  unfold Va_readItem at h
  by_cases hb : p1 = (41 : Int32)
  · have h := ite_t hb h
    obtain ⟨q4, hq4, h⟩ := bd_some h
    have fq4 := Fr.tr (T := [24, 25, 26, 27]) Fr.rf (Fr.sub (F_Va_closeValue hq4) (by decide))
    have h := (ck_some h).2
    cases h
    exact fq4
  · have h := ite_f hb h
    obtain ⟨q1, hq1, h⟩ := bd_some h
    obtain ⟨q2, hq2, h⟩ := bd_some h
    have fq2 := Fr.tr (T := [24, 25, 26, 27]) (Fr.i 24 Fr.rf (by decide)) (Fr.sub (F_Va_beginValue hq2) (by decide))
    have h := (ck_some h).2
    cases h
    exact fq2

set_option maxRecDepth 20000 in
theorem F_Va_readField_J48 {M : QM} {res : Int32 × QM} (h : Va_readField_J48 M = some res) : Fr [24, 27] M ((fun z => z.2) res) := by
  unfold Va_readField_J48 at h
  obtain ⟨q9, hq9, h⟩ := bd_some h
  have fq9 := Fr.tr (T := [24, 27]) Fr.rf (Fr.sub (F_Va_closeValue hq9) (by decide))
  have h := (ck_some h).2
  cases h
  exact fq9

set_option maxRecDepth 20000 in
theorem F_Va_readField {p1 : Int32} {p2 : Int32} {M : QM} {res : Int32 × QM} (h : Va_readField p1 p2 M = some res) : Fr [24, 27] M ((fun z => z.2) res) := by
  unfold Va_readField at h
  obtain ⟨q1, hq1, h⟩ := bd_some h
  by_cases hb : q1 = 0
  · have h := ite_t hb h
    cases h
    exact Fr.rf
  · have h := ite_f hb h
    by_cases hb : p1 = (125 : Int32)
    · have h := ite_t hb h
      obtain ⟨q6, hq6, h⟩ := bd_some h
      obtain ⟨q7, hq7, h⟩ := bd_some h
      have h := (ck_some h).2
      by_cases hb : (q7 &&& ((M.1 27 ((M.1 24 5) - (1 : Int32)).toNatClampNeg) ^^^ (-1 : Int32))) = 0
      · have h := ite_t hb h
        exact Fr.tr (T := [24, 27]) Fr.rf (F_Va_readField_J48 h)
      · have h := ite_f hb h
        obtain ⟨q11, hq11, h⟩ := bd_some h
        have fq11 := Fr.tr (T := [24, 27]) Fr.rf (Fr.sub (F_Va_noteMisfit hq11) (by decide))
        exact Fr.tr (T := [24, 27]) fq11 (F_Va_readField_J48 h)
    · have h := ite_f hb h
      by_cases hb : (p1 - (97 : Int32)) < 0
      · have h := ite_t hb h
        cases h
        exact Fr.rf
      · have h := ite_f hb h
        by_cases hb : (8 : Int32) ≤ (p1 - (97 : Int32))
        · have h := ite_t hb h
          cases h
          exact Fr.rf
        · have h := ite_f hb h
          have h := (ck_some h).2
          by_cases hb : ((M.1 27 ((M.1 24 5) - (1 : Int32)).toNatClampNeg) >>> ((p1 - (97 : Int32)) &&& 31)) = 0
          · have h := ite_t hb h
            have h := (ck_some h).2
            have h := (ck_some h).2
            obtain ⟨q5, hq5, h⟩ := bd_some h
            cases h
            exact (Fr.i 24 (Fr.i 24 (Fr.i 27 Fr.rf (by decide)) (by decide)) (by decide))
          · have h := ite_f hb h
            cases h
            exact Fr.rf

set_option maxRecDepth 20000 in
theorem F_Va_readCase_J51 {M : QM} {res : Int32 × QM} (h : Va_readCase_J51 M = some res) : Fr [24] M ((fun z => z.2) res) := by
  unfold Va_readCase_J51 at h
  cases h
  exact (Fr.i 24 Fr.rf (by decide))

set_option maxRecDepth 20000 in
theorem F_Va_readCase {p1 : Int32} {p2 : Int32} {M : QM} {res : Int32 × QM} (h : Va_readCase p1 p2 M = some res) : Fr [24] M ((fun z => z.2) res) := by
  unfold Va_readCase at h
  by_cases hb : (p1 - (97 : Int32)) < 0
  · have h := ite_t hb h
    cases h
    exact Fr.rf
  · have h := ite_f hb h
    by_cases hb : (p1 - (97 : Int32)) < (8 : Int32)
    · have h := ite_t hb h
      obtain ⟨q1, hq1, h⟩ := bd_some h
      obtain ⟨q2, hq2, h⟩ := bd_some h
      by_cases hb : q2 = (-7 : Int32)
      · have h := ite_t hb h
        exact Fr.tr (T := [24]) (Fr.i 24 Fr.rf (by decide)) (F_Va_readCase_J51 h)
      · have h := ite_f hb h
        by_cases hb : ((u_i M 24 7 q1).1 24 7) = (-7 : Int32)
        · have h := ite_t hb h
          obtain ⟨q3, hq3, h⟩ := bd_some h
          have fq3 := Fr.tr (T := [24]) (Fr.i 24 Fr.rf (by decide)) (Fr.sub (F_Va_noteMisfit hq3) (by decide))
          exact Fr.tr (T := [24]) fq3 (F_Va_readCase_J51 h)
        · have h := ite_f hb h
          exact Fr.tr (T := [24]) (Fr.i 24 Fr.rf (by decide)) (F_Va_readCase_J51 h)
    · have h := ite_f hb h
      cases h
      exact Fr.rf

set_option maxRecDepth 20000 in
theorem F_Va_goesOn {p1 : Int32} {p2 : Int32} {M : QM} {res : Int32 × QM} (h : Va_goesOn p1 p2 M = some res) : Fr [24, 25, 26, 27] M ((fun z => z.2) res) := by
  unfold Va_goesOn at h
  by_cases hb : (M.1 24 6) = 0
  · have h := ite_t hb h
    obtain ⟨q1, hq1, h⟩ := bd_some h
    have fq1 := Fr.tr (T := [24, 25, 26, 27]) Fr.rf (Fr.sub (F_Va_beginValue hq1) (by decide))
    have h := (ck_some h).2
    cases h
    exact fq1
  · have h := ite_f hb h
    by_cases hb : (M.1 24 6) = 1
    · have h := ite_t hb h
      obtain ⟨q4, hq4, h⟩ := bd_some h
      have fq4 := Fr.tr (T := [24, 25, 26, 27]) Fr.rf (Fr.sub (F_Va_readItem hq4) (by decide))
      have h := (ck_some h).2
      cases h
      exact fq4
    · have h := ite_f hb h
      by_cases hb : (M.1 24 6) = 2
      · have h := ite_t hb h
        obtain ⟨q7, hq7, h⟩ := bd_some h
        have fq7 := Fr.tr (T := [24, 25, 26, 27]) Fr.rf (Fr.sub (F_Va_readField hq7) (by decide))
        have h := (ck_some h).2
        cases h
        exact fq7
      · have h := ite_f hb h
        by_cases hb : (M.1 24 6) = 3
        · have h := ite_t hb h
          obtain ⟨q10, hq10, h⟩ := bd_some h
          have fq10 := Fr.tr (T := [24, 25, 26, 27]) Fr.rf (Fr.sub (F_Va_readCase hq10) (by decide))
          have h := (ck_some h).2
          cases h
          exact fq10
        · have h := ite_f hb h
          by_cases hb : (M.1 24 6) = 4
          · have h := ite_t hb h
            by_cases hb : p1 = (93 : Int32)
            · have h := ite_t hb h
              obtain ⟨q13, hq13, h⟩ := bd_some h
              have fq13 := Fr.tr (T := [24, 25, 26, 27]) Fr.rf (Fr.sub (F_Va_closeValue hq13) (by decide))
              by_cases hb : q13.1 = 0
              · have h := ite_t hb h
                cases h
                exact fq13
              · have h := ite_f hb h
                cases h
                exact fq13
            · have h := ite_f hb h
              cases h
              exact Fr.rf
          · have h := ite_f hb h
            by_cases hb : (M.1 24 6) = 5
            · have h := ite_t hb h
              by_cases hb : p1 < (97 : Int32)
              · have h := ite_t hb h
                cases h
                exact Fr.rf
              · have h := ite_f hb h
                by_cases hb : (122 : Int32) < p1
                · have h := ite_t hb h
                  cases h
                  exact Fr.rf
                · have h := ite_f hb h
                  obtain ⟨q15, hq15, h⟩ := bd_some h
                  have fq15 := Fr.tr (T := [24, 25, 26, 27]) Fr.rf (Fr.sub (F_Va_endValue hq15) (by decide))
                  by_cases hb : q15.1 = 0
                  · have h := ite_t hb h
                    cases h
                    exact fq15
                  · have h := ite_f hb h
                    cases h
                    exact fq15
            · have h := ite_f hb h
              cases h
              exact Fr.rf

set_option maxRecDepth 20000 in
theorem F_Va_read_B28 {v : Int32 × QM} {res : ((Int32 × QM) ⊕ (QM)) ⊕ (Int32 × QM)} (h : Va_read_B28 v = some res) : Fr [24, 25, 26, 27] v.2 ((Sum.elim (Sum.elim (fun z => z.2) (fun z => z)) (fun z => z.2)) res) := by
  unfold Va_read_B28 at h
  obtain ⟨q1, hq1, h⟩ := bd_some h
  by_cases hb : q1 ≤ v.1
  · have h := ite_t hb h
    cases h
    exact Fr.rf
  · have h := ite_f hb h
    obtain ⟨q2, hq2, h⟩ := bd_some h
    obtain ⟨q3, hq3, h⟩ := bd_some h
    have fq3 := Fr.tr (T := [24, 25, 26, 27]) Fr.rf (Fr.sub (F_Va_goesOn hq3) (by decide))
    by_cases hb : q3.1 = 0
    · have h := ite_t hb h
      cases h
      exact fq3
    · have h := ite_f hb h
      cases h
      exact fq3

theorem F_Va_read_B28_L  {v : Int32 × QM} {k : Nat} {e : (Int32 × QM) ⊕ (QM)} (h : iter (Va_read_B28) k v = some e) : Fr [24, 25, 26, 27] ((fun v => v.2) v) ((Sum.elim (fun z => z.2) (fun z => z)) e) :=
  iter_Fr (Ga := (fun v => v.2)) (Gb := (Sum.elim (fun z => z.2) (fun z => z))) (fun a res hB => F_Va_read_B28 hB) k v e h

set_option maxRecDepth 20000 in
theorem F_Va_read {p1 : Int32} {M : QM} {res : Int32 × QM} (h : Va_read p1 M = some res) : Fr [24, 25, 26, 27] M ((fun z => z.2) res) := by
  unfold Va_read at h
  obtain ⟨e4, he4, h⟩ := bd_some h
  have fe4 := F_Va_read_B28_L he4
  have fe4 := Fr.tr (T := [24, 25, 26, 27]) (Fr.i 24 (Fr.i 24 (Fr.i 24 (Fr.i 24 (Fr.i 24 Fr.rf (by decide)) (by decide)) (by decide)) (by decide)) (by decide)) fe4
  cases e4 with
  | inl r4 =>
    have h := sum_l h
    cases h
    exact fe4
  | inr y4 =>
    have h := sum_r h
    by_cases hb : (y4.1 24 6) = (6 : Int32)
    · have h := ite_t hb h
      cases h
      exact fe4
    · have h := ite_f hb h
      obtain ⟨q5, hq5, h⟩ := bd_some h
      cases h
      exact fe4

