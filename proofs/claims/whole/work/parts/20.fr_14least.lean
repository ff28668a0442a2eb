set_option maxRecDepth 20000 in
theorem F_Le_lessen_B6 {v : Int32 × Int32 × QM} {res : (Int32 × QM) ⊕ (Int32 × Int32 × QM)} (h : Le_lessen_B6 v = some res) : Fr [32] v.2.2 ((Sum.elim (fun z => z.2) (fun z => z.2.2)) res) := by
  unfold Le_lessen_B6 at h
  by_cases hb : v.2.1 < (v.2.2.1 31 2)
  · have h := ite_t hb h
    cases h
    exact Fr.rf
  · have h := ite_f hb h
    by_cases hb : v.2.1 < 0
    · have h := ite_t hb h
      cases h
      exact Fr.rf
    · have h := ite_f hb h
      obtain ⟨q1, hq1, h⟩ := bd_some h
      by_cases hb : (60 : Int32) ≤ v.2.1
      · have h := ite_t hb h
        cases h
        exact Fr.rf
      · have h := ite_f hb h
        have h := (ck_some h).2
        by_cases hb : (v.2.2.1 32 v.2.1.toNatClampNeg) ≤ (if q1 < (41 : Int32) then q1 else (41 : Int32))
        · have h := ite_t hb h
          cases h
          exact Fr.rf
        · have h := ite_f hb h
          have h := (ck_some h).2
          cases h
          exact (Fr.i 32 Fr.rf (by decide))

theorem F_Le_lessen_B6_L  {v : Int32 × Int32 × QM} {k : Nat} {e : Int32 × QM} (h : iter (Le_lessen_B6) k v = some e) : Fr [32] ((fun v => v.2.2) v) ((fun z => z.2) e) :=
  iter_Fr (Ga := (fun v => v.2.2)) (Gb := (fun z => z.2)) (fun a res hB => F_Le_lessen_B6 hB) k v e h

set_option maxRecDepth 20000 in
theorem F_Le_lessen {p1 : Int32} {M : QM} {res : Int32 × QM} (h : Le_lessen p1 M = some res) : Fr [32] M ((fun z => z.2) res) := by
  unfold Le_lessen at h
  obtain ⟨e4, he4, h⟩ := bd_some h
  have fe4 := F_Le_lessen_B6_L he4
  have fe4 := Fr.tr (T := [32]) Fr.rf fe4
  have h := (ck_some h).2
  cases h
  exact fe4

set_option maxRecDepth 20000 in
theorem F_Le_catchUp_B34 {x1 : Int32} {v : Int32 × QM} {res : (QM) ⊕ (Int32 × QM)} (h : Le_catchUp_B34 x1 v = some res) : Fr [31, 32] v.2 ((Sum.elim (fun z => z) (fun z => z.2)) res) := by
  unfold Le_catchUp_B34 at h
  by_cases hb : x1 ≤ v.1
  · have h := ite_t hb h
    cases h
    exact Fr.rf
  · have h := ite_f hb h
    have h := (ck_some h).2
    cases h
    exact (Fr.i 32 Fr.rf (by decide))

theorem F_Le_catchUp_B34_L {x1 : Int32}  {v : Int32 × QM} {k : Nat} {e : QM} (h : iter (Le_catchUp_B34 x1) k v = some e) : Fr [31, 32] ((fun v => v.2) v) ((fun z => z) e) :=
  iter_Fr (Ga := (fun v => v.2)) (Gb := (fun z => z)) (fun a res hB => F_Le_catchUp_B34 hB) k v e h

set_option maxRecDepth 20000 in
theorem F_Le_catchUp_B57 {x1 : Int32} {v : Int32 × Int32 × QM} {res : (QM) ⊕ (Int32 × Int32 × QM)} (h : Le_catchUp_B57 x1 v = some res) : Fr [31, 32] v.2.2 ((Sum.elim (fun z => z) (fun z => z.2.2)) res) := by
  unfold Le_catchUp_B57 at h
  by_cases hb : (2400 : Int32) ≤ v.2.1
  · have h := ite_t hb h
    cases h
    exact Fr.rf
  · have h := ite_f hb h
    by_cases hb : v.1 = 0
    · have h := ite_t hb h
      cases h
      exact Fr.rf
    · have h := ite_f hb h
      obtain ⟨q4, hq4, h⟩ := bd_some h
      have fq4 := Fr.tr (T := [31, 32]) Fr.rf (Fr.sub (F_Le_lessen hq4) (by decide))
      cases h
      exact fq4

theorem F_Le_catchUp_B57_L {x1 : Int32}  {v : Int32 × Int32 × QM} {k : Nat} {e : QM} (h : iter (Le_catchUp_B57 x1) k v = some e) : Fr [31, 32] ((fun v => v.2.2) v) ((fun z => z) e) :=
  iter_Fr (Ga := (fun v => v.2.2)) (Gb := (fun z => z)) (fun a res hB => F_Le_catchUp_B57 hB) k v e h

set_option maxRecDepth 20000 in
theorem F_Le_catchUp_J80 {x1 : Int32} {M : QM} {res : QM} (h : Le_catchUp_J80 x1 M = some res) : Fr [31, 32] M ((fun z => z) res) := by
  unfold Le_catchUp_J80 at h
  cases h
  exact (Fr.i 31 Fr.rf (by decide))

set_option maxRecDepth 20000 in
theorem F_Le_catchUp {M : QM} {res : QM} (h : Le_catchUp M = some res) : Fr [31, 32] M ((fun z => z) res) := by
  unfold Le_catchUp at h
  obtain ⟨q1, hq1, h⟩ := bd_some h
  by_cases hb : (M.1 31 2) < 0
  · have h := ite_t hb h
    cases h
    exact Fr.rf
  · have h := ite_f hb h
    by_cases hb : (M.1 31 2) < (if (60 : Int32) < q1 then (60 : Int32) else q1)
    · have h := ite_t hb h
      obtain ⟨e3, he3, h⟩ := bd_some h
      have fe3 := F_Le_catchUp_B34_L he3
      have fe3 := Fr.tr (T := [31, 32]) Fr.rf fe3
      obtain ⟨e5, he5, h⟩ := bd_some h
      have fe5 := F_Le_catchUp_B57_L he5
      have fe5 := Fr.tr (T := [31, 32]) fe3 fe5
      exact Fr.tr (T := [31, 32]) fe5 (F_Le_catchUp_J80 h)
    · have h := ite_f hb h
      cases h
      exact Fr.rf

set_option maxRecDepth 20000 in
theorem F_Le_emptyNodes {M : QM} {res : Int32 × QM} (h : Le_emptyNodes M = some res) : Fr [31, 32] M ((fun z => z.2) res) := by
  unfold Le_emptyNodes at h
  obtain ⟨q1, hq1, h⟩ := bd_some h
  have fq1 := Fr.tr (T := [31, 32]) Fr.rf (Fr.sub (F_Le_catchUp hq1) (by decide))
  obtain ⟨e4, he4, h⟩ := bd_some h
  cases h
  exact fq1

set_option maxRecDepth 20000 in
theorem F_Le_forget {M : QM} {res : QM} (h : Le_forget M = some res) : Fr [31] M ((fun z => z) res) := by
  unfold Le_forget at h
  cases h
  exact (Fr.i 31 Fr.rf (by decide))

set_option maxRecDepth 20000 in
theorem F_Le_leastOf {p1 : Int32} {M : QM} {res : Int32 × QM} (h : Le_leastOf p1 M = some res) : Fr [31, 32] M ((fun z => z.2) res) := by
  unfold Le_leastOf at h
  obtain ⟨q1, hq1, h⟩ := bd_some h
  have fq1 := Fr.tr (T := [31, 32]) Fr.rf (Fr.sub (F_Le_catchUp hq1) (by decide))
  obtain ⟨q2, hq2, h⟩ := bd_some h
  by_cases hb : q2 ≤ (40 : Int32)
  · have h := ite_t hb h
    obtain ⟨q3, hq3, h⟩ := bd_some h
    cases h
    exact fq1
  · have h := ite_f hb h
    cases h
    exact fq1

