set_option maxRecDepth 20000 in
theorem F_St_setSteps {p1 : Int32} {p2 : Int32} {p3 : Int32} {M : QM} {res : QM} (h : St_setSteps p1 p2 p3 M = some res) : Fr [15] M ((fun z => z) res) := by
  unfold St_setSteps at h
  by_cases hb : ((p1 * (60 : Int32)) + p2) < 0
  · have h := ite_t hb h
    cases h
    exact Fr.rf
  · have h := ite_f hb h
    by_cases hb : (3600 : Int32) ≤ ((p1 * (60 : Int32)) + p2)
    · have h := ite_t hb h
      cases h
      exact Fr.rf
    · have h := ite_f hb h
      have h := (ck_some h).2
      cases h
      exact (Fr.i 15 Fr.rf (by decide))

set_option maxRecDepth 20000 in
theorem F_St_startPairs_L24_J47 {x1 : Int32} {x2 : Int32} {x3 : Int32} {s0 : Int32} {s1 : Int32} {s2 : Int32} {M : QM} {res : (QM) ⊕ (Int32 × QM)} (h : St_startPairs_L24_J47 x1 x2 x3 s0 s1 s2 M = some res) : Fr [15] M ((Sum.elim (fun z => z) (fun z => z.2)) res) := by
  unfold St_startPairs_L24_J47 at h
  obtain ⟨q2, hq2, h⟩ := bd_some h
  have fq2 := Fr.tr (T := [15]) Fr.rf (Fr.sub (F_St_setSteps hq2) (by decide))
  cases h
  exact fq2

set_option maxRecDepth 20000 in
theorem F_St_startPairs_B24 {x1 : Int32} {x2 : Int32} {v : Int32 × QM} {res : (QM) ⊕ (Int32 × QM)} (h : St_startPairs_B24 x1 x2 v = some res) : Fr [15] v.2 ((Sum.elim (fun z => z) (fun z => z.2)) res) := by
  unfold St_startPairs_B24 at h
  by_cases hb : x1 ≤ v.1
  · have h := ite_t hb h
    cases h
    exact Fr.rf
  · have h := ite_f hb h
    obtain ⟨q1, hq1, h⟩ := bd_some h
    by_cases hb : q1 = 0
    · have h := ite_t hb h
      exact Fr.tr (T := [15]) Fr.rf (F_St_startPairs_L24_J47 h)
    · have h := ite_f hb h
      exact Fr.tr (T := [15]) Fr.rf (F_St_startPairs_L24_J47 h)

theorem F_St_startPairs_B24_L {x1 : Int32} {x2 : Int32}  {v : Int32 × QM} {k : Nat} {e : QM} (h : iter (St_startPairs_B24 x1 x2) k v = some e) : Fr [15] ((fun v => v.2) v) ((fun z => z) e) :=
  iter_Fr (Ga := (fun v => v.2)) (Gb := (fun z => z)) (fun a res hB => F_St_startPairs_B24 hB) k v e h

set_option maxRecDepth 20000 in
theorem F_St_startPairs_L2_J23 {x1 : Int32} {x2 : Int32} {s0 : Int32} {M : QM} {res : (QM) ⊕ (Int32 × QM)} (h : St_startPairs_L2_J23 x1 x2 s0 M = some res) : Fr [15] M ((Sum.elim (fun z => z) (fun z => z.2)) res) := by
  unfold St_startPairs_L2_J23 at h
  obtain ⟨e3, he3, h⟩ := bd_some h
  have fe3 := F_St_startPairs_B24_L he3
  have fe3 := Fr.tr (T := [15]) Fr.rf fe3
  cases h
  exact fe3

set_option maxRecDepth 20000 in
theorem F_St_startPairs_B2 {x1 : Int32} {v : Int32 × QM} {res : (QM) ⊕ (Int32 × QM)} (h : St_startPairs_B2 x1 v = some res) : Fr [15] v.2 ((Sum.elim (fun z => z) (fun z => z.2)) res) := by
  unfold St_startPairs_B2 at h
  by_cases hb : x1 ≤ v.1
  · have h := ite_t hb h
    cases h
    exact Fr.rf
  · have h := ite_f hb h
    by_cases hb : (v.2.1 14 5) ≤ v.1
    · have h := ite_t hb h
      exact Fr.tr (T := [15]) Fr.rf (F_St_startPairs_L2_J23 h)
    · have h := ite_f hb h
      exact Fr.tr (T := [15]) Fr.rf (F_St_startPairs_L2_J23 h)

theorem F_St_startPairs_B2_L {x1 : Int32}  {v : Int32 × QM} {k : Nat} {e : QM} (h : iter (St_startPairs_B2 x1) k v = some e) : Fr [15] ((fun v => v.2) v) ((fun z => z) e) :=
  iter_Fr (Ga := (fun v => v.2)) (Gb := (fun z => z)) (fun a res hB => F_St_startPairs_B2 hB) k v e h

set_option maxRecDepth 20000 in
theorem F_St_startPairs {p1 : Int32} {M : QM} {res : QM} (h : St_startPairs p1 M = some res) : Fr [15] M ((fun z => z) res) := by
  unfold St_startPairs at h
  obtain ⟨e4, he4, h⟩ := bd_some h
  have fe4 := F_St_startPairs_B2_L he4
  have fe4 := Fr.tr (T := [15]) Fr.rf fe4
  cases h
  exact fe4

set_option maxRecDepth 20000 in
theorem F_St_shortenPairs_L33_J67 {x1 : Int32} {x2 : Int32} {x3 : Int32} {x4 : Int32} {x5 : Int32} {x6 : Int32} {s0 : Int32} {M : QM} {res : (Int32 × QM) ⊕ (Int32 × Int32 × QM)} (h : St_shortenPairs_L33_J67 x1 x2 x3 x4 x5 x6 s0 M = some res) : Fr [15] M ((Sum.elim (fun z => z.2) (fun z => z.2.2)) res) := by
  unfold St_shortenPairs_L33_J67 at h
  by_cases hb : x6 ≤ s0
  · have h := ite_t hb h
    cases h
    exact Fr.rf
  · have h := ite_f hb h
    obtain ⟨q3, hq3, h⟩ := bd_some h
    have fq3 := Fr.tr (T := [15]) Fr.rf (Fr.sub (F_St_setSteps hq3) (by decide))
    cases h
    exact fq3

set_option maxRecDepth 20000 in
theorem F_St_shortenPairs_B33 {x1 : Int32} {x3 : Int32} {x4 : Int32} {v : Int32 × Int32 × QM} {res : (Int32 × QM) ⊕ (Int32 × Int32 × QM)} (h : St_shortenPairs_B33 x1 x3 x4 v = some res) : Fr [15] v.2.2 ((Sum.elim (fun z => z.2) (fun z => z.2.2)) res) := by
  unfold St_shortenPairs_B33 at h
  by_cases hb : v.2.1 < x4
  · have h := ite_t hb h
    cases h
    exact Fr.rf
  · have h := ite_f hb h
    obtain ⟨q1, hq1, h⟩ := bd_some h
    by_cases hb : q1 = 0
    · have h := ite_t hb h
      exact Fr.tr (T := [15]) Fr.rf (F_St_shortenPairs_L33_J67 h)
    · have h := ite_f hb h
      obtain ⟨q2, hq2, h⟩ := bd_some h
      exact Fr.tr (T := [15]) Fr.rf (F_St_shortenPairs_L33_J67 h)

theorem F_St_shortenPairs_B33_L {x1 : Int32} {x3 : Int32} {x4 : Int32}  {v : Int32 × Int32 × QM} {k : Nat} {e : Int32 × QM} (h : iter (St_shortenPairs_B33 x1 x3 x4) k v = some e) : Fr [15] ((fun v => v.2.2) v) ((fun z => z.2) e) :=
  iter_Fr (Ga := (fun v => v.2.2)) (Gb := (fun z => z.2)) (fun a res hB => F_St_shortenPairs_B33 hB) k v e h

set_option maxRecDepth 20000 in
theorem F_St_shortenPairs_L6_J26 {x1 : Int32} {x2 : Int32} {x3 : Int32} {s0 : Int32} {M : QM} {res : (Int32 × QM) ⊕ (Int32 × Int32 × QM)} (h : St_shortenPairs_L6_J26 x1 x2 x3 s0 M = some res) : Fr [15] M ((Sum.elim (fun z => z.2) (fun z => z.2.2)) res) := by
  unfold St_shortenPairs_L6_J26 at h
  obtain ⟨e4, he4, h⟩ := bd_some h
  have fe4 := F_St_shortenPairs_B33_L he4
  have fe4 := Fr.tr (T := [15]) Fr.rf fe4
  cases h
  exact fe4

set_option maxRecDepth 20000 in
theorem F_St_shortenPairs_B6 {x1 : Int32} {v : Int32 × Int32 × QM} {res : (Int32 × QM) ⊕ (Int32 × Int32 × QM)} (h : St_shortenPairs_B6 x1 v = some res) : Fr [15] v.2.2 ((Sum.elim (fun z => z.2) (fun z => z.2.2)) res) := by
  unfold St_shortenPairs_B6 at h
  by_cases hb : v.2.1 < 0
  · have h := ite_t hb h
    cases h
    exact Fr.rf
  · have h := ite_f hb h
    by_cases hb : (v.2.2.1 14 5) ≤ v.2.1
    · have h := ite_t hb h
      exact Fr.tr (T := [15]) Fr.rf (F_St_shortenPairs_L6_J26 h)
    · have h := ite_f hb h
      exact Fr.tr (T := [15]) Fr.rf (F_St_shortenPairs_L6_J26 h)

theorem F_St_shortenPairs_B6_L {x1 : Int32}  {v : Int32 × Int32 × QM} {k : Nat} {e : Int32 × QM} (h : iter (St_shortenPairs_B6 x1) k v = some e) : Fr [15] ((fun v => v.2.2) v) ((fun z => z.2) e) :=
  iter_Fr (Ga := (fun v => v.2.2)) (Gb := (fun z => z.2)) (fun a res hB => F_St_shortenPairs_B6 hB) k v e h

set_option maxRecDepth 20000 in
theorem F_St_shortenPairs {p1 : Int32} {M : QM} {res : Int32 × QM} (h : St_shortenPairs p1 M = some res) : Fr [15] M ((fun z => z.2) res) := by
  unfold St_shortenPairs at h
  obtain ⟨e5, he5, h⟩ := bd_some h
  have fe5 := F_St_shortenPairs_B6_L he5
  have fe5 := Fr.tr (T := [15]) Fr.rf fe5
  have h := (ck_some h).2
  cases h
  exact fe5

set_option maxRecDepth 20000 in
theorem F_St_catchUp_B26 {x1 : Int32} {v : Int32 × Int32 × QM} {res : (QM) ⊕ (Int32 × Int32 × QM)} (h : St_catchUp_B26 x1 v = some res) : Fr [14, 15] v.2.2 ((Sum.elim (fun z => z) (fun z => z.2.2)) res) := by
  unfold St_catchUp_B26 at h
  by_cases hb : (3600 : Int32) ≤ v.2.1
  · have h := ite_t hb h
    cases h
    exact Fr.rf
  · have h := ite_f hb h
    by_cases hb : v.1 = 0
    · have h := ite_t hb h
      cases h
      exact Fr.rf
    · have h := ite_f hb h
      obtain ⟨q3, hq3, h⟩ := bd_some h
      have fq3 := Fr.tr (T := [14, 15]) Fr.rf (Fr.sub (F_St_shortenPairs hq3) (by decide))
      cases h
      exact fq3

theorem F_St_catchUp_B26_L {x1 : Int32}  {v : Int32 × Int32 × QM} {k : Nat} {e : QM} (h : iter (St_catchUp_B26 x1) k v = some e) : Fr [14, 15] ((fun v => v.2.2) v) ((fun z => z) e) :=
  iter_Fr (Ga := (fun v => v.2.2)) (Gb := (fun z => z)) (fun a res hB => F_St_catchUp_B26 hB) k v e h

set_option maxRecDepth 20000 in
theorem F_St_catchUp_J49 {x1 : Int32} {M : QM} {res : QM} (h : St_catchUp_J49 x1 M = some res) : Fr [14, 15] M ((fun z => z) res) := by
  unfold St_catchUp_J49 at h
  cases h
  exact (Fr.i 14 Fr.rf (by decide))

set_option maxRecDepth 20000 in
theorem F_St_catchUp {M : QM} {res : QM} (h : St_catchUp M = some res) : Fr [14, 15] M ((fun z => z) res) := by
  unfold St_catchUp at h
  obtain ⟨q1, hq1, h⟩ := bd_some h
  by_cases hb : (M.1 14 5) < q1
  · have h := ite_t hb h
    obtain ⟨q2, hq2, h⟩ := bd_some h
    have fq2 := Fr.tr (T := [14, 15]) Fr.rf (Fr.sub (F_St_startPairs hq2) (by decide))
    obtain ⟨e4, he4, h⟩ := bd_some h
    have fe4 := F_St_catchUp_B26_L he4
    have fe4 := Fr.tr (T := [14, 15]) fq2 fe4
    exact Fr.tr (T := [14, 15]) fe4 (F_St_catchUp_J49 h)
  · have h := ite_f hb h
    cases h
    exact Fr.rf

set_option maxRecDepth 20000 in
theorem F_St_forget {M : QM} {res : QM} (h : St_forget M = some res) : Fr [14] M ((fun z => z) res) := by
  unfold St_forget at h
  cases h
  exact (Fr.i 14 Fr.rf (by decide))

set_option maxRecDepth 20000 in
theorem F_St_reachAlso {p1 : Int32} {p2 : Int32} {M : QM} {res : Int32 × QM} (h : St_reachAlso p1 p2 M = some res) : Fr [16, 17] M ((fun z => z.2) res) := by
  unfold St_reachAlso at h
  by_cases hb : p1 < 0
  · have h := ite_t hb h
    cases h
    exact Fr.rf
  · have h := ite_f hb h
    by_cases hb : (60 : Int32) ≤ p1
    · have h := ite_t hb h
      cases h
      exact Fr.rf
    · have h := ite_f hb h
      have h := (ck_some h).2
      by_cases hb : (M.1 17 p1.toNatClampNeg) = (M.1 14 4)
      · have h := ite_t hb h
        cases h
        exact Fr.rf
      · have h := ite_f hb h
        by_cases hb : p2 < 0
        · have h := ite_t hb h
          cases h
          exact Fr.rf
        · have h := ite_f hb h
          by_cases hb : p2 < (60 : Int32)
          · have h := ite_t hb h
            have h := (ck_some h).2
            have h := (ck_some h).2
            cases h
            exact (Fr.i 16 (Fr.i 17 Fr.rf (by decide)) (by decide))
          · have h := ite_f hb h
            cases h
            exact Fr.rf

set_option maxRecDepth 20000 in
theorem F_St_reachFrom_B33 {x3 : Int32} {v : Int32 × Int32 × QM} {res : (Int32 × QM) ⊕ (Int32 × Int32 × QM)} (h : St_reachFrom_B33 x3 v = some res) : Fr [14, 16, 17] v.2.2 ((Sum.elim (fun z => z.2) (fun z => z.2.2)) res) := by
  unfold St_reachFrom_B33 at h
  by_cases hb : (8 : Int32) ≤ v.2.1
  · have h := ite_t hb h
    cases h
    exact Fr.rf
  · have h := ite_f hb h
    obtain ⟨q2, hq2, h⟩ := bd_some h
    obtain ⟨q3, hq3, h⟩ := bd_some h
    obtain ⟨q4, hq4, h⟩ := bd_some h
    have fq4 := Fr.tr (T := [14, 16, 17]) Fr.rf (Fr.sub (F_St_reachAlso hq4) (by decide))
    cases h
    exact fq4

theorem F_St_reachFrom_B33_L {x3 : Int32}  {v : Int32 × Int32 × QM} {k : Nat} {e : Int32 × QM} (h : iter (St_reachFrom_B33 x3) k v = some e) : Fr [14, 16, 17] ((fun v => v.2.2) v) ((fun z => z.2) e) :=
  iter_Fr (Ga := (fun v => v.2.2)) (Gb := (fun z => z.2)) (fun a res hB => F_St_reachFrom_B33 hB) k v e h

set_option maxRecDepth 20000 in
theorem F_St_reachFrom_B19 {v : Int32 × Int32 × QM} {res : (Int32 × QM) ⊕ (Int32 × Int32 × QM)} (h : St_reachFrom_B19 v = some res) : Fr [14, 16, 17] v.2.2 ((Sum.elim (fun z => z.2) (fun z => z.2.2)) res) := by
  unfold St_reachFrom_B19 at h
  by_cases hb : v.1 ≤ v.2.1
  · have h := ite_t hb h
    cases h
    exact Fr.rf
  · have h := ite_f hb h
    by_cases hb : (60 : Int32) ≤ v.2.1
    · have h := ite_t hb h
      cases h
      exact Fr.rf
    · have h := ite_f hb h
      obtain ⟨e5, he5, h⟩ := bd_some h
      have fe5 := F_St_reachFrom_B33_L he5
      have fe5 := Fr.tr (T := [14, 16, 17]) Fr.rf fe5
      cases h
      exact fe5

theorem F_St_reachFrom_B19_L  {v : Int32 × Int32 × QM} {k : Nat} {e : Int32 × QM} (h : iter (St_reachFrom_B19) k v = some e) : Fr [14, 16, 17] ((fun v => v.2.2) v) ((fun z => z.2) e) :=
  iter_Fr (Ga := (fun v => v.2.2)) (Gb := (fun z => z.2)) (fun a res hB => F_St_reachFrom_B19 hB) k v e h

set_option maxRecDepth 20000 in
theorem F_St_reachFrom {p1 : Int32} {M : QM} {res : Int32 × QM} (h : St_reachFrom p1 M = some res) : Fr [14, 16, 17] M ((fun z => z.2) res) := by
  unfold St_reachFrom at h
  obtain ⟨q1, hq1, h⟩ := bd_some h
  have fq1 := Fr.tr (T := [14, 16, 17]) (Fr.i 14 Fr.rf (by decide)) (Fr.sub (F_St_reachAlso hq1) (by decide))
  obtain ⟨e6, he6, h⟩ := bd_some h
  have fe6 := F_St_reachFrom_B19_L he6
  have fe6 := Fr.tr (T := [14, 16, 17]) fq1 fe6
  cases h
  exact fe6

set_option maxRecDepth 20000 in
theorem F_St_unlikeWithin {p1 : Int32} {M : QM} {res : Int32 × QM} (h : St_unlikeWithin p1 M = some res) : Fr [14, 16, 17] M ((fun z => z.2) res) := by
  unfold St_unlikeWithin at h
  obtain ⟨q1, hq1, h⟩ := bd_some h
  have fq1 := Fr.tr (T := [14, 16, 17]) Fr.rf (Fr.sub (F_St_reachFrom hq1) (by decide))
  obtain ⟨e3, he3, h⟩ := bd_some h
  cases h
  exact fq1

