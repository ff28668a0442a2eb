/-- of the reference's own fields M2 has M's but for those of T -/
def Fo (T : List Nat) (M M2 : QM) : Prop := ∀ x, x ∉ T → M2.1 0 x = M.1 0 x
theorem Fo.rf {T : List Nat} {M : QM} : Fo T M M := fun _ _ => rfl
theorem Fo.i {T : List Nat} {M M1 : QM} {v : Int32} (k : Nat) (h : Fo T M M1) (ho : k ∈ T) : Fo T M (u_i M1 0 k v) := by
  intro a ha
  have hne : a ≠ k := fun e => ha (e ▸ ho)
  rw [← h a ha]
  simp [u_i, hne]
theorem Fo.o {T : List Nat} {M M1 : QM} {k : Nat} {v : Int32} (o : Nat) (h : Fo T M M1) (ho : 0 ≠ o) : Fo T M (u_i M1 o k v) := by
  intro a ha
  rw [← h a ha]
  simp [u_i, ho]
theorem Fo.l {T : List Nat} {M M1 : QM} {o k : Nat} {v : Int64} (h : Fo T M M1) : Fo T M (u_l M1 o k v) := h
theorem Fo.tr {T : List Nat} {M M1 M2 : QM} (h1 : Fo T M M1) (h2 : Fo T M1 M2) : Fo T M M2 := fun o ho => (h2 o ho).trans (h1 o ho)
theorem Fo.sub {T T2 : List Nat} {M M2 : QM} (h : Fo T M M2) (hs : ∀ o, o ∈ T → o ∈ T2) : Fo T2 M M2 := fun o ho => h o (fun z => ho (hs o z))
theorem iter_Fo {α β : Type} {T : List Nat} {B : α → Option (β ⊕ α)} {Ga : α → QM} {Gb : β → QM} (hB : ∀ (a : α) (res : β ⊕ α), B a = some res → Fo T (Ga a) (Sum.elim Gb Ga res)) : ∀ (n : Nat) (a : α) (b : β), iter B n a = some b → Fo T (Ga a) (Gb b) := by
  intro n
  induction n with
  | zero => intro a b h; cases h
  | succ n ih =>
    intro a b h
    rw [iter] at h
    cases hb : B a with
    | none => rw [hb] at h; cases h
    | some res =>
      rw [hb] at h
      have h1 := hB a res hb
      cases res with
      | inl x => cases h; exact h1
      | inr x => exact Fo.tr h1 (ih _ _ h)
set_option maxRecDepth 20000 in
theorem F0_Mo_lay_L25_J58 {x1 : Int32} {x2 : Int32} {s0 : Int32} {s1 : Int32} {M : QM} {res : (QM) ⊕ (Int32 × QM)} (h : Mo_lay_L25_J58 x1 x2 s0 s1 M = some res) : Fo [15] M ((Sum.elim (fun z => z) (fun z => z.2)) res) := by
  unfold Mo_lay_L25_J58 at h
  have h := (ck_some h).2
  cases h
  exact (Fo.o 12 Fo.rf (by decide))

set_option maxRecDepth 20000 in
theorem F0_Mo_lay_B25 {x1 : Int32} {v : Int32 × QM} {res : (QM) ⊕ (Int32 × QM)} (h : Mo_lay_B25 x1 v = some res) : Fo [15] v.2 ((Sum.elim (fun z => z) (fun z => z.2)) res) := by
  unfold Mo_lay_B25 at h
  by_cases hb : (v.2.1 0 2) ≤ v.1
  · have h := ite_t hb h
    cases h
    exact Fo.rf
  · have h := ite_f hb h
    obtain ⟨q1, hq1, h⟩ := bd_some h
    by_cases hb : q1 = 0
    · have h := ite_t hb h
      exact Fo.tr (T := [15]) Fo.rf (F0_Mo_lay_L25_J58 h)
    · have h := ite_f hb h
      exact Fo.tr (T := [15]) Fo.rf (F0_Mo_lay_L25_J58 h)

theorem F0_Mo_lay_B25_L {x1 : Int32}  {v : Int32 × QM} {k : Nat} {e : QM} (h : iter (Mo_lay_B25 x1) k v = some e) : Fo [15] ((fun v => v.2) v) ((fun z => z) e) :=
  iter_Fo (Ga := (fun v => v.2)) (Gb := (fun z => z)) (fun a res hB => F0_Mo_lay_B25 hB) k v e h

set_option maxRecDepth 20000 in
theorem F0_Mo_lay_B15 {v : Int32 × QM} {res : (QM) ⊕ (Int32 × QM)} (h : Mo_lay_B15 v = some res) : Fo [15] v.2 ((Sum.elim (fun z => z) (fun z => z.2)) res) := by
  unfold Mo_lay_B15 at h
  by_cases hb : (v.2.1 0 2) ≤ v.1
  · have h := ite_t hb h
    cases h
    exact Fo.rf
  · have h := ite_f hb h
    obtain ⟨e3, he3, h⟩ := bd_some h
    have fe3 := F0_Mo_lay_B25_L he3
    have fe3 := Fo.tr (T := [15]) Fo.rf fe3
    cases h
    exact fe3

theorem F0_Mo_lay_B15_L  {v : Int32 × QM} {k : Nat} {e : QM} (h : iter (Mo_lay_B15) k v = some e) : Fo [15] ((fun v => v.2) v) ((fun z => z) e) :=
  iter_Fo (Ga := (fun v => v.2)) (Gb := (fun z => z)) (fun a res hB => F0_Mo_lay_B15 hB) k v e h

set_option maxRecDepth 20000 in
theorem F0_Mo_lay_L94_J180 {x1 : Int32} {x2 : Int32} {x3 : Int32} {x4 : Int32} {x5 : Int32} {M : QM} {res : (Int32 × QM) ⊕ (Int32 × Int32 × QM)} (h : Mo_lay_L94_J180 x1 x2 x3 x4 x5 M = some res) : Fo [15] M ((Sum.elim (fun z => z.2) (fun z => z.2.2)) res) := by
  unfold Mo_lay_L94_J180 at h
  by_cases hb : x5 = 0
  · have h := ite_t hb h
    cases h
    exact Fo.rf
  · have h := ite_f hb h
    have h := (ck_some h).2
    cases h
    exact (Fo.o 12 Fo.rf (by decide))

set_option maxRecDepth 20000 in
theorem F0_Mo_lay_B94 {x2 : Int32} {x3 : Int32} {v : Int32 × Int32 × QM} {res : (Int32 × QM) ⊕ (Int32 × Int32 × QM)} (h : Mo_lay_B94 x2 x3 v = some res) : Fo [15] v.2.2 ((Sum.elim (fun z => z.2) (fun z => z.2.2)) res) := by
  unfold Mo_lay_B94 at h
  by_cases hb : (v.2.2.1 0 2) ≤ v.2.1
  · have h := ite_t hb h
    cases h
    exact Fo.rf
  · have h := ite_f hb h
    obtain ⟨e8, he8, h⟩ := bd_some h
    exact Fo.tr (T := [15]) Fo.rf (F0_Mo_lay_L94_J180 h)

theorem F0_Mo_lay_B94_L {x2 : Int32} {x3 : Int32}  {v : Int32 × Int32 × QM} {k : Nat} {e : Int32 × QM} (h : iter (Mo_lay_B94 x2 x3) k v = some e) : Fo [15] ((fun v => v.2.2) v) ((fun z => z.2) e) :=
  iter_Fo (Ga := (fun v => v.2.2)) (Gb := (fun z => z.2)) (fun a res hB => F0_Mo_lay_B94 hB) k v e h

set_option maxRecDepth 20000 in
theorem F0_Mo_lay_B83 {x2 : Int32} {v : Int32 × Int32 × QM} {res : (Int32 × QM) ⊕ (Int32 × Int32 × QM)} (h : Mo_lay_B83 x2 v = some res) : Fo [15] v.2.2 ((Sum.elim (fun z => z.2) (fun z => z.2.2)) res) := by
  unfold Mo_lay_B83 at h
  by_cases hb : (v.2.2.1 0 2) ≤ v.2.1
  · have h := ite_t hb h
    cases h
    exact Fo.rf
  · have h := ite_f hb h
    obtain ⟨e10, he10, h⟩ := bd_some h
    have fe10 := F0_Mo_lay_B94_L he10
    have fe10 := Fo.tr (T := [15]) Fo.rf fe10
    cases h
    exact fe10

theorem F0_Mo_lay_B83_L {x2 : Int32}  {v : Int32 × Int32 × QM} {k : Nat} {e : Int32 × QM} (h : iter (Mo_lay_B83 x2) k v = some e) : Fo [15] ((fun v => v.2.2) v) ((fun z => z.2) e) :=
  iter_Fo (Ga := (fun v => v.2.2)) (Gb := (fun z => z.2)) (fun a res hB => F0_Mo_lay_B83 hB) k v e h

set_option maxRecDepth 20000 in
theorem F0_Mo_lay_B75 {v : Int32 × Int32 × QM} {res : (QM) ⊕ (Int32 × Int32 × QM)} (h : Mo_lay_B75 v = some res) : Fo [15] v.2.2 ((Sum.elim (fun z => z) (fun z => z.2.2)) res) := by
  unfold Mo_lay_B75 at h
  by_cases hb : v.1 = 0
  · have h := ite_t hb h
    cases h
    exact Fo.rf
  · have h := ite_f hb h
    obtain ⟨e11, he11, h⟩ := bd_some h
    have fe11 := F0_Mo_lay_B83_L he11
    have fe11 := Fo.tr (T := [15]) Fo.rf fe11
    cases h
    exact fe11

theorem F0_Mo_lay_B75_L  {v : Int32 × Int32 × QM} {k : Nat} {e : QM} (h : iter (Mo_lay_B75) k v = some e) : Fo [15] ((fun v => v.2.2) v) ((fun z => z) e) :=
  iter_Fo (Ga := (fun v => v.2.2)) (Gb := (fun z => z)) (fun a res hB => F0_Mo_lay_B75 hB) k v e h

set_option maxRecDepth 20000 in
theorem F0_Mo_lay_L230_J269 {x2 : Int32} {x3 : Int32} {s0 : Int32} {s1 : Int32} {M : QM} {res : (QM) ⊕ (Int32 × QM)} (h : Mo_lay_L230_J269 x2 x3 s0 s1 M = some res) : Fo [15] M ((Sum.elim (fun z => z) (fun z => z.2)) res) := by
  unfold Mo_lay_L230_J269 at h
  have h := (ck_some h).2
  have h := (ck_some h).2
  cases h
  exact (Fo.o 11 Fo.rf (by decide))

set_option maxRecDepth 20000 in
theorem F0_Mo_lay_B230 {x2 : Int32} {v : Int32 × QM} {res : (QM) ⊕ (Int32 × QM)} (h : Mo_lay_B230 x2 v = some res) : Fo [15] v.2 ((Sum.elim (fun z => z) (fun z => z.2)) res) := by
  unfold Mo_lay_B230 at h
  by_cases hb : (v.2.1 0 2) ≤ v.1
  · have h := ite_t hb h
    cases h
    exact Fo.rf
  · have h := ite_f hb h
    have h := (ck_some h).2
    by_cases hb : (v.2.1 12 (((60 : Int32) * x2) + v.1).toNatClampNeg) = (100000 : Int32)
    · have h := ite_t hb h
      exact Fo.tr (T := [15]) Fo.rf (F0_Mo_lay_L230_J269 h)
    · have h := ite_f hb h
      exact Fo.tr (T := [15]) Fo.rf (F0_Mo_lay_L230_J269 h)

theorem F0_Mo_lay_B230_L {x2 : Int32}  {v : Int32 × QM} {k : Nat} {e : QM} (h : iter (Mo_lay_B230 x2) k v = some e) : Fo [15] ((fun v => v.2) v) ((fun z => z) e) :=
  iter_Fo (Ga := (fun v => v.2)) (Gb := (fun z => z)) (fun a res hB => F0_Mo_lay_B230 hB) k v e h

set_option maxRecDepth 20000 in
theorem F0_Mo_lay_B220 {v : Int32 × QM} {res : (QM) ⊕ (Int32 × QM)} (h : Mo_lay_B220 v = some res) : Fo [15] v.2 ((Sum.elim (fun z => z) (fun z => z.2)) res) := by
  unfold Mo_lay_B220 at h
  by_cases hb : (v.2.1 0 2) ≤ v.1
  · have h := ite_t hb h
    cases h
    exact Fo.rf
  · have h := ite_f hb h
    obtain ⟨e16, he16, h⟩ := bd_some h
    have fe16 := F0_Mo_lay_B230_L he16
    have fe16 := Fo.tr (T := [15]) Fo.rf fe16
    cases h
    exact fe16

theorem F0_Mo_lay_B220_L  {v : Int32 × QM} {k : Nat} {e : QM} (h : iter (Mo_lay_B220) k v = some e) : Fo [15] ((fun v => v.2) v) ((fun z => z) e) :=
  iter_Fo (Ga := (fun v => v.2)) (Gb := (fun z => z)) (fun a res hB => F0_Mo_lay_B220 hB) k v e h

set_option maxRecDepth 20000 in
theorem F0_Mo_lay {M : QM} {res : QM} (h : Mo_lay M = some res) : Fo [15] M ((fun z => z) res) := by
  unfold Mo_lay at h
  by_cases hb : (M.1 0 15) = 0
  · have h := ite_t hb h
    obtain ⟨e4, he4, h⟩ := bd_some h
    have fe4 := F0_Mo_lay_B15_L he4
    have fe4 := Fo.tr (T := [15]) (Fo.i 15 Fo.rf (by decide)) fe4
    obtain ⟨e12, he12, h⟩ := bd_some h
    have fe12 := F0_Mo_lay_B75_L he12
    have fe12 := Fo.tr (T := [15]) fe4 fe12
    obtain ⟨e17, he17, h⟩ := bd_some h
    have fe17 := F0_Mo_lay_B220_L he17
    have fe17 := Fo.tr (T := [15]) fe12 fe17
    cases h
    exact fe17
  · have h := ite_f hb h
    cases h
    exact Fo.rf

set_option maxRecDepth 20000 in
theorem F0_Mo_alike {p1 : Int32} {p2 : Int32} {M : QM} {res : Int32 × QM} (h : Mo_alike p1 p2 M = some res) : Fo [15] M ((fun z => z.2) res) := by
  unfold Mo_alike at h
  obtain ⟨q1, hq1, h⟩ := bd_some h
  by_cases hb : q1 = 0
  · have h := ite_t hb h
    cases h
    exact Fo.rf
  · have h := ite_f hb h
    obtain ⟨q2, hq2, h⟩ := bd_some h
    have fq2 := Fo.tr (T := [15]) Fo.rf (Fo.sub (F0_Mo_lay hq2) (by decide))
    obtain ⟨q3, hq3, h⟩ := bd_some h
    by_cases hb : q3 = 0
    · have h := ite_t hb h
      cases h
      exact fq2
    · have h := ite_f hb h
      cases h
      exact fq2

set_option maxRecDepth 20000 in
theorem F0_Mo_begin {p1 : Int32} {p2 : Int32} {M : QM} {res : QM} (h : Mo_begin p1 p2 M = some res) : Fo [27] M ((fun z => z) res) := by
  unfold Mo_begin at h
  have h := (ck_some h).2
  have h := (ck_some h).2
  have h := (ck_some h).2
  cases h
  exact (Fo.i 27 (Fo.o 20 (Fo.o 19 (Fo.o 17 Fo.rf (by decide)) (by decide)) (by decide)) (by decide))

set_option maxRecDepth 20000 in
theorem F0_Mo_come_J89 {x1 : Int32} {x2 : Int32} {x3 : Int32} {s0 : Int32} {M : QM} {res : QM} (h : Mo_come_J89 x1 x2 x3 s0 M = some res) : Fo [] M ((fun z => z) res) := by
  unfold Mo_come_J89 at h
  have h := (ck_some h).2
  have h := (ck_some h).2
  have h := (ck_some h).2
  cases h
  exact (Fo.o 9 (Fo.o 6 Fo.rf (by decide)) (by decide))

set_option maxRecDepth 20000 in
theorem F0_Mo_come_J88 {x1 : Int32} {x2 : Int32} {x3 : Int32} {M : QM} {res : QM} (h : Mo_come_J88 x1 x2 x3 M = some res) : Fo [] M ((fun z => z) res) := by
  unfold Mo_come_J88 at h
  exact Fo.tr (T := []) Fo.rf (F0_Mo_come_J89 h)

set_option maxRecDepth 20000 in
theorem F0_Mo_come {p1 : Int32} {M : QM} {res : QM} (h : Mo_come p1 M = some res) : Fo [] M ((fun z => z) res) := by
  unfold Mo_come at h
  by_cases hb : (M.1 0 10) = 0
  · have h := ite_t hb h
    have h := (ck_some h).2
    cases h
    exact (Fo.o 7 Fo.rf (by decide))
  · have h := ite_f hb h
    have h := (ck_some h).2
    have h := (ck_some h).2
    by_cases hb : (M.1 9 ((M.1 0 10) - (1 : Int32)).toNatClampNeg) = (100 : Int32)
    · have h := ite_t hb h
      have h := (ck_some h).2
      have h := (ck_some h).2
      cases h
      exact (Fo.o 6 Fo.rf (by decide))
    · have h := ite_f hb h
      have h := (ck_some h).2
      by_cases hb : (M.1 5 (M.1 8 ((M.1 0 10) - (1 : Int32)).toNatClampNeg).toNatClampNeg) = (62 : Int32)
      · have h := ite_t hb h
        have h := (ck_some h).2
        by_cases hb : (M.1 9 ((M.1 0 10) - (1 : Int32)).toNatClampNeg) = (1 : Int32)
        · have h := ite_t hb h
          exact Fo.tr (T := []) Fo.rf (F0_Mo_come_J89 h)
        · have h := ite_f hb h
          exact Fo.tr (T := []) Fo.rf (F0_Mo_come_J88 h)
      · have h := ite_f hb h
        exact Fo.tr (T := []) Fo.rf (F0_Mo_come_J88 h)

set_option maxRecDepth 20000 in
theorem F0_Mo_listCount_B37 {x2 : Int32} {x3 : Int32} {x4 : Int32} {v : Int32 × QM} {res : (QM) ⊕ (Int32 × QM)} (h : Mo_listCount_B37 x2 x3 x4 v = some res) : Fo [] v.2 ((Sum.elim (fun z => z) (fun z => z.2)) res) := by
  unfold Mo_listCount_B37 at h
  by_cases hb : x4 < v.1
  · have h := ite_t hb h
    cases h
    exact Fo.rf
  · have h := ite_f hb h
    have h := (ck_some h).2
    have h := (ck_some h).2
    have h := (ck_some h).2
    obtain ⟨q7, hq7, h⟩ := bd_some h
    obtain ⟨q8, hq8, h⟩ := bd_some h
    have h := (ck_some h).2
    cases h
    exact (Fo.l Fo.rf)

theorem F0_Mo_listCount_B37_L {x2 : Int32} {x3 : Int32} {x4 : Int32}  {v : Int32 × QM} {k : Nat} {e : QM} (h : iter (Mo_listCount_B37 x2 x3 x4) k v = some e) : Fo [] ((fun v => v.2) v) ((fun z => z) e) :=
  iter_Fo (Ga := (fun v => v.2)) (Gb := (fun z => z)) (fun a res hB => F0_Mo_listCount_B37 hB) k v e h

set_option maxRecDepth 20000 in
theorem F0_Mo_listCount_B20 {x2 : Int32} {x3 : Int32} {v : Int32 × QM} {res : (QM) ⊕ (Int32 × QM)} (h : Mo_listCount_B20 x2 x3 v = some res) : Fo [] v.2 ((Sum.elim (fun z => z) (fun z => z.2)) res) := by
  unfold Mo_listCount_B20 at h
  by_cases hb : x2 ≤ v.1
  · have h := ite_t hb h
    cases h
    exact Fo.rf
  · have h := ite_f hb h
    have h := (ck_some h).2
    obtain ⟨e10, he10, h⟩ := bd_some h
    have fe10 := F0_Mo_listCount_B37_L he10
    have fe10 := Fo.tr (T := []) (Fo.l Fo.rf) fe10
    cases h
    exact fe10

theorem F0_Mo_listCount_B20_L {x2 : Int32} {x3 : Int32}  {v : Int32 × QM} {k : Nat} {e : QM} (h : iter (Mo_listCount_B20 x2 x3) k v = some e) : Fo [] ((fun v => v.2) v) ((fun z => z) e) :=
  iter_Fo (Ga := (fun v => v.2)) (Gb := (fun z => z)) (fun a res hB => F0_Mo_listCount_B20 hB) k v e h

set_option maxRecDepth 20000 in
theorem F0_Mo_listCount {p1 : Int32} {p2 : Int32} {M : QM} {res : Int64 × QM} (h : Mo_listCount p1 p2 M = some res) : Fo [] M ((fun z => z.2) res) := by
  unfold Mo_listCount at h
  have h := (ck_some h).2
  have h := (ck_some h).2
  obtain ⟨e11, he11, h⟩ := bd_some h
  have fe11 := F0_Mo_listCount_B20_L he11
  have fe11 := Fo.tr (T := []) (Fo.l Fo.rf) fe11
  have h := (ck_some h).2
  cases h
  exact fe11

set_option maxRecDepth 20000 in
theorem F0_Mo_recordCount_L2_J23 {x1 : Int32} {x2 : Int32} {x3 : Int32} {s0 : Int64} {s1 : Int32} {M : QM} {res : (QM) ⊕ (Int32 × QM)} (h : Mo_recordCount_L2_J23 x1 x2 x3 s0 s1 M = some res) : Fo [] M ((Sum.elim (fun z => z) (fun z => z.2)) res) := by
  unfold Mo_recordCount_L2_J23 at h
  have h := (ck_some h).2
  cases h
  exact (Fo.l Fo.rf)

set_option maxRecDepth 20000 in
theorem F0_Mo_recordCount_B2 {x1 : Int32} {x2 : Int32} {v : Int32 × QM} {res : (QM) ⊕ (Int32 × QM)} (h : Mo_recordCount_B2 x1 x2 v = some res) : Fo [] v.2 ((Sum.elim (fun z => z) (fun z => z.2)) res) := by
  unfold Mo_recordCount_B2 at h
  by_cases hb : (13 : Int32) ≤ v.1
  · have h := ite_t hb h
    cases h
    exact Fo.rf
  · have h := ite_f hb h
    by_cases hb : v.1 = (1 : Int32)
    · have h := ite_t hb h
      exact Fo.tr (T := []) Fo.rf (F0_Mo_recordCount_L2_J23 h)
    · have h := ite_f hb h
      exact Fo.tr (T := []) Fo.rf (F0_Mo_recordCount_L2_J23 h)

theorem F0_Mo_recordCount_B2_L {x1 : Int32} {x2 : Int32}  {v : Int32 × QM} {k : Nat} {e : QM} (h : iter (Mo_recordCount_B2 x1 x2) k v = some e) : Fo [] ((fun v => v.2) v) ((fun z => z) e) :=
  iter_Fo (Ga := (fun v => v.2)) (Gb := (fun z => z)) (fun a res hB => F0_Mo_recordCount_B2 hB) k v e h

set_option maxRecDepth 20000 in
theorem F0_Mo_recordCount_B76 {x1 : Int32} {x2 : Int32} {x3 : Int32} {x4 : Int32} {x5 : Int32} {v : Int32 × QM} {res : (QM) ⊕ (Int32 × QM)} (h : Mo_recordCount_B76 x1 x2 x3 x4 x5 v = some res) : Fo [] v.2 ((Sum.elim (fun z => z) (fun z => z.2)) res) := by
  unfold Mo_recordCount_B76 at h
  by_cases hb : x5 ≤ v.1
  · have h := ite_t hb h
    cases h
    exact Fo.rf
  · have h := ite_f hb h
    have h := (ck_some h).2
    have h := (ck_some h).2
    have h := (ck_some h).2
    obtain ⟨q8, hq8, h⟩ := bd_some h
    obtain ⟨q9, hq9, h⟩ := bd_some h
    have h := (ck_some h).2
    cases h
    exact (Fo.l Fo.rf)

theorem F0_Mo_recordCount_B76_L {x1 : Int32} {x2 : Int32} {x3 : Int32} {x4 : Int32} {x5 : Int32}  {v : Int32 × QM} {k : Nat} {e : QM} (h : iter (Mo_recordCount_B76 x1 x2 x3 x4 x5) k v = some e) : Fo [] ((fun v => v.2) v) ((fun z => z) e) :=
  iter_Fo (Ga := (fun v => v.2)) (Gb := (fun z => z)) (fun a res hB => F0_Mo_recordCount_B76 hB) k v e h

set_option maxRecDepth 20000 in
theorem F0_Mo_recordCount_B59 {x1 : Int32} {x2 : Int32} {x3 : Int32} {x4 : Int32} {v : Int32 × QM} {res : (QM) ⊕ (Int32 × QM)} (h : Mo_recordCount_B59 x1 x2 x3 x4 v = some res) : Fo [] v.2 ((Sum.elim (fun z => z) (fun z => z.2)) res) := by
  unfold Mo_recordCount_B59 at h
  by_cases hb : x2 < v.1
  · have h := ite_t hb h
    cases h
    exact Fo.rf
  · have h := ite_f hb h
    have h := (ck_some h).2
    obtain ⟨e11, he11, h⟩ := bd_some h
    have fe11 := F0_Mo_recordCount_B76_L he11
    have fe11 := Fo.tr (T := []) (Fo.l Fo.rf) fe11
    cases h
    exact fe11

theorem F0_Mo_recordCount_B59_L {x1 : Int32} {x2 : Int32} {x3 : Int32} {x4 : Int32}  {v : Int32 × QM} {k : Nat} {e : QM} (h : iter (Mo_recordCount_B59 x1 x2 x3 x4) k v = some e) : Fo [] ((fun v => v.2) v) ((fun z => z) e) :=
  iter_Fo (Ga := (fun v => v.2)) (Gb := (fun z => z)) (fun a res hB => F0_Mo_recordCount_B59 hB) k v e h

set_option maxRecDepth 20000 in
theorem F0_Mo_recordCount_B143 {x1 : Int32} {x2 : Int32} {x3 : Int32} {v : Int32 × QM} {res : (QM) ⊕ (Int32 × QM)} (h : Mo_recordCount_B143 x1 x2 x3 v = some res) : Fo [] v.2 ((Sum.elim (fun z => z) (fun z => z.2)) res) := by
  unfold Mo_recordCount_B143 at h
  by_cases hb : x2 < v.1
  · have h := ite_t hb h
    cases h
    exact Fo.rf
  · have h := ite_f hb h
    have h := (ck_some h).2
    have h := (ck_some h).2
    cases h
    exact (Fo.l Fo.rf)

theorem F0_Mo_recordCount_B143_L {x1 : Int32} {x2 : Int32} {x3 : Int32}  {v : Int32 × QM} {k : Nat} {e : QM} (h : iter (Mo_recordCount_B143 x1 x2 x3) k v = some e) : Fo [] ((fun v => v.2) v) ((fun z => z) e) :=
  iter_Fo (Ga := (fun v => v.2)) (Gb := (fun z => z)) (fun a res hB => F0_Mo_recordCount_B143 hB) k v e h

set_option maxRecDepth 20000 in
theorem F0_Mo_recordCount_B32 {x1 : Int32} {x2 : Int32} {v : Int32 × QM} {res : (QM) ⊕ (Int32 × QM)} (h : Mo_recordCount_B32 x1 x2 v = some res) : Fo [] v.2 ((Sum.elim (fun z => z) (fun z => z.2)) res) := by
  unfold Mo_recordCount_B32 at h
  by_cases hb : (8 : Int32) ≤ v.1
  · have h := ite_t hb h
    cases h
    exact Fo.rf
  · have h := ite_f hb h
    have h := (ck_some h).2
    by_cases hb : (v.2.1 3 (((8 : Int32) * x1) + v.1).toNatClampNeg) < 0
    · have h := ite_t hb h
      cases h
      exact Fo.rf
    · have h := ite_f hb h
      obtain ⟨e12, he12, h⟩ := bd_some h
      have fe12 := F0_Mo_recordCount_B59_L he12
      have fe12 := Fo.tr (T := []) Fo.rf fe12
      obtain ⟨e15, he15, h⟩ := bd_some h
      have fe15 := F0_Mo_recordCount_B143_L he15
      have fe15 := Fo.tr (T := []) fe12 fe15
      cases h
      exact fe15

theorem F0_Mo_recordCount_B32_L {x1 : Int32} {x2 : Int32}  {v : Int32 × QM} {k : Nat} {e : QM} (h : iter (Mo_recordCount_B32 x1 x2) k v = some e) : Fo [] ((fun v => v.2) v) ((fun z => z) e) :=
  iter_Fo (Ga := (fun v => v.2)) (Gb := (fun z => z)) (fun a res hB => F0_Mo_recordCount_B32 hB) k v e h

set_option maxRecDepth 20000 in
theorem F0_Mo_recordCount {p1 : Int32} {p2 : Int32} {M : QM} {res : Int64 × QM} (h : Mo_recordCount p1 p2 M = some res) : Fo [] M ((fun z => z.2) res) := by
  unfold Mo_recordCount at h
  obtain ⟨e2, he2, h⟩ := bd_some h
  have fe2 := F0_Mo_recordCount_B2_L he2
  have fe2 := Fo.tr (T := []) Fo.rf fe2
  obtain ⟨e16, he16, h⟩ := bd_some h
  have fe16 := F0_Mo_recordCount_B32_L he16
  have fe16 := Fo.tr (T := []) fe2 fe16
  have h := (ck_some h).2
  cases h
  exact fe16

set_option maxRecDepth 20000 in
theorem F0_Mo_count_B25 {x1 : Int32} {x2 : Int32} {v : Int32 × QM} {res : (QM) ⊕ (Int32 × QM)} (h : Mo_count_B25 x1 x2 v = some res) : Fo [] v.2 ((Sum.elim (fun z => z) (fun z => z.2)) res) := by
  unfold Mo_count_B25 at h
  by_cases hb : (780 : Int32) ≤ v.1
  · have h := ite_t hb h
    cases h
    exact Fo.rf
  · have h := ite_f hb h
    have h := (ck_some h).2
    cases h
    exact (Fo.l Fo.rf)

theorem F0_Mo_count_B25_L {x1 : Int32} {x2 : Int32}  {v : Int32 × QM} {k : Nat} {e : QM} (h : iter (Mo_count_B25 x1 x2) k v = some e) : Fo [] ((fun v => v.2) v) ((fun z => z) e) :=
  iter_Fo (Ga := (fun v => v.2)) (Gb := (fun z => z)) (fun a res hB => F0_Mo_count_B25 hB) k v e h

set_option maxRecDepth 20000 in
theorem F0_Mo_count_L55_J188 {x1 : Int32} {x2 : Int32} {x3 : Int32} {x4 : Int32} {s0 : Int64} {s1 : Int32} {M : QM} {res : (QM) ⊕ (Int32 × QM)} (h : Mo_count_L55_J188 x1 x2 x3 x4 s0 s1 M = some res) : Fo [] M ((Sum.elim (fun z => z) (fun z => z.2)) res) := by
  unfold Mo_count_L55_J188 at h
  have h := (ck_some h).2
  cases h
  exact (Fo.l Fo.rf)

set_option maxRecDepth 20000 in
theorem F0_Mo_count_L55_J113 {x1 : Int32} {x2 : Int32} {x3 : Int32} {x4 : Int32} {x5 : Int32} {s0 : Int64} {M : QM} {res : (QM) ⊕ (Int32 × QM)} (h : Mo_count_L55_J113 x1 x2 x3 x4 x5 s0 M = some res) : Fo [] M ((Sum.elim (fun z => z) (fun z => z.2)) res) := by
  unfold Mo_count_L55_J113 at h
  by_cases hb : x5 = (123 : Int32)
  · have h := ite_t hb h
    obtain ⟨q9, hq9, h⟩ := bd_some h
    have fq9 := Fo.tr (T := []) Fo.rf (Fo.sub (F0_Mo_recordCount hq9) (by decide))
    exact Fo.tr (T := []) fq9 (F0_Mo_count_L55_J188 h)
  · have h := ite_f hb h
    by_cases hb : x5 = (91 : Int32)
    · have h := ite_t hb h
      obtain ⟨q8, hq8, h⟩ := bd_some h
      exact Fo.tr (T := []) Fo.rf (F0_Mo_count_L55_J188 h)
    · have h := ite_f hb h
      by_cases hb : x5 = (42 : Int32)
      · have h := ite_t hb h
        obtain ⟨q7, hq7, h⟩ := bd_some h
        have fq7 := Fo.tr (T := []) Fo.rf (Fo.sub (F0_Mo_listCount hq7) (by decide))
        exact Fo.tr (T := []) fq7 (F0_Mo_count_L55_J188 h)
      · have h := ite_f hb h
        by_cases hb : x3 = (1 : Int32)
        · have h := ite_t hb h
          exact Fo.tr (T := []) Fo.rf (F0_Mo_count_L55_J188 h)
        · have h := ite_f hb h
          exact Fo.tr (T := []) Fo.rf (F0_Mo_count_L55_J188 h)

set_option maxRecDepth 20000 in
theorem F0_Mo_count_B55 {x1 : Int32} {x2 : Int32} {x3 : Int32} {v : Int32 × QM} {res : (QM) ⊕ (Int32 × QM)} (h : Mo_count_B55 x1 x2 x3 v = some res) : Fo [] v.2 ((Sum.elim (fun z => z) (fun z => z.2)) res) := by
  unfold Mo_count_B55 at h
  by_cases hb : (v.2.1 0 2) ≤ v.1
  · have h := ite_t hb h
    cases h
    exact Fo.rf
  · have h := ite_f hb h
    have h := (ck_some h).2
    by_cases hb : (v.2.1 2 v.1.toNatClampNeg) = (110 : Int32)
    · have h := ite_t hb h
      exact Fo.tr (T := []) Fo.rf (F0_Mo_count_L55_J113 h)
    · have h := ite_f hb h
      by_cases hb : (v.2.1 2 v.1.toNatClampNeg) = (116 : Int32)
      · have h := ite_t hb h
        exact Fo.tr (T := []) Fo.rf (F0_Mo_count_L55_J113 h)
      · have h := ite_f hb h
        by_cases hb : (v.2.1 2 v.1.toNatClampNeg) = (115 : Int32)
        · have h := ite_t hb h
          exact Fo.tr (T := []) Fo.rf (F0_Mo_count_L55_J113 h)
        · have h := ite_f hb h
          exact Fo.tr (T := []) Fo.rf (F0_Mo_count_L55_J113 h)

theorem F0_Mo_count_B55_L {x1 : Int32} {x2 : Int32} {x3 : Int32}  {v : Int32 × QM} {k : Nat} {e : QM} (h : iter (Mo_count_B55 x1 x2 x3) k v = some e) : Fo [] ((fun v => v.2) v) ((fun z => z) e) :=
  iter_Fo (Ga := (fun v => v.2)) (Gb := (fun z => z)) (fun a res hB => F0_Mo_count_B55 hB) k v e h

set_option maxRecDepth 20000 in
theorem F0_Mo_count_B47 {x1 : Int32} {x2 : Int32} {v : Int32 × QM} {res : (QM) ⊕ (Int32 × QM)} (h : Mo_count_B47 x1 x2 v = some res) : Fo [] v.2 ((Sum.elim (fun z => z) (fun z => z.2)) res) := by
  unfold Mo_count_B47 at h
  by_cases hb : x2 < v.1
  · have h := ite_t hb h
    cases h
    exact Fo.rf
  · have h := ite_f hb h
    obtain ⟨e10, he10, h⟩ := bd_some h
    have fe10 := F0_Mo_count_B55_L he10
    have fe10 := Fo.tr (T := []) Fo.rf fe10
    cases h
    exact fe10

theorem F0_Mo_count_B47_L {x1 : Int32} {x2 : Int32}  {v : Int32 × QM} {k : Nat} {e : QM} (h : iter (Mo_count_B47 x1 x2) k v = some e) : Fo [] ((fun v => v.2) v) ((fun z => z) e) :=
  iter_Fo (Ga := (fun v => v.2)) (Gb := (fun z => z)) (fun a res hB => F0_Mo_count_B47 hB) k v e h

set_option maxRecDepth 20000 in
theorem F0_Mo_count {p1 : Int32} {p2 : Int32} {M : QM} {res : Int32 × QM} (h : Mo_count p1 p2 M = some res) : Fo [] M ((fun z => z.2) res) := by
  unfold Mo_count at h
  obtain ⟨q1, hq1, h⟩ := bd_some h
  by_cases hb : q1 = 0
  · have h := ite_t hb h
    cases h
    exact Fo.rf
  · have h := ite_f hb h
    obtain ⟨q2, hq2, h⟩ := bd_some h
    by_cases hb : q2 = 0
    · have h := ite_t hb h
      cases h
      exact Fo.rf
    · have h := ite_f hb h
      obtain ⟨e4, he4, h⟩ := bd_some h
      have fe4 := F0_Mo_count_B25_L he4
      have fe4 := Fo.tr (T := []) Fo.rf fe4
      obtain ⟨e11, he11, h⟩ := bd_some h
      have fe11 := F0_Mo_count_B47_L he11
      have fe11 := Fo.tr (T := []) fe4 fe11
      have h := (ck_some h).2
      cases h
      exact fe11

set_option maxRecDepth 20000 in
theorem F0_Mo_follow_L17_J111 {x3 : Int32} {x5 : Int32} {x6 : Int32} {x7 : Int32} {x8 : Int32} {s0 : Int32} {M : QM} {res : (Int32 × QM) ⊕ (Int32 × Int32 × QM)} (h : Mo_follow_L17_J111 x3 x5 x6 x7 x8 s0 M = some res) : Fo [18] M ((Sum.elim (fun z => z.2) (fun z => z.2.2)) res) := by
  unfold Mo_follow_L17_J111 at h
  obtain ⟨q7, hq7, h⟩ := bd_some h
  cases h
  exact (Fo.i 18 Fo.rf (by decide))

set_option maxRecDepth 20000 in
theorem F0_Mo_follow_B17 {x3 : Int32} {v : Int32 × Int32 × QM} {res : (Int32 × QM) ⊕ (Int32 × Int32 × QM)} (h : Mo_follow_B17 x3 v = some res) : Fo [18] v.2.2 ((Sum.elim (fun z => z.2) (fun z => z.2.2)) res) := by
  unfold Mo_follow_B17 at h
  have h := (ck_some h).2
  by_cases hb : (v.2.2.1 12 (v.2.2.1 0 18).toNatClampNeg) ≤ 0
  · have h := ite_t hb h
    cases h
    exact Fo.rf
  · have h := ite_f hb h
    obtain ⟨e6, he6, h⟩ := bd_some h
    by_cases hb : v.2.1 = x3
    · have h := ite_t hb h
      exact Fo.tr (T := [18]) Fo.rf (F0_Mo_follow_L17_J111 h)
    · have h := ite_f hb h
      exact Fo.tr (T := [18]) Fo.rf (F0_Mo_follow_L17_J111 h)

theorem F0_Mo_follow_B17_L {x3 : Int32}  {v : Int32 × Int32 × QM} {k : Nat} {e : Int32 × QM} (h : iter (Mo_follow_B17 x3) k v = some e) : Fo [18] ((fun v => v.2.2) v) ((fun z => z.2) e) :=
  iter_Fo (Ga := (fun v => v.2.2)) (Gb := (fun z => z.2)) (fun a res hB => F0_Mo_follow_B17 hB) k v e h

set_option maxRecDepth 20000 in
theorem F0_Mo_follow {p1 : Int32} {p2 : Int32} {p3 : Int32} {M : QM} {res : Int32 × QM} (h : Mo_follow p1 p2 p3 M = some res) : Fo [18] M ((fun z => z.2) res) := by
  unfold Mo_follow at h
  obtain ⟨e8, he8, h⟩ := bd_some h
  have fe8 := F0_Mo_follow_B17_L he8
  have fe8 := Fo.tr (T := [18]) (Fo.i 18 Fo.rf (by decide)) fe8
  cases h
  exact fe8

set_option maxRecDepth 20000 in
theorem F0_Mo_end {p1 : Int32} {p2 : Int32} {M : QM} {res : Int32 × QM} (h : Mo_end p1 p2 M = some res) : Fo [15, 18] M ((fun z => z.2) res) := by
  unfold Mo_end at h
  obtain ⟨q1, hq1, h⟩ := bd_some h
  by_cases hb : q1 = 0
  · have h := ite_t hb h
    cases h
    exact Fo.rf
  · have h := ite_f hb h
    obtain ⟨q2, hq2, h⟩ := bd_some h
    have fq2 := Fo.tr (T := [15, 18]) Fo.rf (Fo.sub (F0_Mo_lay hq2) (by decide))
    have h := (ck_some h).2
    by_cases hb : (q2.1 11 (((60 : Int32) * p1) + p2).toNatClampNeg) = 0
    · have h := ite_t hb h
      obtain ⟨q4, hq4, h⟩ := bd_some h
      have fq4 := Fo.tr (T := [15, 18]) fq2 (Fo.sub (F0_Mo_follow hq4) (by decide))
      cases h
      exact fq4
    · have h := ite_f hb h
      cases h
      exact fq2

set_option maxRecDepth 20000 in
theorem F0_Mo_settle_B0 {v : QM} {res : (QM) ⊕ (QM)} (h : Mo_settle_B0 v = some res) : Fo [10] v ((Sum.elim (fun z => z) (fun z => z)) res) := by
  unfold Mo_settle_B0 at h
  by_cases hb : (v.1 0 10) ≤ 0
  · have h := ite_t hb h
    cases h
    exact Fo.rf
  · have h := ite_f hb h
    have h := (ck_some h).2
    by_cases hb : (v.1 9 ((v.1 0 10) - (1 : Int32)).toNatClampNeg) = 0
    · have h := ite_t hb h
      cases h
      exact (Fo.i 10 Fo.rf (by decide))
    · have h := ite_f hb h
      cases h
      exact Fo.rf

theorem F0_Mo_settle_B0_L  {v : QM} {k : Nat} {e : QM} (h : iter (Mo_settle_B0) k v = some e) : Fo [10] ((fun v => v) v) ((fun z => z) e) :=
  iter_Fo (Ga := (fun v => v)) (Gb := (fun z => z)) (fun a res hB => F0_Mo_settle_B0 hB) k v e h

set_option maxRecDepth 20000 in
theorem F0_Mo_settle_J34 {M : QM} {res : Int32 × QM} (h : Mo_settle_J34 M = some res) : Fo [10] M ((fun z => z.2) res) := by
  unfold Mo_settle_J34 at h
  by_cases hb : (M.1 0 10) = 0
  · have h := ite_t hb h
    cases h
    exact Fo.rf
  · have h := ite_f hb h
    have h := (ck_some h).2
    by_cases hb : (M.1 9 ((M.1 0 10) - (1 : Int32)).toNatClampNeg) = (100 : Int32)
    · have h := ite_t hb h
      cases h
      exact Fo.rf
    · have h := ite_f hb h
      cases h
      exact Fo.rf

set_option maxRecDepth 20000 in
theorem F0_Mo_settle {M : QM} {res : Int32 × QM} (h : Mo_settle M = some res) : Fo [10] M ((fun z => z.2) res) := by
  unfold Mo_settle at h
  obtain ⟨e2, he2, h⟩ := bd_some h
  have fe2 := F0_Mo_settle_B0_L he2
  have fe2 := Fo.tr (T := [10]) Fo.rf fe2
  exact Fo.tr (T := [10]) fe2 (F0_Mo_settle_J34 h)

set_option maxRecDepth 20000 in
theorem F0_Mo_faultOf_B14 {x1 : Int32} {v : Int32 × QM} {res : (QM) ⊕ (Int32 × QM)} (h : Mo_faultOf_B14 x1 v = some res) : Fo [6, 10, 14] v.2 ((Sum.elim (fun z => z) (fun z => z.2)) res) := by
  unfold Mo_faultOf_B14 at h
  by_cases hb : (8 : Int32) ≤ v.1
  · have h := ite_t hb h
    cases h
    exact Fo.rf
  · have h := ite_f hb h
    have h := (ck_some h).2
    cases h
    exact (Fo.o 7 Fo.rf (by decide))

theorem F0_Mo_faultOf_B14_L {x1 : Int32}  {v : Int32 × QM} {k : Nat} {e : QM} (h : iter (Mo_faultOf_B14 x1) k v = some e) : Fo [6, 10, 14] ((fun v => v.2) v) ((fun z => z) e) :=
  iter_Fo (Ga := (fun v => v.2)) (Gb := (fun z => z)) (fun a res hB => F0_Mo_faultOf_B14 hB) k v e h

set_option maxRecDepth 20000 in
theorem F0_Mo_faultOf_L36_J522 {x2 : Int32} {x4 : Int32} {M : QM} {res : ((Int32 × QM) ⊕ (Int32 × QM)) ⊕ (Int32 × Int32 × QM)} (h : Mo_faultOf_L36_J522 x2 x4 M = some res) : Fo [6, 10, 14] M ((Sum.elim (Sum.elim (fun z => z.2) (fun z => z.2)) (fun z => z.2.2)) res) := by
  unfold Mo_faultOf_L36_J522 at h
  by_cases hb : 0 ≤ x4
  · have h := ite_t hb h
    by_cases hb : x4 = (5 : Int32)
    · have h := ite_t hb h
      obtain ⟨q4, hq4, h⟩ := bd_some h
      have fq4 := Fo.tr (T := [6, 10, 14]) Fo.rf (Fo.sub (F0_Mo_settle hq4) (by decide))
      by_cases hb : q4.1 = (2 : Int32)
      · have h := ite_t hb h
        cases h
        exact fq4
      · have h := ite_f hb h
        by_cases hb : q4.1 = (1 : Int32)
        · have h := ite_t hb h
          cases h
          exact fq4
        · have h := ite_f hb h
          cases h
          exact fq4
    · have h := ite_f hb h
      cases h
      exact Fo.rf
  · have h := ite_f hb h
    cases h
    exact Fo.rf

set_option maxRecDepth 20000 in
theorem F0_Mo_faultOf_L36_J520 {x2 : Int32} {s0 : Int32} {M : QM} {res : ((Int32 × QM) ⊕ (Int32 × QM)) ⊕ (Int32 × Int32 × QM)} (h : Mo_faultOf_L36_J520 x2 s0 M = some res) : Fo [6, 10, 14] M ((Sum.elim (Sum.elim (fun z => z.2) (fun z => z.2)) (fun z => z.2.2)) res) := by
  unfold Mo_faultOf_L36_J520 at h
  exact Fo.tr (T := [6, 10, 14]) Fo.rf (F0_Mo_faultOf_L36_J522 h)

set_option maxRecDepth 20000 in
theorem F0_Mo_faultOf_L36_J500 {x2 : Int32} {x4 : Int32} {M : QM} {res : ((Int32 × QM) ⊕ (Int32 × QM)) ⊕ (Int32 × Int32 × QM)} (h : Mo_faultOf_L36_J500 x2 x4 M = some res) : Fo [6, 10, 14] M ((Sum.elim (Sum.elim (fun z => z.2) (fun z => z.2)) (fun z => z.2.2)) res) := by
  unfold Mo_faultOf_L36_J500 at h
  exact Fo.tr (T := [6, 10, 14]) Fo.rf (F0_Mo_faultOf_L36_J522 h)

set_option maxRecDepth 20000 in
theorem F0_Mo_faultOf_L36_J486 {x2 : Int32} {x4 : Int32} {x5 : Int32} {s0 : Int32} {s1 : Int32} {M : QM} {res : ((Int32 × QM) ⊕ (Int32 × QM)) ⊕ (Int32 × Int32 × QM)} (h : Mo_faultOf_L36_J486 x2 x4 x5 s0 s1 M = some res) : Fo [6, 10, 14] M ((Sum.elim (Sum.elim (fun z => z.2) (fun z => z.2)) (fun z => z.2.2)) res) := by
  unfold Mo_faultOf_L36_J486 at h
  by_cases hb : s1 = s0
  · have h := ite_t hb h
    have h := (ck_some h).2
    exact Fo.tr (T := [6, 10, 14]) (Fo.o 9 Fo.rf (by decide)) (F0_Mo_faultOf_L36_J500 h)
  · have h := ite_f hb h
    exact Fo.tr (T := [6, 10, 14]) Fo.rf (F0_Mo_faultOf_L36_J500 h)

set_option maxRecDepth 20000 in
theorem F0_Mo_faultOf_L36_J473 {x2 : Int32} {x3 : Int32} {x4 : Int32} {x5 : Int32} {x6 : Int32} {M : QM} {res : ((Int32 × QM) ⊕ (Int32 × QM)) ⊕ (Int32 × Int32 × QM)} (h : Mo_faultOf_L36_J473 x2 x3 x4 x5 x6 M = some res) : Fo [6, 10, 14] M ((Sum.elim (Sum.elim (fun z => z.2) (fun z => z.2)) (fun z => z.2.2)) res) := by
  unfold Mo_faultOf_L36_J473 at h
  by_cases hb : x6 = 0
  · have h := ite_t hb h
    exact Fo.tr (T := [6, 10, 14]) Fo.rf (F0_Mo_faultOf_L36_J486 h)
  · have h := ite_f hb h
    exact Fo.tr (T := [6, 10, 14]) Fo.rf (F0_Mo_faultOf_L36_J486 h)

set_option maxRecDepth 20000 in
theorem F0_Mo_faultOf_L36_J420 {x2 : Int32} {x3 : Int32} {x4 : Int32} {x5 : Int32} {s0 : Int32} {M : QM} {res : ((Int32 × QM) ⊕ (Int32 × QM)) ⊕ (Int32 × Int32 × QM)} (h : Mo_faultOf_L36_J420 x2 x3 x4 x5 s0 M = some res) : Fo [6, 10, 14] M ((Sum.elim (Sum.elim (fun z => z.2) (fun z => z.2)) (fun z => z.2.2)) res) := by
  unfold Mo_faultOf_L36_J420 at h
  obtain ⟨q7, hq7, h⟩ := bd_some h
  by_cases hb : q7 = 0
  · have h := ite_t hb h
    exact Fo.tr (T := [6, 10, 14]) Fo.rf (F0_Mo_faultOf_L36_J473 h)
  · have h := ite_f hb h
    have h := (ck_some h).2
    by_cases hb : (x3 - (97 : Int32)) ≤ (M.1 10 x5.toNatClampNeg)
    · have h := ite_t hb h
      exact Fo.tr (T := [6, 10, 14]) Fo.rf (F0_Mo_faultOf_L36_J473 h)
    · have h := ite_f hb h
      by_cases hb : (12 : Int32) < (M.1 0 10)
      · have h := ite_t hb h
        exact Fo.tr (T := [6, 10, 14]) Fo.rf (F0_Mo_faultOf_L36_J473 h)
      · have h := ite_f hb h
        have h := (ck_some h).2
        exact Fo.tr (T := [6, 10, 14]) (Fo.o 10 Fo.rf (by decide)) (F0_Mo_faultOf_L36_J500 h)

set_option maxRecDepth 20000 in
theorem F0_Mo_faultOf_B269 {x2 : Int32} {x3 : Int32} {x5 : Int32} {x6 : Int32} {x8 : Int32} {v : Int32 × QM} {res : (QM) ⊕ (Int32 × QM)} (h : Mo_faultOf_B269 x2 x3 x5 x6 x8 v = some res) : Fo [6, 10, 14] v.2 ((Sum.elim (fun z => z) (fun z => z.2)) res) := by
  unfold Mo_faultOf_B269 at h
  by_cases hb : (8 : Int32) ≤ v.1
  · have h := ite_t hb h
    cases h
    exact Fo.rf
  · have h := ite_f hb h
    have h := (ck_some h).2
    cases h
    exact (Fo.o 6 Fo.rf (by decide))

theorem F0_Mo_faultOf_B269_L {x2 : Int32} {x3 : Int32} {x5 : Int32} {x6 : Int32} {x8 : Int32}  {v : Int32 × QM} {k : Nat} {e : QM} (h : iter (Mo_faultOf_B269 x2 x3 x5 x6 x8) k v = some e) : Fo [6, 10, 14] ((fun v => v.2) v) ((fun z => z) e) :=
  iter_Fo (Ga := (fun v => v.2)) (Gb := (fun z => z)) (fun a res hB => F0_Mo_faultOf_B269 hB) k v e h

set_option maxRecDepth 20000 in
theorem F0_Mo_faultOf_L36_J382 {x2 : Int32} {x4 : Int32} {M : QM} {res : ((Int32 × QM) ⊕ (Int32 × QM)) ⊕ (Int32 × Int32 × QM)} (h : Mo_faultOf_L36_J382 x2 x4 M = some res) : Fo [6, 10, 14] M ((Sum.elim (Sum.elim (fun z => z.2) (fun z => z.2)) (fun z => z.2.2)) res) := by
  unfold Mo_faultOf_L36_J382 at h
  exact Fo.tr (T := [6, 10, 14]) Fo.rf (F0_Mo_faultOf_L36_J522 h)

set_option maxRecDepth 20000 in
theorem F0_Mo_faultOf_L36_J361 {x2 : Int32} {x4 : Int32} {s0 : Int32} {s1 : Int32} {M : QM} {res : ((Int32 × QM) ⊕ (Int32 × QM)) ⊕ (Int32 × Int32 × QM)} (h : Mo_faultOf_L36_J361 x2 x4 s0 s1 M = some res) : Fo [6, 10, 14] M ((Sum.elim (Sum.elim (fun z => z.2) (fun z => z.2)) (fun z => z.2.2)) res) := by
  unfold Mo_faultOf_L36_J361 at h
  have h := (ck_some h).2
  have h := (ck_some h).2
  exact Fo.tr (T := [6, 10, 14]) (Fo.i 10 (Fo.o 10 (Fo.o 9 Fo.rf (by decide)) (by decide)) (by decide)) (F0_Mo_faultOf_L36_J382 h)

set_option maxRecDepth 20000 in
theorem F0_Mo_faultOf_L36_J252 {x2 : Int32} {x3 : Int32} {x5 : Int32} {x6 : Int32} {M : QM} {res : ((Int32 × QM) ⊕ (Int32 × QM)) ⊕ (Int32 × Int32 × QM)} (h : Mo_faultOf_L36_J252 x2 x3 x5 x6 M = some res) : Fo [6, 10, 14] M ((Sum.elim (Sum.elim (fun z => z.2) (fun z => z.2)) (fun z => z.2.2)) res) := by
  unfold Mo_faultOf_L36_J252 at h
  have h := (ck_some h).2
  obtain ⟨e14, he14, h⟩ := bd_some h
  have fe14 := F0_Mo_faultOf_B269_L he14
  have fe14 := Fo.tr (T := [6, 10, 14]) (Fo.o 5 Fo.rf (by decide)) fe14
  obtain ⟨q15, hq15, h⟩ := bd_some h
  have fq15 := Fo.tr (T := [6, 10, 14]) (Fo.i 6 fe14 (by decide)) (Fo.sub (F0_Mo_come hq15) (by decide))
  by_cases hb : x6 = 0
  · have h := ite_t hb h
    have h := (ck_some h).2
    by_cases hb : x5 = 0
    · have h := ite_t hb h
      by_cases hb : x3 = (42 : Int32)
      · have h := ite_t hb h
        exact Fo.tr (T := [6, 10, 14]) (Fo.o 8 fq15 (by decide)) (F0_Mo_faultOf_L36_J361 h)
      · have h := ite_f hb h
        exact Fo.tr (T := [6, 10, 14]) (Fo.o 8 fq15 (by decide)) (F0_Mo_faultOf_L36_J361 h)
    · have h := ite_f hb h
      exact Fo.tr (T := [6, 10, 14]) (Fo.o 8 fq15 (by decide)) (F0_Mo_faultOf_L36_J361 h)
  · have h := ite_f hb h
    exact Fo.tr (T := [6, 10, 14]) fq15 (F0_Mo_faultOf_L36_J382 h)

set_option maxRecDepth 20000 in
theorem F0_Mo_faultOf_L36_J207 {x2 : Int32} {x3 : Int32} {x4 : Int32} {x5 : Int32} {x6 : Int32} {s0 : Int32} {M : QM} {res : ((Int32 × QM) ⊕ (Int32 × QM)) ⊕ (Int32 × Int32 × QM)} (h : Mo_faultOf_L36_J207 x2 x3 x4 x5 x6 s0 M = some res) : Fo [6, 10, 14] M ((Sum.elim (Sum.elim (fun z => z.2) (fun z => z.2)) (fun z => z.2.2)) res) := by
  unfold Mo_faultOf_L36_J207 at h
  obtain ⟨q11, hq11, h⟩ := bd_some h
  by_cases hb : q11 = 0
  · have h := ite_t hb h
    by_cases hb : x5 = 0
    · have h := ite_t hb h
      by_cases hb : x6 = 0
      · have h := ite_t hb h
        by_cases hb : s0 = 0
        · have h := ite_t hb h
          exact Fo.tr (T := [6, 10, 14]) Fo.rf (F0_Mo_faultOf_L36_J382 h)
        · have h := ite_f hb h
          exact Fo.tr (T := [6, 10, 14]) Fo.rf (F0_Mo_faultOf_L36_J252 h)
      · have h := ite_f hb h
        exact Fo.tr (T := [6, 10, 14]) Fo.rf (F0_Mo_faultOf_L36_J252 h)
    · have h := ite_f hb h
      exact Fo.tr (T := [6, 10, 14]) Fo.rf (F0_Mo_faultOf_L36_J252 h)
  · have h := ite_f hb h
    obtain ⟨q19, hq19, h⟩ := bd_some h
    have fq19 := Fo.tr (T := [6, 10, 14]) Fo.rf (Fo.sub (F0_Mo_come hq19) (by decide))
    exact Fo.tr (T := [6, 10, 14]) fq19 (F0_Mo_faultOf_L36_J382 h)

set_option maxRecDepth 20000 in
theorem F0_Mo_faultOf_L36_J206 {x2 : Int32} {x3 : Int32} {x4 : Int32} {x5 : Int32} {x6 : Int32} {M : QM} {res : ((Int32 × QM) ⊕ (Int32 × QM)) ⊕ (Int32 × Int32 × QM)} (h : Mo_faultOf_L36_J206 x2 x3 x4 x5 x6 M = some res) : Fo [6, 10, 14] M ((Sum.elim (Sum.elim (fun z => z.2) (fun z => z.2)) (fun z => z.2.2)) res) := by
  unfold Mo_faultOf_L36_J206 at h
  exact Fo.tr (T := [6, 10, 14]) Fo.rf (F0_Mo_faultOf_L36_J207 h)

set_option maxRecDepth 20000 in
theorem F0_Mo_faultOf_L36_J193 {x2 : Int32} {x3 : Int32} {x4 : Int32} {x5 : Int32} {x6 : Int32} {M : QM} {res : ((Int32 × QM) ⊕ (Int32 × QM)) ⊕ (Int32 × Int32 × QM)} (h : Mo_faultOf_L36_J193 x2 x3 x4 x5 x6 M = some res) : Fo [6, 10, 14] M ((Sum.elim (Sum.elim (fun z => z.2) (fun z => z.2)) (fun z => z.2.2)) res) := by
  unfold Mo_faultOf_L36_J193 at h
  by_cases hb : (12 : Int32) ≤ (M.1 0 10)
  · have h := ite_t hb h
    exact Fo.tr (T := [6, 10, 14]) Fo.rf (F0_Mo_faultOf_L36_J206 h)
  · have h := ite_f hb h
    exact Fo.tr (T := [6, 10, 14]) Fo.rf (F0_Mo_faultOf_L36_J207 h)

set_option maxRecDepth 20000 in
theorem F0_Mo_faultOf_L36_J179 {x2 : Int32} {x3 : Int32} {x4 : Int32} {x5 : Int32} {s0 : Int32} {M : QM} {res : ((Int32 × QM) ⊕ (Int32 × QM)) ⊕ (Int32 × Int32 × QM)} (h : Mo_faultOf_L36_J179 x2 x3 x4 x5 s0 M = some res) : Fo [6, 10, 14] M ((Sum.elim (Sum.elim (fun z => z.2) (fun z => z.2)) (fun z => z.2.2)) res) := by
  unfold Mo_faultOf_L36_J179 at h
  by_cases hb : x3 = (42 : Int32)
  · have h := ite_t hb h
    exact Fo.tr (T := [6, 10, 14]) Fo.rf (F0_Mo_faultOf_L36_J193 h)
  · have h := ite_f hb h
    by_cases hb : x3 = (62 : Int32)
    · have h := ite_t hb h
      exact Fo.tr (T := [6, 10, 14]) Fo.rf (F0_Mo_faultOf_L36_J193 h)
    · have h := ite_f hb h
      exact Fo.tr (T := [6, 10, 14]) Fo.rf (F0_Mo_faultOf_L36_J206 h)

set_option maxRecDepth 20000 in
theorem F0_Mo_faultOf_L36_J174 {x2 : Int32} {x3 : Int32} {x4 : Int32} {x5 : Int32} {M : QM} {res : ((Int32 × QM) ⊕ (Int32 × QM)) ⊕ (Int32 × Int32 × QM)} (h : Mo_faultOf_L36_J174 x2 x3 x4 x5 M = some res) : Fo [6, 10, 14] M ((Sum.elim (Sum.elim (fun z => z.2) (fun z => z.2)) (fun z => z.2.2)) res) := by
  unfold Mo_faultOf_L36_J174 at h
  exact Fo.tr (T := [6, 10, 14]) Fo.rf (F0_Mo_faultOf_L36_J179 h)

set_option maxRecDepth 20000 in
theorem F0_Mo_faultOf_L36_J142 {x2 : Int32} {x3 : Int32} {x4 : Int32} {s0 : Int32} {M : QM} {res : ((Int32 × QM) ⊕ (Int32 × QM)) ⊕ (Int32 × Int32 × QM)} (h : Mo_faultOf_L36_J142 x2 x3 x4 s0 M = some res) : Fo [6, 10, 14] M ((Sum.elim (Sum.elim (fun z => z.2) (fun z => z.2)) (fun z => z.2.2)) res) := by
  unfold Mo_faultOf_L36_J142 at h
  by_cases hb : x3 = (110 : Int32)
  · have h := ite_t hb h
    exact Fo.tr (T := [6, 10, 14]) Fo.rf (F0_Mo_faultOf_L36_J174 h)
  · have h := ite_f hb h
    by_cases hb : x3 = (116 : Int32)
    · have h := ite_t hb h
      exact Fo.tr (T := [6, 10, 14]) Fo.rf (F0_Mo_faultOf_L36_J174 h)
    · have h := ite_f hb h
      by_cases hb : x3 = (115 : Int32)
      · have h := ite_t hb h
        exact Fo.tr (T := [6, 10, 14]) Fo.rf (F0_Mo_faultOf_L36_J174 h)
      · have h := ite_f hb h
        by_cases hb : x3 = (46 : Int32)
        · have h := ite_t hb h
          exact Fo.tr (T := [6, 10, 14]) Fo.rf (F0_Mo_faultOf_L36_J174 h)
        · have h := ite_f hb h
          by_cases hb : x3 = (33 : Int32)
          · have h := ite_t hb h
            exact Fo.tr (T := [6, 10, 14]) Fo.rf (F0_Mo_faultOf_L36_J174 h)
          · have h := ite_f hb h
            exact Fo.tr (T := [6, 10, 14]) Fo.rf (F0_Mo_faultOf_L36_J179 h)

set_option maxRecDepth 20000 in
theorem F0_Mo_faultOf_L36_J137 {x2 : Int32} {x3 : Int32} {x4 : Int32} {M : QM} {res : ((Int32 × QM) ⊕ (Int32 × QM)) ⊕ (Int32 × Int32 × QM)} (h : Mo_faultOf_L36_J137 x2 x3 x4 M = some res) : Fo [6, 10, 14] M ((Sum.elim (Sum.elim (fun z => z.2) (fun z => z.2)) (fun z => z.2.2)) res) := by
  unfold Mo_faultOf_L36_J137 at h
  exact Fo.tr (T := [6, 10, 14]) Fo.rf (F0_Mo_faultOf_L36_J142 h)

set_option maxRecDepth 20000 in
theorem F0_Mo_faultOf_L36_J115 {x2 : Int32} {s0 : Int32} {M : QM} {res : ((Int32 × QM) ⊕ (Int32 × QM)) ⊕ (Int32 × Int32 × QM)} (h : Mo_faultOf_L36_J115 x2 s0 M = some res) : Fo [6, 10, 14] M ((Sum.elim (Sum.elim (fun z => z.2) (fun z => z.2)) (fun z => z.2.2)) res) := by
  unfold Mo_faultOf_L36_J115 at h
  exact Fo.tr (T := [6, 10, 14]) Fo.rf (F0_Mo_faultOf_L36_J522 h)

set_option maxRecDepth 20000 in
theorem F0_Mo_faultOf_B36 {v : Int32 × Int32 × QM} {res : ((Int32 × QM) ⊕ (Int32 × QM)) ⊕ (Int32 × Int32 × QM)} (h : Mo_faultOf_B36 v = some res) : Fo [6, 10, 14] v.2.2 ((Sum.elim (Sum.elim (fun z => z.2) (fun z => z.2)) (fun z => z.2.2)) res) := by
  unfold Mo_faultOf_B36 at h
  by_cases hb : (v.2.2.1 0 0) ≤ v.2.1
  · have h := ite_t hb h
    cases h
    exact Fo.rf
  · have h := ite_f hb h
    have h := (ck_some h).2
    by_cases hb : v.1 = 0
    · have h := ite_t hb h
      obtain ⟨q20, hq20, h⟩ := bd_some h
      by_cases hb : q20 = 0
      · have h := ite_t hb h
        exact Fo.tr (T := [6, 10, 14]) Fo.rf (F0_Mo_faultOf_L36_J522 h)
      · have h := ite_f hb h
        have h := (ck_some h).2
        by_cases hb : (v.2.2.1 7 ((v.2.2.1 1 v.2.1.toNatClampNeg) - (65 : Int32)).toNatClampNeg) = (-6 : Int32)
        · have h := ite_t hb h
          exact Fo.tr (T := [6, 10, 14]) (Fo.i 14 Fo.rf (by decide)) (F0_Mo_faultOf_L36_J522 h)
        · have h := ite_f hb h
          exact Fo.tr (T := [6, 10, 14]) Fo.rf (F0_Mo_faultOf_L36_J522 h)
    · have h := ite_f hb h
      by_cases hb : v.1 = (1 : Int32)
      · have h := ite_t hb h
        by_cases hb : (v.2.2.1 1 v.2.1.toNatClampNeg) = (61 : Int32)
        · have h := ite_t hb h
          exact Fo.tr (T := [6, 10, 14]) Fo.rf (F0_Mo_faultOf_L36_J115 h)
        · have h := ite_f hb h
          exact Fo.tr (T := [6, 10, 14]) Fo.rf (F0_Mo_faultOf_L36_J115 h)
      · have h := ite_f hb h
        by_cases hb : v.1 = (2 : Int32)
        · have h := ite_t hb h
          by_cases hb : (v.2.2.1 1 v.2.1.toNatClampNeg) = (123 : Int32)
          · have h := ite_t hb h
            exact Fo.tr (T := [6, 10, 14]) Fo.rf (F0_Mo_faultOf_L36_J137 h)
          · have h := ite_f hb h
            by_cases hb : (v.2.2.1 1 v.2.1.toNatClampNeg) = (91 : Int32)
            · have h := ite_t hb h
              exact Fo.tr (T := [6, 10, 14]) Fo.rf (F0_Mo_faultOf_L36_J137 h)
            · have h := ite_f hb h
              exact Fo.tr (T := [6, 10, 14]) Fo.rf (F0_Mo_faultOf_L36_J142 h)
        · have h := ite_f hb h
          by_cases hb : v.1 = (3 : Int32)
          · have h := ite_t hb h
            have h := (ck_some h).2
            have h := (ck_some h).2
            by_cases hb : (v.2.2.1 5 (v.2.2.1 8 ((v.2.2.1 0 10) - (1 : Int32)).toNatClampNeg).toNatClampNeg) = (123 : Int32)
            · have h := ite_t hb h
              exact Fo.tr (T := [6, 10, 14]) Fo.rf (F0_Mo_faultOf_L36_J420 h)
            · have h := ite_f hb h
              exact Fo.tr (T := [6, 10, 14]) Fo.rf (F0_Mo_faultOf_L36_J420 h)
          · have h := ite_f hb h
            by_cases hb : v.1 = (4 : Int32)
            · have h := ite_t hb h
              by_cases hb : (v.2.2.1 1 v.2.1.toNatClampNeg) = (59 : Int32)
              · have h := ite_t hb h
                exact Fo.tr (T := [6, 10, 14]) Fo.rf (F0_Mo_faultOf_L36_J520 h)
              · have h := ite_f hb h
                exact Fo.tr (T := [6, 10, 14]) Fo.rf (F0_Mo_faultOf_L36_J520 h)
            · have h := ite_f hb h
              exact Fo.tr (T := [6, 10, 14]) Fo.rf (F0_Mo_faultOf_L36_J522 h)

theorem F0_Mo_faultOf_B36_L  {v : Int32 × Int32 × QM} {k : Nat} {e : (Int32 × QM) ⊕ (Int32 × QM)} (h : iter (Mo_faultOf_B36) k v = some e) : Fo [6, 10, 14] ((fun v => v.2.2) v) ((Sum.elim (fun z => z.2) (fun z => z.2)) e) :=
  iter_Fo (Ga := (fun v => v.2.2)) (Gb := (Sum.elim (fun z => z.2) (fun z => z.2))) (fun a res hB => F0_Mo_faultOf_B36 hB) k v e h

set_option maxRecDepth 20000 in
theorem F0_Mo_faultOf {M : QM} {res : Int32 × QM} (h : Mo_faultOf M = some res) : Fo [6, 10, 14] M ((fun z => z.2) res) := by
  unfold Mo_faultOf at h
  obtain ⟨e2, he2, h⟩ := bd_some h
  have fe2 := F0_Mo_faultOf_B14_L he2
  have fe2 := Fo.tr (T := [6, 10, 14]) (Fo.i 10 (Fo.i 6 Fo.rf (by decide)) (by decide)) fe2
  obtain ⟨e22, he22, h⟩ := bd_some h
  have fe22 := F0_Mo_faultOf_B36_L he22
  have fe22 := Fo.tr (T := [6, 10, 14]) fe2 fe22
  cases e22 with
  | inl r22 =>
    have h := sum_l h
    cases h
    exact fe22
  | inr y22 =>
    have h := sum_r h
    by_cases hb : y22.1 = (4 : Int32)
    · have h := ite_t hb h
      cases h
      exact fe22
    · have h := ite_f hb h
      cases h
      exact fe22

set_option maxRecDepth 20000 in
theorem F0_Mo_fault {M : QM} {res : Int32 × QM} (h : Mo_fault M = some res) : Fo [6, 10, 14] M ((fun z => z.2) res) := by
  unfold Mo_fault at h
  obtain ⟨q1, hq1, h⟩ := bd_some h
  have fq1 := Fo.tr (T := [6, 10, 14]) Fo.rf (Fo.sub (F0_Mo_faultOf hq1) (by decide))
  cases h
  exact fq1

set_option maxRecDepth 20000 in
theorem F0_Mo_slipOf_L14_J414 {x2 : Int32} {x4 : Int32} {M : QM} {res : ((Int32 × QM) ⊕ (Int32 × QM)) ⊕ (Int32 × Int32 × QM)} (h : Mo_slipOf_L14_J414 x2 x4 M = some res) : Fo [24, 27] M ((Sum.elim (Sum.elim (fun z => z.2) (fun z => z.2)) (fun z => z.2.2)) res) := by
  unfold Mo_slipOf_L14_J414 at h
  by_cases hb : 0 ≤ x4
  · have h := ite_t hb h
    cases h
    exact Fo.rf
  · have h := ite_f hb h
    cases h
    exact Fo.rf

set_option maxRecDepth 20000 in
theorem F0_Mo_slipOf_L14_J412 {x2 : Int32} {s0 : Int32} {M : QM} {res : ((Int32 × QM) ⊕ (Int32 × QM)) ⊕ (Int32 × Int32 × QM)} (h : Mo_slipOf_L14_J412 x2 s0 M = some res) : Fo [24, 27] M ((Sum.elim (Sum.elim (fun z => z.2) (fun z => z.2)) (fun z => z.2.2)) res) := by
  unfold Mo_slipOf_L14_J412 at h
  exact Fo.tr (T := [24, 27]) Fo.rf (F0_Mo_slipOf_L14_J414 h)

set_option maxRecDepth 20000 in
theorem F0_Mo_slipOf_L14_J354 {x2 : Int32} {x4 : Int32} {x5 : Int32} {M : QM} {res : ((Int32 × QM) ⊕ (Int32 × QM)) ⊕ (Int32 × Int32 × QM)} (h : Mo_slipOf_L14_J354 x2 x4 x5 M = some res) : Fo [24, 27] M ((Sum.elim (Sum.elim (fun z => z.2) (fun z => z.2)) (fun z => z.2.2)) res) := by
  unfold Mo_slipOf_L14_J354 at h
  by_cases hb : x5 = 0
  · have h := ite_t hb h
    exact Fo.tr (T := [24, 27]) Fo.rf (F0_Mo_slipOf_L14_J414 h)
  · have h := ite_f hb h
    by_cases hb : (M.1 0 27) = 0
    · have h := ite_t hb h
      exact Fo.tr (T := [24, 27]) Fo.rf (F0_Mo_slipOf_L14_J412 h)
    · have h := ite_f hb h
      have h := (ck_some h).2
      by_cases hb : (M.1 17 ((M.1 0 27) - (1 : Int32)).toNatClampNeg) = (123 : Int32)
      · have h := ite_t hb h
        exact Fo.tr (T := [24, 27]) Fo.rf (F0_Mo_slipOf_L14_J412 h)
      · have h := ite_f hb h
        have h := (ck_some h).2
        by_cases hb : (M.1 17 ((M.1 0 27) - (1 : Int32)).toNatClampNeg) = (91 : Int32)
        · have h := ite_t hb h
          exact Fo.tr (T := [24, 27]) Fo.rf (F0_Mo_slipOf_L14_J412 h)
        · have h := ite_f hb h
          exact Fo.tr (T := [24, 27]) Fo.rf (F0_Mo_slipOf_L14_J412 h)

set_option maxRecDepth 20000 in
theorem F0_Mo_slipOf_L14_J177 {x1 : Int32} {x2 : Int32} {x3 : Int32} {x4 : Int32} {x5 : Int32} {s0 : Int32} {s1 : Int32} {M : QM} {res : ((Int32 × QM) ⊕ (Int32 × QM)) ⊕ (Int32 × Int32 × QM)} (h : Mo_slipOf_L14_J177 x1 x2 x3 x4 x5 s0 s1 M = some res) : Fo [24, 27] M ((Sum.elim (Sum.elim (fun z => z.2) (fun z => z.2)) (fun z => z.2.2)) res) := by
  unfold Mo_slipOf_L14_J177 at h
  by_cases hb : x1 = (5 : Int32)
  · have h := ite_t hb h
    by_cases hb : x3 = (41 : Int32)
    · have h := ite_t hb h
      exact Fo.tr (T := [24, 27]) (Fo.i 27 (Fo.i 24 Fo.rf (by decide)) (by decide)) (F0_Mo_slipOf_L14_J354 h)
    · have h := ite_f hb h
      exact Fo.tr (T := [24, 27]) (Fo.i 24 Fo.rf (by decide)) (F0_Mo_slipOf_L14_J354 h)
  · have h := ite_f hb h
    exact Fo.tr (T := [24, 27]) (Fo.i 24 Fo.rf (by decide)) (F0_Mo_slipOf_L14_J354 h)

set_option maxRecDepth 20000 in
theorem F0_Mo_slipOf_L14_J172 {x1 : Int32} {x2 : Int32} {x3 : Int32} {x4 : Int32} {x5 : Int32} {s0 : Int32} {M : QM} {res : ((Int32 × QM) ⊕ (Int32 × QM)) ⊕ (Int32 × Int32 × QM)} (h : Mo_slipOf_L14_J172 x1 x2 x3 x4 x5 s0 M = some res) : Fo [24, 27] M ((Sum.elim (Sum.elim (fun z => z.2) (fun z => z.2)) (fun z => z.2.2)) res) := by
  unfold Mo_slipOf_L14_J172 at h
  exact Fo.tr (T := [24, 27]) Fo.rf (F0_Mo_slipOf_L14_J177 h)

set_option maxRecDepth 20000 in
theorem F0_Mo_slipOf_L14_J157 {x1 : Int32} {x2 : Int32} {x3 : Int32} {x4 : Int32} {x5 : Int32} {M : QM} {res : ((Int32 × QM) ⊕ (Int32 × QM)) ⊕ (Int32 × Int32 × QM)} (h : Mo_slipOf_L14_J157 x1 x2 x3 x4 x5 M = some res) : Fo [24, 27] M ((Sum.elim (Sum.elim (fun z => z.2) (fun z => z.2)) (fun z => z.2.2)) res) := by
  unfold Mo_slipOf_L14_J157 at h
  by_cases hb : x5 = 0
  · have h := ite_t hb h
    by_cases hb : x4 < 0
    · have h := ite_t hb h
      exact Fo.tr (T := [24, 27]) Fo.rf (F0_Mo_slipOf_L14_J177 h)
    · have h := ite_f hb h
      exact Fo.tr (T := [24, 27]) Fo.rf (F0_Mo_slipOf_L14_J172 h)
  · have h := ite_f hb h
    exact Fo.tr (T := [24, 27]) Fo.rf (F0_Mo_slipOf_L14_J172 h)

set_option maxRecDepth 20000 in
theorem F0_Mo_slipOf_L14_J68 {x1 : Int32} {x2 : Int32} {x3 : Int32} {x4 : Int32} {M : QM} {res : ((Int32 × QM) ⊕ (Int32 × QM)) ⊕ (Int32 × Int32 × QM)} (h : Mo_slipOf_L14_J68 x1 x2 x3 x4 M = some res) : Fo [24, 27] M ((Sum.elim (Sum.elim (fun z => z.2) (fun z => z.2)) (fun z => z.2.2)) res) := by
  unfold Mo_slipOf_L14_J68 at h
  exact Fo.tr (T := [24, 27]) Fo.rf (F0_Mo_slipOf_L14_J157 h)

set_option maxRecDepth 20000 in
theorem F0_Mo_slipOf_L14_J155 {x1 : Int32} {x2 : Int32} {x3 : Int32} {x5 : Int32} {s0 : Int32} {M : QM} {res : ((Int32 × QM) ⊕ (Int32 × QM)) ⊕ (Int32 × Int32 × QM)} (h : Mo_slipOf_L14_J155 x1 x2 x3 x5 s0 M = some res) : Fo [24, 27] M ((Sum.elim (Sum.elim (fun z => z.2) (fun z => z.2)) (fun z => z.2.2)) res) := by
  unfold Mo_slipOf_L14_J155 at h
  exact Fo.tr (T := [24, 27]) Fo.rf (F0_Mo_slipOf_L14_J157 h)

set_option maxRecDepth 20000 in
theorem F0_Mo_slipOf_L14_J104 {x1 : Int32} {x2 : Int32} {x3 : Int32} {x5 : Int32} {M : QM} {res : ((Int32 × QM) ⊕ (Int32 × QM)) ⊕ (Int32 × Int32 × QM)} (h : Mo_slipOf_L14_J104 x1 x2 x3 x5 M = some res) : Fo [24, 27] M ((Sum.elim (Sum.elim (fun z => z.2) (fun z => z.2)) (fun z => z.2.2)) res) := by
  unfold Mo_slipOf_L14_J104 at h
  have h := (ck_some h).2
  have h := (ck_some h).2
  by_cases hb : x3 = (123 : Int32)
  · have h := ite_t hb h
    exact Fo.tr (T := [24, 27]) (Fo.i 27 (Fo.o 18 (Fo.o 17 Fo.rf (by decide)) (by decide)) (by decide)) (F0_Mo_slipOf_L14_J155 h)
  · have h := ite_f hb h
    by_cases hb : x3 = (91 : Int32)
    · have h := ite_t hb h
      exact Fo.tr (T := [24, 27]) (Fo.i 27 (Fo.o 18 (Fo.o 17 Fo.rf (by decide)) (by decide)) (by decide)) (F0_Mo_slipOf_L14_J155 h)
    · have h := ite_f hb h
      exact Fo.tr (T := [24, 27]) (Fo.i 27 (Fo.o 18 (Fo.o 17 Fo.rf (by decide)) (by decide)) (by decide)) (F0_Mo_slipOf_L14_J155 h)

set_option maxRecDepth 20000 in
theorem F0_Mo_slipOf_L14_J45 {x1 : Int32} {x2 : Int32} {x3 : Int32} {x4 : Int32} {x5 : Int32} {M : QM} {res : ((Int32 × QM) ⊕ (Int32 × QM)) ⊕ (Int32 × Int32 × QM)} (h : Mo_slipOf_L14_J45 x1 x2 x3 x4 x5 M = some res) : Fo [24, 27] M ((Sum.elim (Sum.elim (fun z => z.2) (fun z => z.2)) (fun z => z.2.2)) res) := by
  unfold Mo_slipOf_L14_J45 at h
  obtain ⟨q2, hq2, h⟩ := bd_some h
  by_cases hb : q2 = 0
  · have h := ite_t hb h
    by_cases hb : x3 = (84 : Int32)
    · have h := ite_t hb h
      exact Fo.tr (T := [24, 27]) Fo.rf (F0_Mo_slipOf_L14_J68 h)
    · have h := ite_f hb h
      by_cases hb : x3 = (70 : Int32)
      · have h := ite_t hb h
        exact Fo.tr (T := [24, 27]) Fo.rf (F0_Mo_slipOf_L14_J68 h)
      · have h := ite_f hb h
        by_cases hb : x3 = (36 : Int32)
        · have h := ite_t hb h
          exact Fo.tr (T := [24, 27]) Fo.rf (F0_Mo_slipOf_L14_J157 h)
        · have h := ite_f hb h
          by_cases hb : x3 = (123 : Int32)
          · have h := ite_t hb h
            exact Fo.tr (T := [24, 27]) Fo.rf (F0_Mo_slipOf_L14_J104 h)
          · have h := ite_f hb h
            by_cases hb : x3 = (91 : Int32)
            · have h := ite_t hb h
              exact Fo.tr (T := [24, 27]) Fo.rf (F0_Mo_slipOf_L14_J104 h)
            · have h := ite_f hb h
              by_cases hb : x3 = (40 : Int32)
              · have h := ite_t hb h
                exact Fo.tr (T := [24, 27]) Fo.rf (F0_Mo_slipOf_L14_J104 h)
              · have h := ite_f hb h
                exact Fo.tr (T := [24, 27]) Fo.rf (F0_Mo_slipOf_L14_J157 h)
  · have h := ite_f hb h
    exact Fo.tr (T := [24, 27]) Fo.rf (F0_Mo_slipOf_L14_J68 h)

set_option maxRecDepth 20000 in
theorem F0_Mo_slipOf_L14_J325 {x2 : Int32} {x5 : Int32} {s0 : Int32} {M : QM} {res : ((Int32 × QM) ⊕ (Int32 × QM)) ⊕ (Int32 × Int32 × QM)} (h : Mo_slipOf_L14_J325 x2 x5 s0 M = some res) : Fo [24, 27] M ((Sum.elim (Sum.elim (fun z => z.2) (fun z => z.2)) (fun z => z.2.2)) res) := by
  unfold Mo_slipOf_L14_J325 at h
  exact Fo.tr (T := [24, 27]) Fo.rf (F0_Mo_slipOf_L14_J354 h)

set_option maxRecDepth 20000 in
theorem F0_Mo_slipOf_L14_J281 {x2 : Int32} {x3 : Int32} {x4 : Int32} {x5 : Int32} {M : QM} {res : ((Int32 × QM) ⊕ (Int32 × QM)) ⊕ (Int32 × Int32 × QM)} (h : Mo_slipOf_L14_J281 x2 x3 x4 x5 M = some res) : Fo [24, 27] M ((Sum.elim (Sum.elim (fun z => z.2) (fun z => z.2)) (fun z => z.2.2)) res) := by
  unfold Mo_slipOf_L14_J281 at h
  by_cases hb : x3 = (125 : Int32)
  · have h := ite_t hb h
    exact Fo.tr (T := [24, 27]) (Fo.i 27 Fo.rf (by decide)) (F0_Mo_slipOf_L14_J354 h)
  · have h := ite_f hb h
    exact Fo.tr (T := [24, 27]) Fo.rf (F0_Mo_slipOf_L14_J354 h)

set_option maxRecDepth 20000 in
theorem F0_Mo_slipOf_B14 {v : Int32 × Int32 × QM} {res : ((Int32 × QM) ⊕ (Int32 × QM)) ⊕ (Int32 × Int32 × QM)} (h : Mo_slipOf_B14 v = some res) : Fo [24, 27] v.2.2 ((Sum.elim (Sum.elim (fun z => z.2) (fun z => z.2)) (fun z => z.2.2)) res) := by
  unfold Mo_slipOf_B14 at h
  by_cases hb : (v.2.2.1 0 0) ≤ v.2.1
  · have h := ite_t hb h
    cases h
    exact Fo.rf
  · have h := ite_f hb h
    have h := (ck_some h).2
    by_cases hb : v.1 = 0
    · have h := ite_t hb h
      exact Fo.tr (T := [24, 27]) Fo.rf (F0_Mo_slipOf_L14_J45 h)
    · have h := ite_f hb h
      by_cases hb : v.1 = (5 : Int32)
      · have h := ite_t hb h
        exact Fo.tr (T := [24, 27]) Fo.rf (F0_Mo_slipOf_L14_J45 h)
      · have h := ite_f hb h
        by_cases hb : v.1 = (1 : Int32)
        · have h := ite_t hb h
          obtain ⟨q11, hq11, h⟩ := bd_some h
          exact Fo.tr (T := [24, 27]) Fo.rf (F0_Mo_slipOf_L14_J354 h)
        · have h := ite_f hb h
          by_cases hb : v.1 = (2 : Int32)
          · have h := ite_t hb h
            obtain ⟨q8, hq8, h⟩ := bd_some h
            by_cases hb : q8 = 0
            · have h := ite_t hb h
              exact Fo.tr (T := [24, 27]) Fo.rf (F0_Mo_slipOf_L14_J281 h)
            · have h := ite_f hb h
              have h := (ck_some h).2
              by_cases hb : ((v.2.2.1 1 v.2.1.toNatClampNeg) - (97 : Int32)) ≤ (v.2.2.1 18 ((v.2.2.1 0 27) - (1 : Int32)).toNatClampNeg)
              · have h := ite_t hb h
                exact Fo.tr (T := [24, 27]) Fo.rf (F0_Mo_slipOf_L14_J281 h)
              · have h := ite_f hb h
                have h := (ck_some h).2
                exact Fo.tr (T := [24, 27]) (Fo.o 18 Fo.rf (by decide)) (F0_Mo_slipOf_L14_J354 h)
          · have h := ite_f hb h
            by_cases hb : v.1 = (3 : Int32)
            · have h := ite_t hb h
              obtain ⟨q7, hq7, h⟩ := bd_some h
              by_cases hb : q7 = 0
              · have h := ite_t hb h
                exact Fo.tr (T := [24, 27]) Fo.rf (F0_Mo_slipOf_L14_J325 h)
              · have h := ite_f hb h
                exact Fo.tr (T := [24, 27]) Fo.rf (F0_Mo_slipOf_L14_J325 h)
            · have h := ite_f hb h
              by_cases hb : v.1 = (4 : Int32)
              · have h := ite_t hb h
                by_cases hb : (v.2.2.1 1 v.2.1.toNatClampNeg) = (93 : Int32)
                · have h := ite_t hb h
                  exact Fo.tr (T := [24, 27]) (Fo.i 27 Fo.rf (by decide)) (F0_Mo_slipOf_L14_J354 h)
                · have h := ite_f hb h
                  exact Fo.tr (T := [24, 27]) Fo.rf (F0_Mo_slipOf_L14_J354 h)
              · have h := ite_f hb h
                exact Fo.tr (T := [24, 27]) Fo.rf (F0_Mo_slipOf_L14_J354 h)

theorem F0_Mo_slipOf_B14_L  {v : Int32 × Int32 × QM} {k : Nat} {e : (Int32 × QM) ⊕ (Int32 × QM)} (h : iter (Mo_slipOf_B14) k v = some e) : Fo [24, 27] ((fun v => v.2.2) v) ((Sum.elim (fun z => z.2) (fun z => z.2)) e) :=
  iter_Fo (Ga := (fun v => v.2.2)) (Gb := (Sum.elim (fun z => z.2) (fun z => z.2))) (fun a res hB => F0_Mo_slipOf_B14 hB) k v e h

set_option maxRecDepth 20000 in
theorem F0_Mo_slipOf {M : QM} {res : Int32 × QM} (h : Mo_slipOf M = some res) : Fo [24, 27] M ((fun z => z.2) res) := by
  unfold Mo_slipOf at h
  obtain ⟨e12, he12, h⟩ := bd_some h
  have fe12 := F0_Mo_slipOf_B14_L he12
  have fe12 := Fo.tr (T := [24, 27]) (Fo.i 27 (Fo.i 24 Fo.rf (by decide)) (by decide)) fe12
  cases e12 with
  | inl r12 =>
    have h := sum_l h
    cases h
    exact fe12
  | inr y12 =>
    have h := sum_r h
    by_cases hb : y12.1 = (6 : Int32)
    · have h := ite_t hb h
      cases h
      exact fe12
    · have h := ite_f hb h
      cases h
      exact fe12

set_option maxRecDepth 20000 in
theorem F0_Mo_fits_B133 {x3 : Int32} {x4 : Int32} {x8 : Int32} {M : QM} {v : Int32} {res : ((Int32 × QM) ⊕ (Unit)) ⊕ (Int32)} (h : Mo_fits_B133 x3 x4 x8 M v = some res) : Fo [24, 27] M ((Sum.elim (Sum.elim (fun z => z.2) (fun _ => M)) (fun _ => M)) res) := by
  unfold Mo_fits_B133 at h
  by_cases hb : (8 : Int32) ≤ v
  · have h := ite_t hb h
    cases h
    exact Fo.rf
  · have h := ite_f hb h
    by_cases hb : x4 = (125 : Int32)
    · have h := ite_t hb h
      by_cases hb : x8 < 0
      · have h := ite_t hb h
        cases h
        exact Fo.rf
      · have h := ite_f hb h
        have h := (ck_some h).2
        by_cases hb : (M.1 3 (((8 : Int32) * x8) + v).toNatClampNeg) < 0
        · have h := ite_t hb h
          cases h
          exact Fo.rf
        · have h := ite_f hb h
          have h := (ck_some h).2
          by_cases hb : (((M.1 20 (M.1 0 27).toNatClampNeg) >>> (v &&& 31)) &&& (1 : Int32)) = 0
          · have h := ite_t hb h
            cases h
            exact Fo.rf
          · have h := ite_f hb h
            cases h
            exact Fo.rf
    · have h := ite_f hb h
      cases h
      exact Fo.rf

theorem F0_Mo_fits_B133_L {x3 : Int32} {x4 : Int32} {x8 : Int32} {M : QM}  {v : Int32} {k : Nat} {e : (Int32 × QM) ⊕ (Unit)} (h : iter (Mo_fits_B133 x3 x4 x8 M) k v = some e) : Fo [24, 27] ((fun _ => M) v) ((Sum.elim (fun z => z.2) (fun _ => M)) e) :=
  iter_Fo (Ga := (fun _ => M)) (Gb := (Sum.elim (fun z => z.2) (fun _ => M))) (fun a res hB => F0_Mo_fits_B133 hB) k v e h

set_option maxRecDepth 20000 in
theorem F0_Mo_fits_L29_J486 {x3 : Int32} {M : QM} {res : ((Int32 × QM) ⊕ (QM)) ⊕ (Int32 × Int32 × QM)} (h : Mo_fits_L29_J486 x3 M = some res) : Fo [24, 27] M ((Sum.elim (Sum.elim (fun z => z.2) (fun z => z)) (fun z => z.2.2)) res) := by
  unfold Mo_fits_L29_J486 at h
  by_cases hb : (M.1 0 27) ≤ 0
  · have h := ite_t hb h
    cases h
    exact Fo.rf
  · have h := ite_f hb h
    have h := (ck_some h).2
    by_cases hb : (M.1 17 ((M.1 0 27) - (1 : Int32)).toNatClampNeg) = (40 : Int32)
    · have h := ite_t hb h
      obtain ⟨q9, hq9, h⟩ := bd_some h
      cases h
      exact Fo.rf
    · have h := ite_f hb h
      cases h
      exact Fo.rf

set_option maxRecDepth 20000 in
theorem F0_Mo_fits_L29_J193 {x3 : Int32} {M : QM} {res : ((Int32 × QM) ⊕ (QM)) ⊕ (Int32 × Int32 × QM)} (h : Mo_fits_L29_J193 x3 M = some res) : Fo [24, 27] M ((Sum.elim (Sum.elim (fun z => z.2) (fun z => z)) (fun z => z.2.2)) res) := by
  unfold Mo_fits_L29_J193 at h
  exact Fo.tr (T := [24, 27]) Fo.rf (F0_Mo_fits_L29_J486 h)

set_option maxRecDepth 20000 in
theorem F0_Mo_fits_L29_J109 {x3 : Int32} {x4 : Int32} {M : QM} {res : ((Int32 × QM) ⊕ (QM)) ⊕ (Int32 × Int32 × QM)} (h : Mo_fits_L29_J109 x3 x4 M = some res) : Fo [24, 27] M ((Sum.elim (Sum.elim (fun z => z.2) (fun z => z)) (fun z => z.2.2)) res) := by
  unfold Mo_fits_L29_J109 at h
  have h := (ck_some h).2
  obtain ⟨e7, he7, h⟩ := bd_some h
  have fe7 := F0_Mo_fits_B133_L he7
  have fe7 := Fo.tr (T := [24, 27]) (Fo.i 27 Fo.rf (by decide)) fe7
  cases e7 with
  | inl r7 =>
    have h := sum_l h
    cases h
    exact fe7
  | inr y7 =>
    have h := sum_r h
    exact Fo.tr (T := [24, 27]) (Fo.i 27 Fo.rf (by decide)) (F0_Mo_fits_L29_J193 h)

set_option maxRecDepth 20000 in
theorem F0_Mo_fits_L29_J332 {x3 : Int32} {s0 : Int32} {s1 : Int32} {M : QM} {res : ((Int32 × QM) ⊕ (QM)) ⊕ (Int32 × Int32 × QM)} (h : Mo_fits_L29_J332 x3 s0 s1 M = some res) : Fo [24, 27] M ((Sum.elim (Sum.elim (fun z => z.2) (fun z => z)) (fun z => z.2.2)) res) := by
  unfold Mo_fits_L29_J332 at h
  obtain ⟨q10, hq10, h⟩ := bd_some h
  have fq10 := Fo.tr (T := [24, 27]) Fo.rf (Fo.sub (F0_Mo_begin hq10) (by decide))
  exact Fo.tr (T := [24, 27]) fq10 (F0_Mo_fits_L29_J486 h)

set_option maxRecDepth 20000 in
theorem F0_Mo_fits_L29_J317 {x3 : Int32} {x4 : Int32} {x5 : Int32} {x7 : Int32} {M : QM} {res : ((Int32 × QM) ⊕ (QM)) ⊕ (Int32 × Int32 × QM)} (h : Mo_fits_L29_J317 x3 x4 x5 x7 M = some res) : Fo [24, 27] M ((Sum.elim (Sum.elim (fun z => z.2) (fun z => z)) (fun z => z.2.2)) res) := by
  unfold Mo_fits_L29_J317 at h
  by_cases hb : x7 = 0
  · have h := ite_t hb h
    exact Fo.tr (T := [24, 27]) Fo.rf (F0_Mo_fits_L29_J332 h)
  · have h := ite_f hb h
    exact Fo.tr (T := [24, 27]) Fo.rf (F0_Mo_fits_L29_J332 h)

set_option maxRecDepth 20000 in
theorem F0_Mo_fits_L29_J312 {x3 : Int32} {x4 : Int32} {x5 : Int32} {x7 : Int32} {s0 : Int32} {s1 : Int32} {M : QM} {res : ((Int32 × QM) ⊕ (QM)) ⊕ (Int32 × Int32 × QM)} (h : Mo_fits_L29_J312 x3 x4 x5 x7 s0 s1 M = some res) : Fo [24, 27] M ((Sum.elim (Sum.elim (fun z => z.2) (fun z => z)) (fun z => z.2.2)) res) := by
  unfold Mo_fits_L29_J312 at h
  by_cases hb : s1 = s0
  · have h := ite_t hb h
    exact Fo.tr (T := [24, 27]) Fo.rf (F0_Mo_fits_L29_J317 h)
  · have h := ite_f hb h
    cases h
    exact Fo.rf

set_option maxRecDepth 20000 in
theorem F0_Mo_fits_L29_J291 {x3 : Int32} {x4 : Int32} {x5 : Int32} {x6 : Int32} {x7 : Int32} {M : QM} {res : ((Int32 × QM) ⊕ (QM)) ⊕ (Int32 × Int32 × QM)} (h : Mo_fits_L29_J291 x3 x4 x5 x6 x7 M = some res) : Fo [24, 27] M ((Sum.elim (Sum.elim (fun z => z.2) (fun z => z)) (fun z => z.2.2)) res) := by
  unfold Mo_fits_L29_J291 at h
  by_cases hb : x7 = 0
  · have h := ite_t hb h
    by_cases hb : x4 = (123 : Int32)
    · have h := ite_t hb h
      exact Fo.tr (T := [24, 27]) Fo.rf (F0_Mo_fits_L29_J312 h)
    · have h := ite_f hb h
      exact Fo.tr (T := [24, 27]) Fo.rf (F0_Mo_fits_L29_J312 h)
  · have h := ite_f hb h
    exact Fo.tr (T := [24, 27]) Fo.rf (F0_Mo_fits_L29_J317 h)

set_option maxRecDepth 20000 in
theorem F0_Mo_fits_L29_J484 {s0 : Int32} {s1 : Int32} {M : QM} {res : ((Int32 × QM) ⊕ (QM)) ⊕ (Int32 × Int32 × QM)} (h : Mo_fits_L29_J484 s0 s1 M = some res) : Fo [24, 27] M ((Sum.elim (Sum.elim (fun z => z.2) (fun z => z)) (fun z => z.2.2)) res) := by
  unfold Mo_fits_L29_J484 at h
  exact Fo.tr (T := [24, 27]) Fo.rf (F0_Mo_fits_L29_J486 h)

set_option maxRecDepth 20000 in
theorem F0_Mo_fits_L29_J471 {x3 : Int32} {x4 : Int32} {M : QM} {res : ((Int32 × QM) ⊕ (QM)) ⊕ (Int32 × Int32 × QM)} (h : Mo_fits_L29_J471 x3 x4 M = some res) : Fo [24, 27] M ((Sum.elim (Sum.elim (fun z => z.2) (fun z => z)) (fun z => z.2.2)) res) := by
  unfold Mo_fits_L29_J471 at h
  by_cases hb : x4 = (36 : Int32)
  · have h := ite_t hb h
    exact Fo.tr (T := [24, 27]) Fo.rf (F0_Mo_fits_L29_J484 h)
  · have h := ite_f hb h
    exact Fo.tr (T := [24, 27]) Fo.rf (F0_Mo_fits_L29_J484 h)

set_option maxRecDepth 20000 in
theorem F0_Mo_fits_L29_J455 {x3 : Int32} {x4 : Int32} {x6 : Int32} {x7 : Int32} {s0 : Int32} {M : QM} {res : ((Int32 × QM) ⊕ (QM)) ⊕ (Int32 × Int32 × QM)} (h : Mo_fits_L29_J455 x3 x4 x6 x7 s0 M = some res) : Fo [24, 27] M ((Sum.elim (Sum.elim (fun z => z.2) (fun z => z)) (fun z => z.2.2)) res) := by
  unfold Mo_fits_L29_J455 at h
  by_cases hb : x7 = 0
  · have h := ite_t hb h
    by_cases hb : x6 = s0
    · have h := ite_t hb h
      exact Fo.tr (T := [24, 27]) Fo.rf (F0_Mo_fits_L29_J471 h)
    · have h := ite_f hb h
      cases h
      exact Fo.rf
  · have h := ite_f hb h
    exact Fo.tr (T := [24, 27]) Fo.rf (F0_Mo_fits_L29_J471 h)

set_option maxRecDepth 20000 in
theorem F0_Mo_fits_L29_J448 {x3 : Int32} {x4 : Int32} {x6 : Int32} {x7 : Int32} {M : QM} {res : ((Int32 × QM) ⊕ (QM)) ⊕ (Int32 × Int32 × QM)} (h : Mo_fits_L29_J448 x3 x4 x6 x7 M = some res) : Fo [24, 27] M ((Sum.elim (Sum.elim (fun z => z.2) (fun z => z)) (fun z => z.2.2)) res) := by
  unfold Mo_fits_L29_J448 at h
  exact Fo.tr (T := [24, 27]) Fo.rf (F0_Mo_fits_L29_J455 h)

set_option maxRecDepth 20000 in
theorem F0_Mo_fits_L29_J406 {x3 : Int32} {x8 : Int32} {s0 : Int32} {s1 : Int32} {M : QM} {res : ((Int32 × QM) ⊕ (QM)) ⊕ (Int32 × Int32 × QM)} (h : Mo_fits_L29_J406 x3 x8 s0 s1 M = some res) : Fo [24, 27] M ((Sum.elim (Sum.elim (fun z => z.2) (fun z => z)) (fun z => z.2.2)) res) := by
  unfold Mo_fits_L29_J406 at h
  obtain ⟨q12, hq12, h⟩ := bd_some h
  have fq12 := Fo.tr (T := [24, 27]) Fo.rf (Fo.sub (F0_Mo_begin hq12) (by decide))
  obtain ⟨q13, hq13, h⟩ := bd_some h
  cases h
  exact fq12

set_option maxRecDepth 20000 in
theorem F0_Mo_fits_L29_J391 {x3 : Int32} {x4 : Int32} {x5 : Int32} {x7 : Int32} {x8 : Int32} {M : QM} {res : ((Int32 × QM) ⊕ (QM)) ⊕ (Int32 × Int32 × QM)} (h : Mo_fits_L29_J391 x3 x4 x5 x7 x8 M = some res) : Fo [24, 27] M ((Sum.elim (Sum.elim (fun z => z.2) (fun z => z)) (fun z => z.2.2)) res) := by
  unfold Mo_fits_L29_J391 at h
  by_cases hb : x7 = 0
  · have h := ite_t hb h
    exact Fo.tr (T := [24, 27]) Fo.rf (F0_Mo_fits_L29_J406 h)
  · have h := ite_f hb h
    exact Fo.tr (T := [24, 27]) Fo.rf (F0_Mo_fits_L29_J406 h)

set_option maxRecDepth 20000 in
theorem F0_Mo_fits_L29_J277 {x3 : Int32} {x4 : Int32} {x5 : Int32} {x6 : Int32} {x7 : Int32} {M : QM} {res : ((Int32 × QM) ⊕ (QM)) ⊕ (Int32 × Int32 × QM)} (h : Mo_fits_L29_J277 x3 x4 x5 x6 x7 M = some res) : Fo [24, 27] M ((Sum.elim (Sum.elim (fun z => z.2) (fun z => z)) (fun z => z.2.2)) res) := by
  unfold Mo_fits_L29_J277 at h
  by_cases hb : x4 = (123 : Int32)
  · have h := ite_t hb h
    exact Fo.tr (T := [24, 27]) Fo.rf (F0_Mo_fits_L29_J291 h)
  · have h := ite_f hb h
    by_cases hb : x4 = (40 : Int32)
    · have h := ite_t hb h
      exact Fo.tr (T := [24, 27]) Fo.rf (F0_Mo_fits_L29_J291 h)
    · have h := ite_f hb h
      by_cases hb : x4 = (91 : Int32)
      · have h := ite_t hb h
        have h := (ck_some h).2
        by_cases hb : x7 = 0
        · have h := ite_t hb h
          by_cases hb : x6 = (91 : Int32)
          · have h := ite_t hb h
            have h := (ck_some h).2
            by_cases hb : 0 ≤ (M.1 3 (((8 : Int32) * x5) + ((M.1 1 (x3 + (1 : Int32)).toNatClampNeg) - (97 : Int32))).toNatClampNeg)
            · have h := ite_t hb h
              exact Fo.tr (T := [24, 27]) Fo.rf (F0_Mo_fits_L29_J391 h)
            · have h := ite_f hb h
              cases h
              exact Fo.rf
          · have h := ite_f hb h
            cases h
            exact Fo.rf
        · have h := ite_f hb h
          exact Fo.tr (T := [24, 27]) Fo.rf (F0_Mo_fits_L29_J391 h)
      · have h := ite_f hb h
        by_cases hb : x4 = (36 : Int32)
        · have h := ite_t hb h
          exact Fo.tr (T := [24, 27]) Fo.rf (F0_Mo_fits_L29_J455 h)
        · have h := ite_f hb h
          by_cases hb : x4 = (84 : Int32)
          · have h := ite_t hb h
            exact Fo.tr (T := [24, 27]) Fo.rf (F0_Mo_fits_L29_J448 h)
          · have h := ite_f hb h
            by_cases hb : x4 = (70 : Int32)
            · have h := ite_t hb h
              exact Fo.tr (T := [24, 27]) Fo.rf (F0_Mo_fits_L29_J448 h)
            · have h := ite_f hb h
              exact Fo.tr (T := [24, 27]) Fo.rf (F0_Mo_fits_L29_J455 h)

set_option maxRecDepth 20000 in
theorem F0_Mo_fits_L29_J86 {x2 : Int32} {x3 : Int32} {x4 : Int32} {x5 : Int32} {x6 : Int32} {s0 : Int32} {M : QM} {res : ((Int32 × QM) ⊕ (QM)) ⊕ (Int32 × Int32 × QM)} (h : Mo_fits_L29_J86 x2 x3 x4 x5 x6 s0 M = some res) : Fo [24, 27] M ((Sum.elim (Sum.elim (fun z => z.2) (fun z => z)) (fun z => z.2.2)) res) := by
  unfold Mo_fits_L29_J86 at h
  by_cases hb : x4 = (125 : Int32)
  · have h := ite_t hb h
    exact Fo.tr (T := [24, 27]) Fo.rf (F0_Mo_fits_L29_J109 h)
  · have h := ite_f hb h
    by_cases hb : x4 = (93 : Int32)
    · have h := ite_t hb h
      exact Fo.tr (T := [24, 27]) Fo.rf (F0_Mo_fits_L29_J109 h)
    · have h := ite_f hb h
      by_cases hb : x4 = (41 : Int32)
      · have h := ite_t hb h
        exact Fo.tr (T := [24, 27]) Fo.rf (F0_Mo_fits_L29_J109 h)
      · have h := ite_f hb h
        by_cases hb : (M.1 0 27) ≤ 0
        · have h := ite_t hb h
          exact Fo.tr (T := [24, 27]) Fo.rf (F0_Mo_fits_L29_J277 h)
        · have h := ite_f hb h
          have h := (ck_some h).2
          by_cases hb : (M.1 17 ((M.1 0 27) - (1 : Int32)).toNatClampNeg) = (123 : Int32)
          · have h := ite_t hb h
            obtain ⟨q16, hq16, h⟩ := bd_some h
            by_cases hb : q16 = 0
            · have h := ite_t hb h
              exact Fo.tr (T := [24, 27]) Fo.rf (F0_Mo_fits_L29_J277 h)
            · have h := ite_f hb h
              by_cases hb : x2 = (100000 : Int32)
              · have h := ite_t hb h
                have h := (ck_some h).2
                have h := (ck_some h).2
                obtain ⟨q19, hq19, h⟩ := bd_some h
                cases h
                exact (Fo.o 20 Fo.rf (by decide))
              · have h := ite_f hb h
                exact Fo.tr (T := [24, 27]) Fo.rf (F0_Mo_fits_L29_J277 h)
          · have h := ite_f hb h
            exact Fo.tr (T := [24, 27]) Fo.rf (F0_Mo_fits_L29_J277 h)

set_option maxRecDepth 20000 in
theorem F0_Mo_fits_L29_J72 {x2 : Int32} {x3 : Int32} {x4 : Int32} {x5 : Int32} {s0 : Int32} {M : QM} {res : ((Int32 × QM) ⊕ (QM)) ⊕ (Int32 × Int32 × QM)} (h : Mo_fits_L29_J72 x2 x3 x4 x5 s0 M = some res) : Fo [24, 27] M ((Sum.elim (Sum.elim (fun z => z.2) (fun z => z)) (fun z => z.2.2)) res) := by
  unfold Mo_fits_L29_J72 at h
  by_cases hb : s0 = (46 : Int32)
  · have h := ite_t hb h
    exact Fo.tr (T := [24, 27]) Fo.rf (F0_Mo_fits_L29_J86 h)
  · have h := ite_f hb h
    exact Fo.tr (T := [24, 27]) Fo.rf (F0_Mo_fits_L29_J86 h)

set_option maxRecDepth 20000 in
theorem F0_Mo_fits_L29_J60 {x2 : Int32} {x3 : Int32} {x4 : Int32} {x5 : Int32} {M : QM} {res : ((Int32 × QM) ⊕ (QM)) ⊕ (Int32 × Int32 × QM)} (h : Mo_fits_L29_J60 x2 x3 x4 x5 M = some res) : Fo [24, 27] M ((Sum.elim (Sum.elim (fun z => z.2) (fun z => z)) (fun z => z.2.2)) res) := by
  unfold Mo_fits_L29_J60 at h
  exact Fo.tr (T := [24, 27]) Fo.rf (F0_Mo_fits_L29_J72 h)

set_option maxRecDepth 20000 in
theorem F0_Mo_fits_B29 {v : Int32 × Int32 × QM} {res : ((Int32 × QM) ⊕ (QM)) ⊕ (Int32 × Int32 × QM)} (h : Mo_fits_B29 v = some res) : Fo [24, 27] v.2.2 ((Sum.elim (Sum.elim (fun z => z.2) (fun z => z)) (fun z => z.2.2)) res) := by
  unfold Mo_fits_B29 at h
  by_cases hb : (v.2.2.1 0 0) ≤ v.2.1
  · have h := ite_t hb h
    cases h
    exact Fo.rf
  · have h := ite_f hb h
    have h := (ck_some h).2
    by_cases hb : v.1 < 0
    · have h := ite_t hb h
      exact Fo.tr (T := [24, 27]) Fo.rf (F0_Mo_fits_L29_J60 h)
    · have h := ite_f hb h
      by_cases hb : v.1 = (100000 : Int32)
      · have h := ite_t hb h
        exact Fo.tr (T := [24, 27]) Fo.rf (F0_Mo_fits_L29_J60 h)
      · have h := ite_f hb h
        have h := (ck_some h).2
        exact Fo.tr (T := [24, 27]) Fo.rf (F0_Mo_fits_L29_J72 h)

theorem F0_Mo_fits_B29_L  {v : Int32 × Int32 × QM} {k : Nat} {e : (Int32 × QM) ⊕ (QM)} (h : iter (Mo_fits_B29) k v = some e) : Fo [24, 27] ((fun v => v.2.2) v) ((Sum.elim (fun z => z.2) (fun z => z)) e) :=
  iter_Fo (Ga := (fun v => v.2.2)) (Gb := (Sum.elim (fun z => z.2) (fun z => z))) (fun a res hB => F0_Mo_fits_B29 hB) k v e h

set_option maxRecDepth 20000 in
theorem F0_Mo_fits {p1 : Int32} {M : QM} {res : Int32 × QM} (h : Mo_fits p1 M = some res) : Fo [24, 27] M ((fun z => z.2) res) := by
  unfold Mo_fits at h
  obtain ⟨q1, hq1, h⟩ := bd_some h
  by_cases hb : q1 = 0
  · have h := ite_t hb h
    cases h
    exact Fo.rf
  · have h := ite_f hb h
    obtain ⟨q2, hq2, h⟩ := bd_some h
    have fq2 := Fo.tr (T := [24, 27]) Fo.rf (Fo.sub (F0_Mo_slipOf hq2) (by decide))
    by_cases hb : q2.1 < 0
    · have h := ite_t hb h
      obtain ⟨e21, he21, h⟩ := bd_some h
      have fe21 := F0_Mo_fits_B29_L he21
      have fe21 := Fo.tr (T := [24, 27]) (Fo.i 27 fq2 (by decide)) fe21
      cases e21 with
      | inl r21 =>
        have h := sum_l h
        cases h
        exact fe21
      | inr y21 =>
        have h := sum_r h
        cases h
        exact fe21
    · have h := ite_f hb h
      cases h
      exact fq2

set_option maxRecDepth 20000 in
theorem F0_Mo_waitFor {p1 : Int32} {p2 : Int32} {p3 : Int32} {p4 : Int32} {M : QM} {res : QM} (h : Mo_waitFor p1 p2 p3 p4 M = some res) : Fo [21] M ((fun z => z) res) := by
  unfold Mo_waitFor at h
  have h := (ck_some h).2
  have h := (ck_some h).2
  cases h
  exact (Fo.i 21 (Fo.o 16 (Fo.o 15 Fo.rf (by decide)) (by decide)) (by decide))

set_option maxRecDepth 20000 in
theorem F0_Mo_shape_B93 {x1 : Int32} {x2 : Int32} {x3 : Int32} {x4 : Int32} {x5 : Int32} {x6 : Int32} {v : Int32 × QM} {res : (QM) ⊕ (Int32 × QM)} (h : Mo_shape_B93 x1 x2 x3 x4 x5 x6 v = some res) : Fo [21] v.2 ((Sum.elim (fun z => z) (fun z => z.2)) res) := by
  unfold Mo_shape_B93 at h
  by_cases hb : (8 : Int32) ≤ v.1
  · have h := ite_t hb h
    cases h
    exact Fo.rf
  · have h := ite_f hb h
    have h := (ck_some h).2
    cases h
    exact (Fo.o 3 Fo.rf (by decide))

theorem F0_Mo_shape_B93_L {x1 : Int32} {x2 : Int32} {x3 : Int32} {x4 : Int32} {x5 : Int32} {x6 : Int32}  {v : Int32 × QM} {k : Nat} {e : QM} (h : iter (Mo_shape_B93 x1 x2 x3 x4 x5 x6) k v = some e) : Fo [21] ((fun v => v.2) v) ((fun z => z) e) :=
  iter_Fo (Ga := (fun v => v.2)) (Gb := (fun z => z)) (fun a res hB => F0_Mo_shape_B93 hB) k v e h

set_option maxRecDepth 20000 in
theorem F0_Mo_shape_L273_J365 {x1 : Int32} {x2 : Int32} {x3 : Int32} {x4 : Int32} {x7 : Int32} {x8 : Int32} {s0 : Int32} {s1 : Int32} {M : QM} {res : (QM) ⊕ (Int32 × QM)} (h : Mo_shape_L273_J365 x1 x2 x3 x4 x7 x8 s0 s1 M = some res) : Fo [21] M ((Sum.elim (fun z => z) (fun z => z.2)) res) := by
  unfold Mo_shape_L273_J365 at h
  have h := (ck_some h).2
  cases h
  exact (Fo.o 3 Fo.rf (by decide))

set_option maxRecDepth 20000 in
theorem F0_Mo_shape_L273_J336 {x1 : Int32} {x2 : Int32} {x3 : Int32} {x4 : Int32} {x7 : Int32} {x8 : Int32} {x9 : Int32} {x10 : Int32} {M : QM} {res : (QM) ⊕ (Int32 × QM)} (h : Mo_shape_L273_J336 x1 x2 x3 x4 x7 x8 x9 x10 M = some res) : Fo [21] M ((Sum.elim (fun z => z) (fun z => z.2)) res) := by
  unfold Mo_shape_L273_J336 at h
  by_cases hb : x7 = 0
  · have h := ite_t hb h
    cases h
    exact Fo.rf
  · have h := ite_f hb h
    by_cases hb : x9 < 0
    · have h := ite_t hb h
      exact Fo.tr (T := [21]) Fo.rf (F0_Mo_shape_L273_J365 h)
    · have h := ite_f hb h
      exact Fo.tr (T := [21]) Fo.rf (F0_Mo_shape_L273_J365 h)

set_option maxRecDepth 20000 in
theorem F0_Mo_shape_B273 {x1 : Int32} {x2 : Int32} {x3 : Int32} {x4 : Int32} {x7 : Int32} {v : Int32 × QM} {res : (QM) ⊕ (Int32 × QM)} (h : Mo_shape_B273 x1 x2 x3 x4 x7 v = some res) : Fo [21] v.2 ((Sum.elim (fun z => z) (fun z => z.2)) res) := by
  unfold Mo_shape_B273 at h
  by_cases hb : v.1 < 0
  · have h := ite_t hb h
    cases h
    exact Fo.rf
  · have h := ite_f hb h
    have h := (ck_some h).2
    have h := (ck_some h).2
    by_cases hb : (v.2.1 3 (((8 : Int32) * x1) + v.1).toNatClampNeg) < 0
    · have h := ite_t hb h
      exact Fo.tr (T := [21]) Fo.rf (F0_Mo_shape_L273_J336 h)
    · have h := ite_f hb h
      by_cases hb : (v.2.1 3 (((8 : Int32) * x2) + v.1).toNatClampNeg) < 0
      · have h := ite_t hb h
        exact Fo.tr (T := [21]) Fo.rf (F0_Mo_shape_L273_J336 h)
      · have h := ite_f hb h
        obtain ⟨q9, hq9, h⟩ := bd_some h
        have fq9 := Fo.tr (T := [21]) Fo.rf (Fo.sub (F0_Mo_waitFor hq9) (by decide))
        cases h
        exact fq9

theorem F0_Mo_shape_B273_L {x1 : Int32} {x2 : Int32} {x3 : Int32} {x4 : Int32} {x7 : Int32}  {v : Int32 × QM} {k : Nat} {e : QM} (h : iter (Mo_shape_B273 x1 x2 x3 x4 x7) k v = some e) : Fo [21] ((fun v => v.2) v) ((fun z => z) e) :=
  iter_Fo (Ga := (fun v => v.2)) (Gb := (fun z => z)) (fun a res hB => F0_Mo_shape_B273 hB) k v e h

set_option maxRecDepth 20000 in
theorem F0_Mo_shape_J267 {x1 : Int32} {x2 : Int32} {x3 : Int32} {x4 : Int32} {s0 : Int32} {M : QM} {res : QM} (h : Mo_shape_J267 x1 x2 x3 x4 s0 M = some res) : Fo [21] M ((fun z => z) res) := by
  unfold Mo_shape_J267 at h
  obtain ⟨e10, he10, h⟩ := bd_some h
  have fe10 := F0_Mo_shape_B273_L he10
  have fe10 := Fo.tr (T := [21]) Fo.rf fe10
  cases h
  exact fe10

set_option maxRecDepth 20000 in
theorem F0_Mo_shape_J259 {x1 : Int32} {x2 : Int32} {x3 : Int32} {x4 : Int32} {s0 : Int32} {s1 : Int32} {M : QM} {res : QM} (h : Mo_shape_J259 x1 x2 x3 x4 s0 s1 M = some res) : Fo [21] M ((fun z => z) res) := by
  unfold Mo_shape_J259 at h
  by_cases hb : s1 = s0
  · have h := ite_t hb h
    exact Fo.tr (T := [21]) Fo.rf (F0_Mo_shape_J267 h)
  · have h := ite_f hb h
    exact Fo.tr (T := [21]) Fo.rf (F0_Mo_shape_J267 h)

set_option maxRecDepth 20000 in
theorem F0_Mo_shape_J250 {x1 : Int32} {x2 : Int32} {x3 : Int32} {x4 : Int32} {s0 : Int32} {M : QM} {res : QM} (h : Mo_shape_J250 x1 x2 x3 x4 s0 M = some res) : Fo [21] M ((fun z => z) res) := by
  unfold Mo_shape_J250 at h
  by_cases hb : x3 = 0
  · have h := ite_t hb h
    exact Fo.tr (T := [21]) Fo.rf (F0_Mo_shape_J259 h)
  · have h := ite_f hb h
    exact Fo.tr (T := [21]) Fo.rf (F0_Mo_shape_J259 h)

set_option maxRecDepth 20000 in
theorem F0_Mo_shape_J89 {x1 : Int32} {x2 : Int32} {x3 : Int32} {x4 : Int32} {x5 : Int32} {x6 : Int32} {s0 : Int32} {s1 : Int32} {M : QM} {res : QM} (h : Mo_shape_J89 x1 x2 x3 x4 x5 x6 s0 s1 M = some res) : Fo [21] M ((fun z => z) res) := by
  unfold Mo_shape_J89 at h
  have h := (ck_some h).2
  obtain ⟨e5, he5, h⟩ := bd_some h
  have fe5 := F0_Mo_shape_B93_L he5
  have fe5 := Fo.tr (T := [21]) (Fo.o 2 Fo.rf (by decide)) fe5
  by_cases hb : x5 = (42 : Int32)
  · have h := ite_t hb h
    have h := (ck_some h).2
    have h := (ck_some h).2
    obtain ⟨q19, hq19, h⟩ := bd_some h
    have fq19 := Fo.tr (T := [21]) fe5 (Fo.sub (F0_Mo_waitFor hq19) (by decide))
    cases h
    exact fq19
  · have h := ite_f hb h
    by_cases hb : x5 = (62 : Int32)
    · have h := ite_t hb h
      have h := (ck_some h).2
      have h := (ck_some h).2
      obtain ⟨q13, hq13, h⟩ := bd_some h
      have fq13 := Fo.tr (T := [21]) fe5 (Fo.sub (F0_Mo_waitFor hq13) (by decide))
      have h := (ck_some h).2
      have h := (ck_some h).2
      obtain ⟨q16, hq16, h⟩ := bd_some h
      have fq16 := Fo.tr (T := [21]) fq13 (Fo.sub (F0_Mo_waitFor hq16) (by decide))
      cases h
      exact fq16
    · have h := ite_f hb h
      by_cases hb : x6 = 0
      · have h := ite_t hb h
        cases h
        exact fe5
      · have h := ite_f hb h
        by_cases hb : x5 = (91 : Int32)
        · have h := ite_t hb h
          exact Fo.tr (T := [21]) fe5 (F0_Mo_shape_J250 h)
        · have h := ite_f hb h
          exact Fo.tr (T := [21]) fe5 (F0_Mo_shape_J250 h)

set_option maxRecDepth 20000 in
theorem F0_Mo_shape_J60 {x1 : Int32} {x2 : Int32} {x3 : Int32} {x4 : Int32} {x5 : Int32} {s0 : Int32} {M : QM} {res : QM} (h : Mo_shape_J60 x1 x2 x3 x4 x5 s0 M = some res) : Fo [21] M ((fun z => z) res) := by
  unfold Mo_shape_J60 at h
  by_cases hb : s0 = 0
  · have h := ite_t hb h
    by_cases hb : x3 = 0
    · have h := ite_t hb h
      exact Fo.tr (T := [21]) Fo.rf (F0_Mo_shape_J89 h)
    · have h := ite_f hb h
      exact Fo.tr (T := [21]) Fo.rf (F0_Mo_shape_J89 h)
  · have h := ite_f hb h
    exact Fo.tr (T := [21]) Fo.rf (F0_Mo_shape_J89 h)

set_option maxRecDepth 20000 in
theorem F0_Mo_shape_J55 {x1 : Int32} {x2 : Int32} {x3 : Int32} {x4 : Int32} {x5 : Int32} {M : QM} {res : QM} (h : Mo_shape_J55 x1 x2 x3 x4 x5 M = some res) : Fo [21] M ((fun z => z) res) := by
  unfold Mo_shape_J55 at h
  exact Fo.tr (T := [21]) Fo.rf (F0_Mo_shape_J60 h)

set_option maxRecDepth 20000 in
theorem F0_Mo_shape_J25 {x1 : Int32} {x2 : Int32} {x3 : Int32} {x4 : Int32} {s0 : Int32} {M : QM} {res : QM} (h : Mo_shape_J25 x1 x2 x3 x4 s0 M = some res) : Fo [21] M ((fun z => z) res) := by
  unfold Mo_shape_J25 at h
  by_cases hb : s0 = (123 : Int32)
  · have h := ite_t hb h
    exact Fo.tr (T := [21]) Fo.rf (F0_Mo_shape_J55 h)
  · have h := ite_f hb h
    by_cases hb : s0 = (91 : Int32)
    · have h := ite_t hb h
      exact Fo.tr (T := [21]) Fo.rf (F0_Mo_shape_J55 h)
    · have h := ite_f hb h
      by_cases hb : s0 = (42 : Int32)
      · have h := ite_t hb h
        exact Fo.tr (T := [21]) Fo.rf (F0_Mo_shape_J55 h)
      · have h := ite_f hb h
        by_cases hb : s0 = (62 : Int32)
        · have h := ite_t hb h
          exact Fo.tr (T := [21]) Fo.rf (F0_Mo_shape_J55 h)
        · have h := ite_f hb h
          exact Fo.tr (T := [21]) Fo.rf (F0_Mo_shape_J60 h)

set_option maxRecDepth 20000 in
theorem F0_Mo_shape {p1 : Int32} {p2 : Int32} {p3 : Int32} {p4 : Int32} {M : QM} {res : QM} (h : Mo_shape p1 p2 p3 p4 M = some res) : Fo [21] M ((fun z => z) res) := by
  unfold Mo_shape at h
  have h := (ck_some h).2
  have h := (ck_some h).2
  by_cases hb : (M.1 2 p1.toNatClampNeg) = (M.1 2 p2.toNatClampNeg)
  · have h := ite_t hb h
    have h := (ck_some h).2
    exact Fo.tr (T := [21]) Fo.rf (F0_Mo_shape_J25 h)
  · have h := ite_f hb h
    exact Fo.tr (T := [21]) Fo.rf (F0_Mo_shape_J25 h)

set_option maxRecDepth 20000 in
theorem F0_Mo_join_B36 {x1 : Int32} {x2 : Int32} {x3 : Int32} {x4 : Int32} {v : Int32 × QM} {res : (QM) ⊕ (Int32 × QM)} (h : Mo_join_B36 x1 x2 x3 x4 v = some res) : Fo [2, 15, 21] v.2 ((Sum.elim (fun z => z) (fun z => z.2)) res) := by
  unfold Mo_join_B36 at h
  by_cases hb : (7200 : Int32) ≤ v.1
  · have h := ite_t hb h
    cases h
    exact Fo.rf
  · have h := ite_f hb h
    have h := (ck_some h).2
    cases h
    exact (Fo.o 14 Fo.rf (by decide))

theorem F0_Mo_join_B36_L {x1 : Int32} {x2 : Int32} {x3 : Int32} {x4 : Int32}  {v : Int32 × QM} {k : Nat} {e : QM} (h : iter (Mo_join_B36 x1 x2 x3 x4) k v = some e) : Fo [2, 15, 21] ((fun v => v.2) v) ((fun z => z) e) :=
  iter_Fo (Ga := (fun v => v.2)) (Gb := (fun z => z)) (fun a res hB => F0_Mo_join_B36 hB) k v e h

set_option maxRecDepth 20000 in
theorem F0_Mo_join_L76_J204 {x4 : Int32} {x5 : Int32} {x7 : Int32} {x10 : Int32} {M : QM} {res : ((Int32 × QM) ⊕ (Int32 × Int32 × QM)) ⊕ (Int32 × Int32 × QM)} (h : Mo_join_L76_J204 x4 x5 x7 x10 M = some res) : Fo [2, 15, 21] M ((Sum.elim (Sum.elim (fun z => z.2) (fun z => z.2.2)) (fun z => z.2.2)) res) := by
  unfold Mo_join_L76_J204 at h
  by_cases hb : 0 ≤ x7
  · have h := ite_t hb h
    have h := (ck_some h).2
    cases h
    exact (Fo.o 3 Fo.rf (by decide))
  · have h := ite_f hb h
    cases h
    exact Fo.rf

set_option maxRecDepth 20000 in
theorem F0_Mo_join_L76_J159 {x4 : Int32} {x5 : Int32} {x6 : Int32} {x7 : Int32} {x8 : Int32} {x9 : Int32} {x10 : Int32} {M : QM} {res : ((Int32 × QM) ⊕ (Int32 × Int32 × QM)) ⊕ (Int32 × Int32 × QM)} (h : Mo_join_L76_J159 x4 x5 x6 x7 x8 x9 x10 M = some res) : Fo [2, 15, 21] M ((Sum.elim (Sum.elim (fun z => z.2) (fun z => z.2.2)) (fun z => z.2.2)) res) := by
  unfold Mo_join_L76_J159 at h
  by_cases hb : 0 ≤ x10
  · have h := ite_t hb h
    exact Fo.tr (T := [2, 15, 21]) Fo.rf (F0_Mo_join_L76_J204 h)
  · have h := ite_f hb h
    by_cases hb : x4 = (60 : Int32)
    · have h := ite_t hb h
      cases h
      exact Fo.rf
    · have h := ite_f hb h
      have h := (ck_some h).2
      obtain ⟨q12, hq12, h⟩ := bd_some h
      have fq12 := Fo.tr (T := [2, 15, 21]) (Fo.o 14 Fo.rf (by decide)) (Fo.sub (F0_Mo_shape hq12) (by decide))
      exact Fo.tr (T := [2, 15, 21]) fq12 (F0_Mo_join_L76_J204 h)

set_option maxRecDepth 20000 in
theorem F0_Mo_join_B76 {v : Int32 × Int32 × QM} {res : ((Int32 × QM) ⊕ (Int32 × Int32 × QM)) ⊕ (Int32 × Int32 × QM)} (h : Mo_join_B76 v = some res) : Fo [2, 15, 21] v.2.2 ((Sum.elim (Sum.elim (fun z => z.2) (fun z => z.2.2)) (fun z => z.2.2)) res) := by
  unfold Mo_join_B76 at h
  by_cases hb : (v.2.2.1 0 21) ≤ 0
  · have h := ite_t hb h
    cases h
    exact Fo.rf
  · have h := ite_f hb h
    have h := (ck_some h).2
    have h := (ck_some h).2
    obtain ⟨q9, hq9, h⟩ := bd_some h
    by_cases hb : 0 ≤ q9
    · have h := ite_t hb h
      exact Fo.tr (T := [2, 15, 21]) (Fo.i 21 Fo.rf (by decide)) (F0_Mo_join_L76_J159 h)
    · have h := ite_f hb h
      have h := (ck_some h).2
      exact Fo.tr (T := [2, 15, 21]) (Fo.i 21 Fo.rf (by decide)) (F0_Mo_join_L76_J159 h)

theorem F0_Mo_join_B76_L  {v : Int32 × Int32 × QM} {k : Nat} {e : (Int32 × QM) ⊕ (Int32 × Int32 × QM)} (h : iter (Mo_join_B76) k v = some e) : Fo [2, 15, 21] ((fun v => v.2.2) v) ((Sum.elim (fun z => z.2) (fun z => z.2.2)) e) :=
  iter_Fo (Ga := (fun v => v.2.2)) (Gb := (Sum.elim (fun z => z.2) (fun z => z.2.2))) (fun a res hB => F0_Mo_join_B76 hB) k v e h

set_option maxRecDepth 20000 in
theorem F0_Mo_join {p1 : Int32} {p2 : Int32} {p3 : Int32} {M : QM} {res : Int32 × QM} (h : Mo_join p1 p2 p3 M = some res) : Fo [2, 15, 21] M ((fun z => z.2) res) := by
  unfold Mo_join at h
  obtain ⟨q1, hq1, h⟩ := bd_some h
  by_cases hb : q1 = 0
  · have h := ite_t hb h
    cases h
    exact Fo.rf
  · have h := ite_f hb h
    obtain ⟨q2, hq2, h⟩ := bd_some h
    by_cases hb : q2 = 0
    · have h := ite_t hb h
      cases h
      exact Fo.rf
    · have h := ite_f hb h
      obtain ⟨q3, hq3, h⟩ := bd_some h
      have fq3 := Fo.tr (T := [2, 15, 21]) Fo.rf (Fo.sub (F0_Mo_lay hq3) (by decide))
      obtain ⟨e5, he5, h⟩ := bd_some h
      have fe5 := F0_Mo_join_B36_L he5
      have fe5 := Fo.tr (T := [2, 15, 21]) fq3 fe5
      obtain ⟨q6, hq6, h⟩ := bd_some h
      have fq6 := Fo.tr (T := [2, 15, 21]) (Fo.i 21 fe5 (by decide)) (Fo.sub (F0_Mo_waitFor hq6) (by decide))
      obtain ⟨e14, he14, h⟩ := bd_some h
      have fe14 := F0_Mo_join_B76_L he14
      have fe14 := Fo.tr (T := [2, 15, 21]) fq6 fe14
      cases e14 with
      | inl r14 =>
        have h := sum_l h
        cases h
        exact fe14
      | inr y14 =>
        have h := sum_r h
        by_cases hb : y14.1 ≤ (y14.2.2.1 0 2)
        · have h := ite_t hb h
          cases h
          exact fe14
        · have h := ite_f hb h
          cases h
          exact (Fo.i 15 (Fo.i 2 fe14 (by decide)) (by decide))

set_option maxRecDepth 20000 in
theorem F0_Mo_layLeast_B2 {v : Int32 × QM} {res : (QM) ⊕ (Int32 × QM)} (h : Mo_layLeast_B2 v = some res) : Fo [] v.2 ((Sum.elim (fun z => z) (fun z => z.2)) res) := by
  unfold Mo_layLeast_B2 at h
  by_cases hb : (v.2.1 0 2) ≤ v.1
  · have h := ite_t hb h
    cases h
    exact Fo.rf
  · have h := ite_f hb h
    have h := (ck_some h).2
    cases h
    exact (Fo.o 24 Fo.rf (by decide))

theorem F0_Mo_layLeast_B2_L  {v : Int32 × QM} {k : Nat} {e : QM} (h : iter (Mo_layLeast_B2) k v = some e) : Fo [] ((fun v => v.2) v) ((fun z => z) e) :=
  iter_Fo (Ga := (fun v => v.2)) (Gb := (fun z => z)) (fun a res hB => F0_Mo_layLeast_B2 hB) k v e h

set_option maxRecDepth 20000 in
theorem F0_Mo_layLeast_L59_J98 {x1 : Int32} {x2 : Int32} {x3 : Int32} {x5 : Int32} {x6 : Int32} {x7 : Int32} {s0 : Int32} {s1 : Int32} {M : QM} {res : (Int32 × Int32) ⊕ (Int32 × Int32 × Int32)} (h : Mo_layLeast_L59_J98 x1 x2 x3 x5 x6 x7 s0 s1 M = some res) : Fo [] M ((Sum.elim (fun _ => M) (fun _ => M)) res) := by
  unfold Mo_layLeast_L59_J98 at h
  by_cases hb : x7 < 0
  · have h := ite_t hb h
    cases h
    exact Fo.rf
  · have h := ite_f hb h
    have h := (ck_some h).2
    by_cases hb : x5 ≤ (M.1 24 x7.toNatClampNeg)
    · have h := ite_t hb h
      cases h
      exact Fo.rf
    · have h := ite_f hb h
      have h := (ck_some h).2
      cases h
      exact Fo.rf

set_option maxRecDepth 20000 in
theorem F0_Mo_layLeast_L34_J192 {x1 : Int32} {x2 : Int32} {s0 : Int32} {M : QM} {res : (Int32 × QM) ⊕ (Int32 × Int32 × QM)} (h : Mo_layLeast_L34_J192 x1 x2 s0 M = some res) : Fo [] M ((Sum.elim (fun z => z.2) (fun z => z.2.2)) res) := by
  unfold Mo_layLeast_L34_J192 at h
  have h := (ck_some h).2
  by_cases hb : (M.1 24 x2.toNatClampNeg) ≤ s0
  · have h := ite_t hb h
    cases h
    exact Fo.rf
  · have h := ite_f hb h
    have h := (ck_some h).2
    cases h
    exact (Fo.o 24 Fo.rf (by decide))

set_option maxRecDepth 20000 in
theorem F0_Mo_layLeast_L34_J162 {x1 : Int32} {x2 : Int32} {M : QM} {res : (Int32 × QM) ⊕ (Int32 × Int32 × QM)} (h : Mo_layLeast_L34_J162 x1 x2 M = some res) : Fo [] M ((Sum.elim (fun z => z.2) (fun z => z.2.2)) res) := by
  unfold Mo_layLeast_L34_J162 at h
  exact Fo.tr (T := []) Fo.rf (F0_Mo_layLeast_L34_J192 h)

set_option maxRecDepth 20000 in
theorem F0_Mo_layLeast_B34 {v : Int32 × Int32 × QM} {res : (Int32 × QM) ⊕ (Int32 × Int32 × QM)} (h : Mo_layLeast_B34 v = some res) : Fo [] v.2.2 ((Sum.elim (fun z => z.2) (fun z => z.2.2)) res) := by
  unfold Mo_layLeast_B34 at h
  by_cases hb : (v.2.2.1 0 2) ≤ v.2.1
  · have h := ite_t hb h
    cases h
    exact Fo.rf
  · have h := ite_f hb h
    have h := (ck_some h).2
    obtain ⟨e8, he8, h⟩ := bd_some h
    by_cases hb : (v.2.2.1 2 v.2.1.toNatClampNeg) = (110 : Int32)
    · have h := ite_t hb h
      exact Fo.tr (T := []) Fo.rf (F0_Mo_layLeast_L34_J162 h)
    · have h := ite_f hb h
      by_cases hb : (v.2.2.1 2 v.2.1.toNatClampNeg) = (116 : Int32)
      · have h := ite_t hb h
        exact Fo.tr (T := []) Fo.rf (F0_Mo_layLeast_L34_J162 h)
      · have h := ite_f hb h
        by_cases hb : (v.2.2.1 2 v.2.1.toNatClampNeg) = (115 : Int32)
        · have h := ite_t hb h
          exact Fo.tr (T := []) Fo.rf (F0_Mo_layLeast_L34_J162 h)
        · have h := ite_f hb h
          by_cases hb : (v.2.2.1 2 v.2.1.toNatClampNeg) = (42 : Int32)
          · have h := ite_t hb h
            exact Fo.tr (T := []) Fo.rf (F0_Mo_layLeast_L34_J162 h)
          · have h := ite_f hb h
            by_cases hb : (v.2.2.1 2 v.2.1.toNatClampNeg) = (123 : Int32)
            · have h := ite_t hb h
              exact Fo.tr (T := []) Fo.rf (F0_Mo_layLeast_L34_J192 h)
            · have h := ite_f hb h
              by_cases hb : (v.2.2.1 2 v.2.1.toNatClampNeg) = (91 : Int32)
              · have h := ite_t hb h
                exact Fo.tr (T := []) Fo.rf (F0_Mo_layLeast_L34_J192 h)
              · have h := ite_f hb h
                exact Fo.tr (T := []) Fo.rf (F0_Mo_layLeast_L34_J192 h)

theorem F0_Mo_layLeast_B34_L  {v : Int32 × Int32 × QM} {k : Nat} {e : Int32 × QM} (h : iter (Mo_layLeast_B34) k v = some e) : Fo [] ((fun v => v.2.2) v) ((fun z => z.2) e) :=
  iter_Fo (Ga := (fun v => v.2.2)) (Gb := (fun z => z.2)) (fun a res hB => F0_Mo_layLeast_B34 hB) k v e h

set_option maxRecDepth 20000 in
theorem F0_Mo_layLeast_B26 {v : Int32 × QM} {res : (QM) ⊕ (Int32 × QM)} (h : Mo_layLeast_B26 v = some res) : Fo [] v.2 ((Sum.elim (fun z => z) (fun z => z.2)) res) := by
  unfold Mo_layLeast_B26 at h
  by_cases hb : v.1 = 0
  · have h := ite_t hb h
    cases h
    exact Fo.rf
  · have h := ite_f hb h
    obtain ⟨e11, he11, h⟩ := bd_some h
    have fe11 := F0_Mo_layLeast_B34_L he11
    have fe11 := Fo.tr (T := []) Fo.rf fe11
    cases h
    exact fe11

theorem F0_Mo_layLeast_B26_L  {v : Int32 × QM} {k : Nat} {e : QM} (h : iter (Mo_layLeast_B26) k v = some e) : Fo [] ((fun v => v.2) v) ((fun z => z) e) :=
  iter_Fo (Ga := (fun v => v.2)) (Gb := (fun z => z)) (fun a res hB => F0_Mo_layLeast_B26 hB) k v e h

set_option maxRecDepth 20000 in
theorem F0_Mo_layLeast {M : QM} {res : QM} (h : Mo_layLeast M = some res) : Fo [] M ((fun z => z) res) := by
  unfold Mo_layLeast at h
  obtain ⟨e2, he2, h⟩ := bd_some h
  have fe2 := F0_Mo_layLeast_B2_L he2
  have fe2 := Fo.tr (T := []) Fo.rf fe2
  obtain ⟨e12, he12, h⟩ := bd_some h
  have fe12 := F0_Mo_layLeast_B26_L he12
  have fe12 := Fo.tr (T := []) fe2 fe12
  cases h
  exact fe12

set_option maxRecDepth 20000 in
theorem F0_Mo_least {p1 : Int32} {M : QM} {res : Int32 × QM} (h : Mo_least p1 M = some res) : Fo [] M ((fun z => z.2) res) := by
  unfold Mo_least at h
  obtain ⟨q1, hq1, h⟩ := bd_some h
  by_cases hb : q1 = 0
  · have h := ite_t hb h
    cases h
    exact Fo.rf
  · have h := ite_f hb h
    obtain ⟨q2, hq2, h⟩ := bd_some h
    have fq2 := Fo.tr (T := []) Fo.rf (Fo.sub (F0_Mo_layLeast hq2) (by decide))
    have h := (ck_some h).2
    by_cases hb : (q2.1 24 p1.toNatClampNeg) ≤ (40 : Int32)
    · have h := ite_t hb h
      have h := (ck_some h).2
      cases h
      exact fq2
    · have h := ite_f hb h
      cases h
      exact fq2

set_option maxRecDepth 20000 in
theorem F0_Mo_may {p1 : Int32} {p2 : Int32} {M : QM} {res : Int32 × QM} (h : Mo_may p1 p2 M = some res) : Fo [15] M ((fun z => z.2) res) := by
  unfold Mo_may at h
  obtain ⟨q1, hq1, h⟩ := bd_some h
  by_cases hb : q1 = 0
  · have h := ite_t hb h
    cases h
    exact Fo.rf
  · have h := ite_f hb h
    obtain ⟨q2, hq2, h⟩ := bd_some h
    have fq2 := Fo.tr (T := [15]) Fo.rf (Fo.sub (F0_Mo_lay hq2) (by decide))
    have h := (ck_some h).2
    by_cases hb : (q2.1 11 (((60 : Int32) * p1) + p2).toNatClampNeg) = 0
    · have h := ite_t hb h
      cases h
      exact fq2
    · have h := ite_f hb h
      cases h
      exact fq2

set_option maxRecDepth 20000 in
theorem F0_Mo_pieces_L16_J39 {x1 : Int32} {x2 : Int32} {s0 : Int32} {s1 : Int32} {M : QM} {res : (QM) ⊕ (Int32 × QM)} (h : Mo_pieces_L16_J39 x1 x2 s0 s1 M = some res) : Fo [15] M ((Sum.elim (fun z => z) (fun z => z.2)) res) := by
  unfold Mo_pieces_L16_J39 at h
  have h := (ck_some h).2
  have h := (ck_some h).2
  cases h
  exact (Fo.o 13 Fo.rf (by decide))

set_option maxRecDepth 20000 in
theorem F0_Mo_pieces_B16 {x1 : Int32} {v : Int32 × QM} {res : (QM) ⊕ (Int32 × QM)} (h : Mo_pieces_B16 x1 v = some res) : Fo [15] v.2 ((Sum.elim (fun z => z) (fun z => z.2)) res) := by
  unfold Mo_pieces_B16 at h
  by_cases hb : (v.2.1 0 2) ≤ v.1
  · have h := ite_t hb h
    cases h
    exact Fo.rf
  · have h := ite_f hb h
    by_cases hb : v.1 = x1
    · have h := ite_t hb h
      exact Fo.tr (T := [15]) Fo.rf (F0_Mo_pieces_L16_J39 h)
    · have h := ite_f hb h
      exact Fo.tr (T := [15]) Fo.rf (F0_Mo_pieces_L16_J39 h)

theorem F0_Mo_pieces_B16_L {x1 : Int32}  {v : Int32 × QM} {k : Nat} {e : QM} (h : iter (Mo_pieces_B16 x1) k v = some e) : Fo [15] ((fun v => v.2) v) ((fun z => z) e) :=
  iter_Fo (Ga := (fun v => v.2)) (Gb := (fun z => z)) (fun a res hB => F0_Mo_pieces_B16 hB) k v e h

set_option maxRecDepth 20000 in
theorem F0_Mo_pieces_B69 {x2 : Int32} {x3 : Int32} {v : Int32 × QM} {res : (QM) ⊕ (Int32 × QM)} (h : Mo_pieces_B69 x2 x3 v = some res) : Fo [15] v.2 ((Sum.elim (fun z => z) (fun z => z.2)) res) := by
  unfold Mo_pieces_B69 at h
  by_cases hb : (8 : Int32) ≤ v.1
  · have h := ite_t hb h
    cases h
    exact Fo.rf
  · have h := ite_f hb h
    have h := (ck_some h).2
    by_cases hb : (v.2.1 13 x3.toNatClampNeg) = 0
    · have h := ite_t hb h
      cases h
      exact Fo.rf
    · have h := ite_f hb h
      have h := (ck_some h).2
      by_cases hb : (v.2.1 3 (((8 : Int32) * x3) + v.1).toNatClampNeg) < 0
      · have h := ite_t hb h
        cases h
        exact Fo.rf
      · have h := ite_f hb h
        have h := (ck_some h).2
        have h := (ck_some h).2
        cases h
        exact (Fo.o 13 Fo.rf (by decide))

theorem F0_Mo_pieces_B69_L {x2 : Int32} {x3 : Int32}  {v : Int32 × QM} {k : Nat} {e : QM} (h : iter (Mo_pieces_B69 x2 x3) k v = some e) : Fo [15] ((fun v => v.2) v) ((fun z => z) e) :=
  iter_Fo (Ga := (fun v => v.2)) (Gb := (fun z => z)) (fun a res hB => F0_Mo_pieces_B69 hB) k v e h

set_option maxRecDepth 20000 in
theorem F0_Mo_pieces_B58 {x2 : Int32} {v : Int32 × QM} {res : (QM) ⊕ (Int32 × QM)} (h : Mo_pieces_B58 x2 v = some res) : Fo [15] v.2 ((Sum.elim (fun z => z) (fun z => z.2)) res) := by
  unfold Mo_pieces_B58 at h
  by_cases hb : (v.2.1 0 2) ≤ v.1
  · have h := ite_t hb h
    cases h
    exact Fo.rf
  · have h := ite_f hb h
    obtain ⟨e10, he10, h⟩ := bd_some h
    have fe10 := F0_Mo_pieces_B69_L he10
    have fe10 := Fo.tr (T := [15]) Fo.rf fe10
    cases h
    exact fe10

theorem F0_Mo_pieces_B58_L {x2 : Int32}  {v : Int32 × QM} {k : Nat} {e : QM} (h : iter (Mo_pieces_B58 x2) k v = some e) : Fo [15] ((fun v => v.2) v) ((fun z => z) e) :=
  iter_Fo (Ga := (fun v => v.2)) (Gb := (fun z => z)) (fun a res hB => F0_Mo_pieces_B58 hB) k v e h

set_option maxRecDepth 20000 in
theorem F0_Mo_pieces_B48 {v : Int32 × QM} {res : (QM) ⊕ (Int32 × QM)} (h : Mo_pieces_B48 v = some res) : Fo [15] v.2 ((Sum.elim (fun z => z) (fun z => z.2)) res) := by
  unfold Mo_pieces_B48 at h
  by_cases hb : (v.2.1 0 2) ≤ v.1
  · have h := ite_t hb h
    cases h
    exact Fo.rf
  · have h := ite_f hb h
    obtain ⟨e11, he11, h⟩ := bd_some h
    have fe11 := F0_Mo_pieces_B58_L he11
    have fe11 := Fo.tr (T := [15]) Fo.rf fe11
    cases h
    exact fe11

theorem F0_Mo_pieces_B48_L  {v : Int32 × QM} {k : Nat} {e : QM} (h : iter (Mo_pieces_B48) k v = some e) : Fo [15] ((fun v => v.2) v) ((fun z => z) e) :=
  iter_Fo (Ga := (fun v => v.2)) (Gb := (fun z => z)) (fun a res hB => F0_Mo_pieces_B48 hB) k v e h

set_option maxRecDepth 20000 in
theorem F0_Mo_pieces_L140_J203 {x2 : Int32} {x3 : Int32} {x4 : Int32} {M : QM} {res : (Int32) ⊕ (Int32 × Int32)} (h : Mo_pieces_L140_J203 x2 x3 x4 M = some res) : Fo [15] M ((Sum.elim (fun _ => M) (fun _ => M)) res) := by
  unfold Mo_pieces_L140_J203 at h
  by_cases hb : x4 = 0
  · have h := ite_t hb h
    cases h
    exact Fo.rf
  · have h := ite_f hb h
    cases h
    exact Fo.rf

set_option maxRecDepth 20000 in
theorem F0_Mo_pieces {p1 : Int32} {M : QM} {res : Int32 × QM} (h : Mo_pieces p1 M = some res) : Fo [15] M ((fun z => z.2) res) := by
  unfold Mo_pieces at h
  obtain ⟨q1, hq1, h⟩ := bd_some h
  by_cases hb : q1 = 0
  · have h := ite_t hb h
    cases h
    exact Fo.rf
  · have h := ite_f hb h
    obtain ⟨q2, hq2, h⟩ := bd_some h
    have fq2 := Fo.tr (T := [15]) Fo.rf (Fo.sub (F0_Mo_lay hq2) (by decide))
    obtain ⟨e5, he5, h⟩ := bd_some h
    have fe5 := F0_Mo_pieces_B16_L he5
    have fe5 := Fo.tr (T := [15]) fq2 fe5
    obtain ⟨e12, he12, h⟩ := bd_some h
    have fe12 := F0_Mo_pieces_B48_L he12
    have fe12 := Fo.tr (T := [15]) fe5 fe12
    obtain ⟨e17, he17, h⟩ := bd_some h
    cases h
    exact fe12

set_option maxRecDepth 20000 in
theorem F0_Mo_say {p1 : Int32} {M : QM} {res : Int32 × QM} (h : Mo_say p1 M = some res) : Fo [0] M ((fun z => z.2) res) := by
  unfold Mo_say at h
  obtain ⟨q1, hq1, h⟩ := bd_some h
  by_cases hb : q1 = 0
  · have h := ite_t hb h
    cases h
    exact Fo.rf
  · have h := ite_f hb h
    by_cases hb : (M.1 0 0) = (100 : Int32)
    · have h := ite_t hb h
      cases h
      exact Fo.rf
    · have h := ite_f hb h
      have h := (ck_some h).2
      cases h
      exact (Fo.i 0 (Fo.o 1 Fo.rf (by decide)) (by decide))

set_option maxRecDepth 20000 in
theorem F0_Mo_size {M : QM} {res : Int32 × QM} (h : Mo_size M = some res) : Fo [24, 27] M ((fun z => z.2) res) := by
  unfold Mo_size at h
  obtain ⟨q1, hq1, h⟩ := bd_some h
  have fq1 := Fo.tr (T := [24, 27]) Fo.rf (Fo.sub (F0_Mo_slipOf hq1) (by decide))
  by_cases hb : q1.1 < 0
  · have h := ite_t hb h
    cases h
    exact fq1
  · have h := ite_f hb h
    cases h
    exact fq1

set_option maxRecDepth 20000 in
theorem F0_Mo_slip {M : QM} {res : Int32 × QM} (h : Mo_slip M = some res) : Fo [24, 27] M ((fun z => z.2) res) := by
  unfold Mo_slip at h
  obtain ⟨q1, hq1, h⟩ := bd_some h
  have fq1 := Fo.tr (T := [24, 27]) Fo.rf (Fo.sub (F0_Mo_slipOf hq1) (by decide))
  cases h
  exact fq1

set_option maxRecDepth 20000 in
theorem F0_Mo_take_B12 {M : QM} {v : Int32} {res : ((Int32 × QM) ⊕ (Unit)) ⊕ (Int32)} (h : Mo_take_B12 M v = some res) : Fo [0, 2, 6, 10, 14, 15] M ((Sum.elim (Sum.elim (fun z => z.2) (fun _ => M)) (fun _ => M)) res) := by
  unfold Mo_take_B12 at h
  by_cases hb : (8 : Int32) ≤ v
  · have h := ite_t hb h
    cases h
    exact Fo.rf
  · have h := ite_f hb h
    have h := (ck_some h).2
    by_cases hb : (M.1 7 v.toNatClampNeg) = (-6 : Int32)
    · have h := ite_t hb h
      cases h
      exact Fo.rf
    · have h := ite_f hb h
      have h := (ck_some h).2
      obtain ⟨q4, hq4, h⟩ := bd_some h
      by_cases hb : 0 ≤ q4
      · have h := ite_t hb h
        cases h
        exact Fo.rf
      · have h := ite_f hb h
        cases h
        exact Fo.rf

theorem F0_Mo_take_B12_L {M : QM}  {v : Int32} {k : Nat} {e : (Int32 × QM) ⊕ (Unit)} (h : iter (Mo_take_B12 M) k v = some e) : Fo [0, 2, 6, 10, 14, 15] ((fun _ => M) v) ((Sum.elim (fun z => z.2) (fun _ => M)) e) :=
  iter_Fo (Ga := (fun _ => M)) (Gb := (Sum.elim (fun z => z.2) (fun _ => M))) (fun a res hB => F0_Mo_take_B12 hB) k v e h

set_option maxRecDepth 20000 in
theorem F0_Mo_take_B53 {M : QM} {v : Int32} {res : ((Int32 × QM) ⊕ (Unit)) ⊕ (Int32)} (h : Mo_take_B53 M v = some res) : Fo [0, 2, 6, 10, 14, 15] M ((Sum.elim (Sum.elim (fun z => z.2) (fun _ => M)) (fun _ => M)) res) := by
  unfold Mo_take_B53 at h
  by_cases hb : ((8 : Int32) * (M.1 0 6)) ≤ v
  · have h := ite_t hb h
    cases h
    exact Fo.rf
  · have h := ite_f hb h
    have h := (ck_some h).2
    by_cases hb : (M.1 6 v.toNatClampNeg) = (-6 : Int32)
    · have h := ite_t hb h
      cases h
      exact Fo.rf
    · have h := ite_f hb h
      have h := (ck_some h).2
      obtain ⟨q8, hq8, h⟩ := bd_some h
      by_cases hb : 0 ≤ q8
      · have h := ite_t hb h
        cases h
        exact Fo.rf
      · have h := ite_f hb h
        cases h
        exact Fo.rf

theorem F0_Mo_take_B53_L {M : QM}  {v : Int32} {k : Nat} {e : (Int32 × QM) ⊕ (Unit)} (h : iter (Mo_take_B53 M) k v = some e) : Fo [0, 2, 6, 10, 14, 15] ((fun _ => M) v) ((Sum.elim (fun z => z.2) (fun _ => M)) e) :=
  iter_Fo (Ga := (fun _ => M)) (Gb := (Sum.elim (fun z => z.2) (fun _ => M))) (fun a res hB => F0_Mo_take_B53 hB) k v e h

set_option maxRecDepth 20000 in
theorem F0_Mo_take_B119 {v : Int32 × QM} {res : (QM) ⊕ (Int32 × QM)} (h : Mo_take_B119 v = some res) : Fo [0, 2, 6, 10, 14, 15] v.2 ((Sum.elim (fun z => z) (fun z => z.2)) res) := by
  unfold Mo_take_B119 at h
  by_cases hb : (v.2.1 0 6) ≤ v.1
  · have h := ite_t hb h
    cases h
    exact Fo.rf
  · have h := ite_f hb h
    have h := (ck_some h).2
    have h := (ck_some h).2
    cases h
    exact (Fo.o 2 Fo.rf (by decide))

theorem F0_Mo_take_B119_L  {v : Int32 × QM} {k : Nat} {e : QM} (h : iter (Mo_take_B119) k v = some e) : Fo [0, 2, 6, 10, 14, 15] ((fun v => v.2) v) ((fun z => z) e) :=
  iter_Fo (Ga := (fun v => v.2)) (Gb := (fun z => z)) (fun a res hB => F0_Mo_take_B119 hB) k v e h

set_option maxRecDepth 20000 in
theorem F0_Mo_take_L147_J189 {x1 : Int32} {s0 : Int32} {s1 : Int32} {M : QM} {res : (QM) ⊕ (Int32 × QM)} (h : Mo_take_L147_J189 x1 s0 s1 M = some res) : Fo [0, 2, 6, 10, 14, 15] M ((Sum.elim (fun z => z) (fun z => z.2)) res) := by
  unfold Mo_take_L147_J189 at h
  have h := (ck_some h).2
  cases h
  exact (Fo.o 3 Fo.rf (by decide))

set_option maxRecDepth 20000 in
theorem F0_Mo_take_B147 {v : Int32 × QM} {res : (QM) ⊕ (Int32 × QM)} (h : Mo_take_B147 v = some res) : Fo [0, 2, 6, 10, 14, 15] v.2 ((Sum.elim (fun z => z) (fun z => z.2)) res) := by
  unfold Mo_take_B147 at h
  by_cases hb : ((8 : Int32) * (v.2.1 0 6)) ≤ v.1
  · have h := ite_t hb h
    cases h
    exact Fo.rf
  · have h := ite_f hb h
    have h := (ck_some h).2
    by_cases hb : (v.2.1 6 v.1.toNatClampNeg) = (-6 : Int32)
    · have h := ite_t hb h
      exact Fo.tr (T := [0, 2, 6, 10, 14, 15]) Fo.rf (F0_Mo_take_L147_J189 h)
    · have h := ite_f hb h
      have h := (ck_some h).2
      obtain ⟨q15, hq15, h⟩ := bd_some h
      exact Fo.tr (T := [0, 2, 6, 10, 14, 15]) Fo.rf (F0_Mo_take_L147_J189 h)

theorem F0_Mo_take_B147_L  {v : Int32 × QM} {k : Nat} {e : QM} (h : iter (Mo_take_B147) k v = some e) : Fo [0, 2, 6, 10, 14, 15] ((fun v => v.2) v) ((fun z => z) e) :=
  iter_Fo (Ga := (fun v => v.2)) (Gb := (fun z => z)) (fun a res hB => F0_Mo_take_B147 hB) k v e h

set_option maxRecDepth 20000 in
theorem F0_Mo_take_L198_J235 {x1 : Int32} {s0 : Int32} {s1 : Int32} {M : QM} {res : (QM) ⊕ (Int32 × QM)} (h : Mo_take_L198_J235 x1 s0 s1 M = some res) : Fo [0, 2, 6, 10, 14, 15] M ((Sum.elim (fun z => z) (fun z => z.2)) res) := by
  unfold Mo_take_L198_J235 at h
  have h := (ck_some h).2
  cases h
  exact (Fo.o 4 Fo.rf (by decide))

set_option maxRecDepth 20000 in
theorem F0_Mo_take_B198 {v : Int32 × QM} {res : (QM) ⊕ (Int32 × QM)} (h : Mo_take_B198 v = some res) : Fo [0, 2, 6, 10, 14, 15] v.2 ((Sum.elim (fun z => z) (fun z => z.2)) res) := by
  unfold Mo_take_B198 at h
  by_cases hb : (8 : Int32) ≤ v.1
  · have h := ite_t hb h
    cases h
    exact Fo.rf
  · have h := ite_f hb h
    have h := (ck_some h).2
    by_cases hb : (v.2.1 7 v.1.toNatClampNeg) = (-6 : Int32)
    · have h := ite_t hb h
      exact Fo.tr (T := [0, 2, 6, 10, 14, 15]) Fo.rf (F0_Mo_take_L198_J235 h)
    · have h := ite_f hb h
      have h := (ck_some h).2
      obtain ⟨q20, hq20, h⟩ := bd_some h
      exact Fo.tr (T := [0, 2, 6, 10, 14, 15]) Fo.rf (F0_Mo_take_L198_J235 h)

theorem F0_Mo_take_B198_L  {v : Int32 × QM} {k : Nat} {e : QM} (h : iter (Mo_take_B198) k v = some e) : Fo [0, 2, 6, 10, 14, 15] ((fun v => v.2) v) ((fun z => z) e) :=
  iter_Fo (Ga := (fun v => v.2)) (Gb := (fun z => z)) (fun a res hB => F0_Mo_take_B198 hB) k v e h

set_option maxRecDepth 20000 in
theorem F0_Mo_take {M : QM} {res : Int32 × QM} (h : Mo_take M = some res) : Fo [0, 2, 6, 10, 14, 15] M ((fun z => z.2) res) := by
  unfold Mo_take at h
  obtain ⟨q1, hq1, h⟩ := bd_some h
  have fq1 := Fo.tr (T := [0, 2, 6, 10, 14, 15]) Fo.rf (Fo.sub (F0_Mo_faultOf hq1) (by decide))
  by_cases hb : q1.1 < 0
  · have h := ite_t hb h
    obtain ⟨e5, he5, h⟩ := bd_some h
    have fe5 := F0_Mo_take_B12_L he5
    have fe5 := Fo.tr (T := [0, 2, 6, 10, 14, 15]) fq1 fe5
    cases e5 with
    | inl r5 =>
      have h := sum_l h
      cases h
      exact fe5
    | inr y5 =>
      have h := sum_r h
      obtain ⟨e9, he9, h⟩ := bd_some h
      have fe9 := F0_Mo_take_B53_L he9
      have fe9 := Fo.tr (T := [0, 2, 6, 10, 14, 15]) fq1 fe9
      cases e9 with
      | inl r9 =>
        have h := sum_l h
        cases h
        exact fe9
      | inr y9 =>
        have h := sum_r h
        by_cases hb : (q1.2.1 0 6) ≤ (40 : Int32)
        · have h := ite_t hb h
          obtain ⟨e12, he12, h⟩ := bd_some h
          have fe12 := F0_Mo_take_B119_L he12
          have fe12 := Fo.tr (T := [0, 2, 6, 10, 14, 15]) (Fo.i 2 fq1 (by decide)) fe12
          obtain ⟨e17, he17, h⟩ := bd_some h
          have fe17 := F0_Mo_take_B147_L he17
          have fe17 := Fo.tr (T := [0, 2, 6, 10, 14, 15]) fe12 fe17
          obtain ⟨e22, he22, h⟩ := bd_some h
          have fe22 := F0_Mo_take_B198_L he22
          have fe22 := Fo.tr (T := [0, 2, 6, 10, 14, 15]) fe17 fe22
          cases h
          exact (Fo.i 15 (Fo.i 0 fe22 (by decide)) (by decide))
        · have h := ite_f hb h
          cases h
          exact fq1
  · have h := ite_f hb h
    cases h
    exact fq1

set_option maxRecDepth 20000 in
theorem F0_Mo_told {p1 : Int32} {M : QM} {res : Int32 × QM} (h : Mo_told p1 M = some res) : Fo [15] M ((fun z => z.2) res) := by
  unfold Mo_told at h
  by_cases hb : p1 = 0
  · have h := ite_t hb h
    cases h
    exact Fo.rf
  · have h := ite_f hb h
    by_cases hb : p1 = 1
    · have h := ite_t hb h
      cases h
      exact Fo.rf
    · have h := ite_f hb h
      by_cases hb : p1 = 2
      · have h := ite_t hb h
        obtain ⟨e4, he4, h⟩ := bd_some h
        cases h
        exact Fo.rf
      · have h := ite_f hb h
        by_cases hb : p1 = 3
        · have h := ite_t hb h
          obtain ⟨q6, hq6, h⟩ := bd_some h
          have fq6 := Fo.tr (T := [15]) Fo.rf (Fo.sub (F0_Mo_layLeast hq6) (by decide))
          obtain ⟨e8, he8, h⟩ := bd_some h
          cases h
          exact fq6
        · have h := ite_f hb h
          by_cases hb : p1 = 4
          · have h := ite_t hb h
            obtain ⟨q10, hq10, h⟩ := bd_some h
            have fq10 := Fo.tr (T := [15]) Fo.rf (Fo.sub (F0_Mo_lay hq10) (by decide))
            obtain ⟨e13, he13, h⟩ := bd_some h
            cases h
            exact fq10
          · have h := ite_f hb h
            cases h
            exact Fo.rf

set_option maxRecDepth 20000 in
theorem F0_Mo_way {p1 : Int32} {p2 : Int32} {p3 : Int32} {M : QM} {res : Int32 × QM} (h : Mo_way p1 p2 p3 M = some res) : Fo [15, 18] M ((fun z => z.2) res) := by
  unfold Mo_way at h
  obtain ⟨q1, hq1, h⟩ := bd_some h
  by_cases hb : q1 = 0
  · have h := ite_t hb h
    cases h
    exact Fo.rf
  · have h := ite_f hb h
    obtain ⟨q2, hq2, h⟩ := bd_some h
    have fq2 := Fo.tr (T := [15, 18]) Fo.rf (Fo.sub (F0_Mo_lay hq2) (by decide))
    have h := (ck_some h).2
    by_cases hb : (q2.1 11 (((60 : Int32) * p1) + p2).toNatClampNeg) = 0
    · have h := ite_t hb h
      by_cases hb : p3 = (-1 : Int32)
      · have h := ite_t hb h
        have h := (ck_some h).2
        cases h
        exact fq2
      · have h := ite_f hb h
        obtain ⟨q4, hq4, h⟩ := bd_some h
        have fq4 := Fo.tr (T := [15, 18]) fq2 (Fo.sub (F0_Mo_follow hq4) (by decide))
        cases h
        exact fq4
    · have h := ite_f hb h
      cases h
      exact fq2

set_option maxRecDepth 20000 in
theorem F0_Mo_wipe {M : QM} {res : Int32 × QM} (h : Mo_wipe M = some res) : Fo [0] M ((fun z => z.2) res) := by
  unfold Mo_wipe at h
  cases h
  exact (Fo.i 0 Fo.rf (by decide))

