/-- M2 is M but for the objects of T -/
def Fr (T : List Nat) (M M2 : QM) : Prop := ∀ o, o ∉ T → M2.1 o = M.1 o ∧ M2.2 o = M.2 o
theorem Fr.rf {T : List Nat} {M : QM} : Fr T M M := fun _ _ => ⟨rfl, rfl⟩
theorem Fr.i {T : List Nat} {M M1 : QM} {k : Nat} {v : Int32} (o : Nat) (h : Fr T M M1) (ho : o ∈ T) : Fr T M (u_i M1 o k v) := by
  intro a ha
  have hne : a ≠ o := fun e => ha (e ▸ ho)
  refine ⟨?_, (h a ha).2⟩
  rw [← (h a ha).1]
  funext b
  simp [u_i, hne]
theorem Fr.l {T : List Nat} {M M1 : QM} {k : Nat} {v : Int64} (o : Nat) (h : Fr T M M1) (ho : o ∈ T) : Fr T M (u_l M1 o k v) := by
  intro a ha
  have hne : a ≠ o := fun e => ha (e ▸ ho)
  refine ⟨(h a ha).1, ?_⟩
  rw [← (h a ha).2]
  funext b
  simp [u_l, hne]
theorem Fr.tr {T : List Nat} {M M1 M2 : QM} (h1 : Fr T M M1) (h2 : Fr T M1 M2) : Fr T M M2 := fun o ho => ⟨(h2 o ho).1.trans (h1 o ho).1, (h2 o ho).2.trans (h1 o ho).2⟩
theorem Fr.sub {T T2 : List Nat} {M M2 : QM} (h : Fr T M M2) (hs : ∀ o, o ∈ T → o ∈ T2) : Fr T2 M M2 := fun o ho => h o (fun z => ho (hs o z))
theorem iter_Fr {α β : Type} {T : List Nat} {B : α → Option (β ⊕ α)} {Ga : α → QM} {Gb : β → QM} (hB : ∀ (a : α) (res : β ⊕ α), B a = some res → Fr T (Ga a) (Sum.elim Gb Ga res)) : ∀ (n : Nat) (a : α) (b : β), iter B n a = some b → Fr T (Ga a) (Gb b) := by
  intro n
  induction n with
  | zero => intro a b h; cases h
  | succ n ih =>
    intro a b h
    rw [iter] at h
    cases hb : B a with
    | none => rw [hb] at h; cases h
    | some res =>
      rw [hb] at h
      have h1 := hB a res hb
      cases res with
      | inl x => cases h; exact h1
      | inr x => exact Fr.tr h1 (ih _ _ h)
