/-! TEXT: the reference's loop, place by place -/
theorem iter_mono {α β : Type} {B : α → Option (β ⊕ α)} : ∀ (n m : Nat) (a : α) (b : β), iter B n a = some b → n ≤ m → iter B m a = some b := by
  intro n
  induction n with
  | zero => intro m a b h; cases h
  | succ n ih =>
    intro m a b h hm
    obtain ⟨m, rfl⟩ : ∃ m', m = m' + 1 := ⟨m - 1, by omega⟩
    rw [iter] at h ⊢
    cases hB : B a with
    | none => rw [hB] at h; cases h
    | some res =>
      rw [hB] at h
      cases res with
      | inl x => exact h
      | inr x => exact ih m x b h (by omega)
theorem fu_ge {n : Nat} (h : n ≤ 10000000) : n ≤ FU := h
def It (st : Int32) (k : Nat) (M : QM) : Option ((Int32 × QM) ⊕ (Int32 × QM)) := iter Mo_faultOf_B36 (FU - k) (st, nI k, M)
def Gs (k : Nat) (M : QM) : Option ((Int32 × QM) ⊕ (Int32 × QM)) := Option.bind (Mo_settle M) (fun q => It (if q.1 = 2 then 4 else if q.1 = 1 then 3 else 2) k q.2)
def fin_ (e : (Int32 × QM) ⊕ (Int32 × QM)) : Int32 × QM := Sum.elim (fun r => r) (fun y => if y.1 = 4 then (-6, y.2) else (y.2.1 0 0, y.2)) e
/-- the FAULT is at p -/
def Fl (x : Option ((Int32 × QM) ⊕ (Int32 × QM))) (p : Nat) : Prop := ∃ e, x = some e ∧ (fin_ e).1 = nI p
theorem it_s {st st2 : Int32} {k : Nat} {M M2 : QM} (hk : k < 1000) (h : Mo_faultOf_B36 (st, nI k, M) = some (.inr (st2, nI (k + 1), M2))) : It st k M = It st2 (k + 1) M2 := by
  unfold It
  have : FU = 10000000 := rfl
  rw [show FU - k = (FU - (k + 1)) + 1 by omega]
  exact iter_s h
theorem it_d {st : Int32} {k : Nat} {M : QM} {b : (Int32 × QM) ⊕ (Int32 × QM)} (hk : k < 1000) (h : Mo_faultOf_B36 (st, nI k, M) = some (.inl b)) : It st k M = some b := by
  unfold It
  have : FU = 10000000 := rfl
  rw [show FU - k = (FU - (k + 1)) + 1 by omega]
  exact iter_d h
theorem it_end {st : Int32} {k : Nat} {M : QM} (hk : k < 1000) (h : M.1 0 0 = nI k) : It st k M = some (.inr (st, M)) := by
  refine it_d hk ?_
  unfold Mo_faultOf_B36
  dsimp only
  rw [h, if_pos (show nI k ≤ nI k by rw [nI_leI (by omega) (by omega)]; omega)]
theorem it_endF {st : Int32} {k : Nat} {M : QM} (hk : k < 1000) (h : M.1 0 0 = nI k) (h4 : st ≠ 4) : Fl (It st k M) k := by
  refine ⟨_, it_end hk h, ?_⟩
  show (if st = 4 then ((-6 : Int32), M) else (M.1 0 0, M)).1 = nI k
  rw [if_neg h4]
  exact h
theorem it_bad {st : Int32} {k : Nat} {M : QM} (hk : k < 1000) (h : Mo_faultOf_B36 (st, nI k, M) = Mo_faultOf_L36_J522 (nI k) (-6) M) : Fl (It st k M) k := by
  refine ⟨.inl (nI k, M), it_d hk ?_, rfl⟩
  rw [h]
  unfold Mo_faultOf_L36_J522
  rw [if_neg (by decide)]
theorem it_go {st st2 : Int32} {k : Nat} {M M2 : QM} (hk : k < 1000) (h : Mo_faultOf_B36 (st, nI k, M) = Mo_faultOf_L36_J522 (nI k) st2 M2) (h0 : 0 ≤ st2) (h5 : st2 ≠ 5) : It st k M = It st2 (k + 1) M2 := by
  refine it_s hk ?_
  rw [h]
  unfold Mo_faultOf_L36_J522
  rw [if_pos h0, if_neg h5, nI_1]
/-! settling -/
theorem se_s {M : QM} {e : Nat} (he : e < 16) (h : M.1 0 10 = nI (e + 1)) (h9 : M.1 9 e = 0) : Mo_settle_B0 M = some (.inr (u_i M 0 10 (nI e))) := by
  unfold Mo_settle_B0
  rw [h, if_neg (show ¬ nI (e + 1) ≤ 0 by rw [l_0, nI_leI (by omega) (by omega)]; omega), nI_pred1 (by omega), Nat.add_sub_cancel, ck_in he (by omega), ix_nI (by omega), h9, if_pos rfl]
theorem se_n {M : QM} {e : Nat} (he : e < 16) (h : M.1 0 10 = nI (e + 1)) (h9 : M.1 9 e ≠ 0) : Mo_settle M = some (if M.1 9 e = 100 then 1 else 0, M) := by
  have : Mo_settle_B0 M = some (.inl M) := by
    unfold Mo_settle_B0
    rw [h, if_neg (show ¬ nI (e + 1) ≤ 0 by rw [l_0, nI_leI (by omega) (by omega)]; omega), nI_pred1 (by omega), Nat.add_sub_cancel, ck_in he (by omega), ix_nI (by omega), if_neg h9]
  unfold Mo_settle Mo_settle_J34
  rw [show iter Mo_settle_B0 FU M = some M from iter_d (n := 9999999) this, Option.bind_some, h, if_neg (show ¬ nI (e + 1) = 0 from fun z => by have := (nI_eq (b := 0) (by omega) (by omega)).mp z; omega), nI_pred1 (by omega), Nat.add_sub_cancel, ck_in he (by omega), ix_nI (by omega)]
  split <;> rfl
theorem se_0 {M : QM} (h : M.1 0 10 = nI 0) : Mo_settle M = some (2, M) := by
  have : Mo_settle_B0 M = some (.inl M) := by
    unfold Mo_settle_B0
    rw [h, if_pos (by decide)]
  unfold Mo_settle Mo_settle_J34
  rw [show iter Mo_settle_B0 FU M = some M from iter_d (n := 9999999) this, Option.bind_some, h, if_pos (show nI 0 = 0 from rfl)]
theorem se_some : ∀ (d : Nat) (M : QM), d ≤ 16 → M.1 0 10 = nI d → ∃ b, iter Mo_settle_B0 (d + 1) M = some b := by
  intro d
  induction d with
  | zero =>
    intro M _ h
    refine ⟨M, iter_d ?_⟩
    unfold Mo_settle_B0
    rw [h, if_pos (by decide)]
  | succ d ih =>
    intro M hd h
    by_cases h9 : M.1 9 d = 0
    · rw [iter_s (se_s (by omega) h h9)]
      exact ih _ (by omega) u_i_e
    · refine ⟨M, iter_d ?_⟩
      unfold Mo_settle_B0
      rw [h, if_neg (show ¬ nI (d + 1) ≤ 0 by rw [l_0, nI_leI (by omega) (by omega)]; omega), nI_pred1 (by omega), Nat.add_sub_cancel, ck_in (by omega) (by omega), ix_nI (by omega), if_neg h9]
theorem se_pop {M : QM} {e : Nat} (he : e < 16) (h : M.1 0 10 = nI (e + 1)) (h9 : M.1 9 e = 0) : Mo_settle M = Mo_settle (u_i M 0 10 (nI e)) := by
  obtain ⟨b, hb⟩ := se_some e (u_i M 0 10 (nI e)) (by omega) u_i_e
  unfold Mo_settle
  rw [show iter Mo_settle_B0 FU M = iter Mo_settle_B0 9999999 (u_i M 0 10 (nI e)) from iter_s (se_s he h h9), iter_mono _ 9999999 _ _ hb (by omega), iter_mono _ FU _ _ hb (fu_ge (by omega))]
theorem gs_pop {M : QM} {e k : Nat} (he : e < 16) (h : M.1 0 10 = nI (e + 1)) (h9 : M.1 9 e = 0) : Gs k M = Gs k (u_i M 0 10 (nI e)) := by
  unfold Gs
  rw [se_pop he h h9]
theorem gs_need {M : QM} {e k : Nat} (he : e < 16) (h : M.1 0 10 = nI (e + 1)) (h9 : M.1 9 e ≠ 0) : Gs k M = It (if M.1 9 e = 100 then 3 else 2) k M := by
  unfold Gs
  rw [se_n he h h9, Option.bind_some]
  dsimp only
  by_cases c : M.1 9 e = 100
  · rw [if_pos c, if_pos c]; rfl
  · rw [if_neg c, if_neg c]; rfl
theorem gs_0 {M : QM} {k : Nat} (h : M.1 0 10 = nI 0) : Gs k M = It 4 k M := by
  unfold Gs
  rw [se_0 h, Option.bind_some]
  rfl
theorem itx_5 {st : Int32} {k : Nat} {M M2 : QM} {b : Int32 × QM} (hk : k < 1000) (hs : Mo_settle M2 = some b) (h : Mo_faultOf_B36 (st, nI k, M) = Mo_faultOf_L36_J522 (nI k) 5 M2) : It st k M = Gs (k + 1) M2 := by
  unfold Gs
  rw [hs, Option.bind_some]
  refine it_s hk ?_
  rw [h]
  unfold Mo_faultOf_L36_J522
  rw [if_pos (by decide), if_pos rfl, hs, Option.bind_some, nI_1]
  split
  · rfl
  · split <;> rfl
theorem se_ex {M : QM} {d : Nat} (hd : d ≤ 16) (h : M.1 0 10 = nI d) : ∃ b, Mo_settle M = some b := by
  obtain ⟨b, hb⟩ := se_some d M hd h
  have h1 := iter_mono _ FU _ _ hb (fu_ge (by omega))
  have h10 : ∃ e, e ≤ 16 ∧ b.1 0 10 = nI e := by
    have key : ∀ (d : Nat) (M b : QM), d ≤ 16 → M.1 0 10 = nI d → iter Mo_settle_B0 (d + 1) M = some b → ∃ e, e ≤ 16 ∧ b.1 0 10 = nI e := by
      intro d
      induction d with
      | zero =>
        intro M b _ h hb
        have : Mo_settle_B0 M = some (.inl M) := by
          unfold Mo_settle_B0
          rw [h, if_pos (by decide)]
        rw [iter_d this] at hb
        cases hb
        exact ⟨0, by omega, h⟩
      | succ d ih =>
        intro M b hd h hb
        by_cases h9 : M.1 9 d = 0
        · rw [iter_s (se_s (by omega) h h9)] at hb
          exact ih _ b (by omega) u_i_e hb
        · have : Mo_settle_B0 M = some (.inl M) := by
            unfold Mo_settle_B0
            rw [h, if_neg (show ¬ nI (d + 1) ≤ 0 by rw [l_0, nI_leI (by omega) (by omega)]; omega), nI_pred1 (by omega), Nat.add_sub_cancel, ck_in (by omega) (by omega), ix_nI (by omega), if_neg h9]
          rw [iter_d this] at hb
          cases hb
          exact ⟨d + 1, hd, h⟩
    exact key d M b hd h hb
  obtain ⟨e, e1, e2⟩ := h10
  unfold Mo_settle
  rw [h1, Option.bind_some]
  unfold Mo_settle_J34
  rw [e2]
  cases e with
  | zero => rw [if_pos (show nI 0 = 0 from rfl)]; exact ⟨_, rfl⟩
  | succ e =>
    rw [if_neg (show ¬ nI (e + 1) = 0 from fun z => by have := (nI_eq (b := 0) (by omega) (by omega)).mp z; omega), nI_pred1 (by omega), Nat.add_sub_cancel, ck_in (by omega) (by omega)]
    split <;> exact ⟨_, rfl⟩
