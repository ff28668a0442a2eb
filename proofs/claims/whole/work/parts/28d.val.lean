/-! a step in the reference, first pass -/
def lst (m : Nat) : Nat := if m = 0 then 0 else Nat.log2 m + 1
theorem lst_le (m s : Nat) (hm : m < 256) (hs : s < 8) : (nI s ≤ nI (lst m) - 1) ↔ ¬ m < 2 ^ s := by
  have h : ∀ m : Nat, m < 256 → ∀ s : Nat, s < 8 → ((nI s ≤ nI (lst m) - 1) ↔ ¬ m < 2 ^ s) := by decide +kernel
  exact h m hm s hs
theorem lst_or (m s : Nat) (hm : m < 256) (hs : s < 8) (h : m < 2 ^ s) : nI (lst (m ||| 2 ^ s)) - 1 = nI s := by
  have h2 : ∀ m : Nat, m < 256 → ∀ s : Nat, s < 8 → m < 2 ^ s → nI (lst (m ||| 2 ^ s)) - 1 = nI s := by decide +kernel
  exact h2 m hm s hs h
def kc (x : Int32) : Int32 := if x = 42 then 40 else x
def SM (M : QM) (l : List VE) : Prop := match l with
  | [] => True
  | e :: r => M.1 17 r.length = kc e.1 ∧ M.1 18 r.length = nI (lst e.2.2) - 1 ∧ SM M r
theorem SM_congr {M M2 : QM} : ∀ (l : List VE), (∀ d, d < l.length → M2.1 17 d = M.1 17 d ∧ M2.1 18 d = M.1 18 d) → SM M l → SM M2 l := by
  intro l
  induction l with
  | nil => intro _ _; trivial
  | cons e r ih =>
    intro h ⟨h1, h2, h3⟩
    obtain ⟨g1, g2⟩ := h r.length (by simp)
    exact ⟨by rw [g1, h1], by rw [g2, h2], ih (fun d hd => h d (by simp; omega)) h3⟩
def ws (w : Nat) : Nat := if w = 1 then 5 else if w = 5 then 1 else w
def AM (M : QM) (A : VA) : Prop := M.1 0 27 = nI A.stk.length ∧ M.1 0 24 = nI A.v ∧ SM M A.stk
section VM
variable {M : QM} {N : Nat} {sg : Nat → Int32} {pt : Nat → Nat → Option Nat} {nm : Nat → Option Nat}
theorem mo_in_1 {c a b : Nat} (hc : c < 2 ^ 31) (ha : a < 2 ^ 31) (hb : b < 2 ^ 31) : Mo_in (nI c) (nI a) (nI b) M = some (if a ≤ c ∧ c ≤ b then 1 else 0) := by
  unfold Mo_in
  by_cases h1 : c < a
  · rw [if_pos (show nI c < nI a by rw [nI_ltI hc ha]; exact h1), if_neg (by omega)]
  · rw [if_neg (show ¬ nI c < nI a by rw [nI_ltI hc ha]; exact h1)]
    by_cases h2 : b < c
    · rw [if_pos (show nI b < nI c by rw [nI_ltI hb hc]; exact h2), if_neg (by omega)]
    · rw [if_neg (show ¬ nI b < nI c by rw [nI_ltI hb hc]; exact h2), if_pos (by omega)]
/-- a value is whole -/
theorem sl_whole {l : List VE} {k : Nat} (x4 : Int32) (h : M.1 0 27 = nI l.length) (hp : l.length ≤ 100) (hS : SM M l) (ho : ∀ e, e ∈ l → okE N sg e) : Mo_slipOf_L14_J354 (nI k) x4 1 M = some (.inr (nI (ws (wtop l)), nI (k + 1), M)) := by
  unfold Mo_slipOf_L14_J354 Mo_slipOf_L14_J412 Mo_slipOf_L14_J414
  rw [if_neg (show ¬ (1 : Int32) = 0 by decide)]
  cases l with
  | nil => rw [h, if_pos (show nI ([] : List VE).length = 0 from rfl), if_pos (by decide), nI_1]; rfl
  | cons e r =>
    simp only [List.length_cons] at h hp
    rw [h, if_neg (nI_ne0 (by omega) (by omega)), nI_pred1 (by omega), Nat.add_sub_cancel, ck_in (by omega) (by omega), ck_in (by omega) (by omega), ix_nI (by omega), hS.1, nI_1]
    unfold wtop kc
    dsimp only
    rcases (ho e (by simp)).1 with h1 | h1 | h1 <;> rw [h1] <;> rfl
theorem sl_on {k w : Nat} (hw : w < 7) : Mo_slipOf_L14_J354 (nI k) (nI w) 0 M = some (.inr (nI w, nI (k + 1), M)) := by
  unfold Mo_slipOf_L14_J354 Mo_slipOf_L14_J414
  rw [if_pos rfl, if_pos (nI_pos' (by omega)), nI_1]
theorem sl_no {k : Nat} : Mo_slipOf_L14_J354 (nI k) (-6) 0 M = some (.inl (.inl (nI k, M))) := by
  unfold Mo_slipOf_L14_J354 Mo_slipOf_L14_J414
  rw [if_pos rfl, if_neg (by decide)]
/-- a value begins, or not: states 0 and 5 -/
theorem sl_begin {A : VA} {k c st : Nat} {D : Option Nat} (hA : AM M A) (hI : VI N sg k A) (hk : k < 100) (hc : c < 127) (hst : st = 0 ∨ st = 5) (h41 : st = 5 → c ≠ 41) :
    match vbegin sg c k D A with
    | none => ∃ M2, Mo_slipOf_L14_J45 (nI st) (nI k) (nI c) (-6) 0 M = some (.inl (.inl (nI k, M2)))
    | some A2 => ∃ M2, Mo_slipOf_L14_J45 (nI st) (nI k) (nI c) (-6) 0 M = some (.inr (nI (ws A2.w), nI (k + 1), M2)) ∧ AM M2 A2 := by
  obtain ⟨w, D0, v, mf, stk⟩ := A
  obtain ⟨g1, g2, g3⟩ := hA
  obtain ⟨i1, i2, i3, i4, i5, i6, i7⟩ := hI
  dsimp only [VA.w, VA.D, VA.v, VA.mf, VA.stk] at *
  have h177 : ∀ (x4 x5 a b : Int32) (M1 : QM), Mo_slipOf_L14_J177 (nI st) (nI k) (nI c) x4 x5 a b M1 = Mo_slipOf_L14_J354 (nI k) x4 x5 (u_i M1 0 24 (b + a)) := by
    intro x4 x5 a b M1
    unfold Mo_slipOf_L14_J177
    rcases hst with rfl | rfl
    · rw [if_neg (by decide)]
    · rw [if_pos (by rfl), if_neg (show ¬ nI c = 41 from fun h => h41 rfl ((c_eq hc (by decide)).mp h))]
  have h157n : ∀ M1 : QM, Mo_slipOf_L14_J157 (nI st) (nI k) (nI c) (-6) 0 M1 = some (.inl (.inl (nI k, u_i M1 0 24 (M1.1 0 24 + 0)))) := by
    intro M1
    unfold Mo_slipOf_L14_J157
    rw [if_pos rfl, if_pos (by decide), h177, sl_no]
  have h157p : ∀ (w2 : Nat) (M1 : QM), w2 < 7 → Mo_slipOf_L14_J157 (nI st) (nI k) (nI c) (nI w2) 0 M1 = some (.inr (nI w2, nI (k + 1), u_i M1 0 24 (M1.1 0 24 + 1))) := by
    intro w2 M1 hw2
    unfold Mo_slipOf_L14_J157 Mo_slipOf_L14_J172
    rw [if_pos rfl, if_neg (nI_pos (by omega)), h177, sl_on hw2]
  have h68 : Mo_slipOf_L14_J68 (nI st) (nI k) (nI c) (-6) M = some (.inr (nI (ws (wtop stk)), nI (k + 1), u_i M 0 24 (nI (v + 1)))) := by
    unfold Mo_slipOf_L14_J68 Mo_slipOf_L14_J157 Mo_slipOf_L14_J172
    rw [if_neg (show ¬ (1 : Int32) = 0 by decide), h177, g2, nI_1]
    exact sl_whole (M := u_i M 0 24 (nI (v + 1))) (l := stk) (-6) g1 (by omega) (SM_congr (M := M) _ (fun d _ => ⟨rfl, rfl⟩) g3) i6
  have hend : AM (u_i M 0 24 (nI (v + 1))) (wtop stk, D, v + 1, mf, stk) := ⟨g1, u_i_e, SM_congr (M := M) _ (fun d _ => ⟨rfl, rfl⟩) g3⟩
  have h104 : ∀ (q : Int32) (w2 : Nat), kc q = nI c → w2 < 7 → (if nI c = (123 : Int32) then nI 2 else if nI c = 91 then nI 3 else nI 5) = nI w2 →
      ∃ M2, Mo_slipOf_L14_J104 (nI st) (nI k) (nI c) 0 M = some (.inr (nI w2, nI (k + 1), M2)) ∧ ∀ n mf2 w3, AM M2 (w3, D, v + 1, mf2, (q, n, 0) :: stk) := by
    intro q w2 hq hw2 hif
    unfold Mo_slipOf_L14_J104 Mo_slipOf_L14_J155
    have a1 : (u_i M 17 stk.length (nI c)).1 0 27 = nI stk.length := g1
    have a2 : (u_i (u_i M 17 stk.length (nI c)) 18 stk.length (-1)).1 0 27 = nI stk.length := g1
    rw [g1, ix_nI (by omega), a1, ix_nI (by omega), a2, ck_in (by omega) (by omega), ck_in (by omega) (by omega), nI_1]
    obtain ⟨M1, hM1⟩ : ∃ M1, M1 = u_i (u_i (u_i M 17 stk.length (nI c)) 18 stk.length (-1)) 0 27 (nI (stk.length + 1)) := ⟨_, rfl⟩
    rw [← hM1]
    have b1 : M1.1 0 24 = nI v := by rw [hM1]; exact g2
    have hf : ∀ n mf2 w3, AM (u_i M1 0 24 (M1.1 0 24 + 1)) (w3, D, v + 1, mf2, (q, n, 0) :: stk) := by
      intro n mf2 w3
      refine ⟨by rw [hM1]; simp [u_i, VA.stk], by rw [u_i_e, b1, nI_1], ?_⟩
      refine ⟨by rw [hM1]; simp [u_i, hq], by rw [hM1]; simp [u_i]; rfl, SM_congr (M := M) _ (fun d hd => ?_) g3⟩
      rw [hM1]
      constructor
      · simp [u_i]; omega
      · simp [u_i]; omega
    refine ⟨u_i M1 0 24 (M1.1 0 24 + 1), ?_, hf⟩
    by_cases e1 : nI c = 123
    · rw [if_pos e1]
      rw [if_pos e1] at hif
      rw [← hif]
      exact h157p 2 M1 (by decide)
    · rw [if_neg e1]
      rw [if_neg e1] at hif
      by_cases e2 : nI c = 91
      · rw [if_pos e2]
        rw [if_pos e2] at hif
        rw [← hif]
        exact h157p 3 M1 (by decide)
      · rw [if_neg e2]
        rw [if_neg e2] at hif
        rw [← hif]
        exact h157p 5 M1 (by decide)
  unfold vbegin Mo_slipOf_L14_J45
  rw [show (48 : Int32) = nI 48 from rfl, show (57 : Int32) = nI 57 from rfl, mo_in_1 (by omega) (by decide) (by decide), Option.bind_some]
  unfold vk
  by_cases k1 : 48 ≤ c ∧ c ≤ 57
  · rw [if_pos k1, if_pos k1, if_neg (show ¬ (1 : Int32) = 0 by decide), h68]
    exact ⟨_, rfl, hend⟩
  rw [if_neg k1, if_neg k1, if_pos (show (0 : Int32) = 0 from rfl)]
  by_cases k2 : c = 84
  · rw [if_pos (Or.inl k2), if_pos (show nI c = 84 by rw [k2]; rfl), h68]
    exact ⟨_, rfl, hend⟩
  rw [if_neg (show ¬ nI c = 84 from fun h => k2 ((c_eq hc (by decide)).mp h))]
  by_cases k3 : c = 70
  · rw [if_pos (Or.inr k3), if_pos (show nI c = 70 by rw [k3]; rfl), h68]
    exact ⟨_, rfl, hend⟩
  rw [if_neg (show ¬ nI c = 70 from fun h => k3 ((c_eq hc (by decide)).mp h)), if_neg (show ¬ (c = 84 ∨ c = 70) by omega)]
  by_cases k4 : c = 36
  · rw [if_pos k4, if_pos (show nI c = 36 by rw [k4]; rfl), show (1 : Int32) = nI 1 from rfl, h157p 1 M (by decide), g2, nI_1]
    exact ⟨_, rfl, g1, u_i_e, SM_congr (M := M) _ (fun d _ => ⟨rfl, rfl⟩) g3⟩
  rw [if_neg k4, if_neg (show ¬ nI c = 36 from fun h => k4 ((c_eq hc (by decide)).mp h))]
  by_cases k5 : c = 123
  · rw [if_pos k5, if_pos (show nI c = 123 by rw [k5]; rfl)]
    obtain ⟨M2, h1, h2⟩ := h104 123 2 (by rw [k5]; rfl) (by decide) (by rw [k5]; rfl)
    exact ⟨M2, h1, h2 _ _ _⟩
  rw [if_neg k5, if_neg (show ¬ nI c = 123 from fun h => k5 ((c_eq hc (by decide)).mp h))]
  by_cases k6 : c = 91
  · rw [if_pos k6, if_pos (show nI c = 91 by rw [k6]; rfl)]
    obtain ⟨M2, h1, h2⟩ := h104 91 3 (by rw [k6]; rfl) (by decide) (by rw [k6]; rfl)
    exact ⟨M2, h1, h2 _ _ _⟩
  rw [if_neg k6, if_neg (show ¬ nI c = 91 from fun h => k6 ((c_eq hc (by decide)).mp h))]
  by_cases k7 : c = 40
  · rw [if_pos k7, if_pos (show nI c = 40 by rw [k7]; rfl)]
    obtain ⟨M2, h1, h2⟩ := h104 42 5 (by rw [k7]; rfl) (by decide) (by rw [k7]; rfl)
    exact ⟨M2, h1, h2 _ _ _⟩
  rw [if_neg k7, if_neg (show ¬ nI c = 40 from fun h => k7 ((c_eq hc (by decide)).mp h)), h157n]
  exact ⟨_, rfl⟩
/-- a step of the reference's first pass -/
theorem sl_step {A : VA} {k c pn : Nat} (hA : AM M A) (hI : VI N sg k A) (hpn : M.1 0 0 = nI pn) (hkp : k < pn) (hp1 : pn ≤ 100) (hc : c < 127) (hs : M.1 1 k = nI c) :
    match vstep sg pt c k A with
    | none => ∃ M2, Mo_slipOf_B14 (nI (ws A.w), nI k, M) = some (.inl (.inl (nI k, M2)))
    | some A2 => ∃ M2, Mo_slipOf_B14 (nI (ws A.w), nI k, M) = some (.inr (nI (ws A2.w), nI (k + 1), M2)) ∧ AM M2 A2 := by
  have g := hA
  obtain ⟨g1, g2, g3⟩ := g
  have hI' := hI
  obtain ⟨i1, i2, i3, i4, i5, i6, i7, i8, i9, i10⟩ := hI'
  have hw : A.w = 0 ∨ A.w = 1 ∨ A.w = 2 ∨ A.w = 3 ∨ A.w = 4 ∨ A.w = 5 ∨ A.w = 6 := by omega
  have hcl : ∀ e r x4, A.stk = e :: r → ∃ M2, Mo_slipOf_L14_J354 (nI k) x4 1 (u_i M 0 27 (M.1 0 27 - 1)) = some (.inr (nI (ws (wtop r)), nI (k + 1), M2)) ∧ AM M2 (vclose A) := by
    intro e r x4 hst
    have hr : M.1 0 27 - 1 = nI r.length := by rw [g1, hst, List.length_cons, nI_pred]
    rw [hst] at i1 g3
    simp only [List.length_cons] at i1
    rw [hr, sl_whole (M := u_i M 0 27 (nI r.length)) (l := r) x4 u_i_e (by omega) (SM_congr (M := M) _ (fun d _ => ⟨rfl, rfl⟩) g3.2.2) (fun e' he' => i6 e' (by rw [hst]; simp [he']))]
    refine ⟨_, rfl, ?_⟩
    unfold vclose
    rw [hst]
    exact ⟨u_i_e, g2, SM_congr (M := M) _ (fun d _ => ⟨rfl, rfl⟩) g3.2.2⟩
  unfold vstep Mo_slipOf_B14
  dsimp only
  rw [hpn, if_neg (show ¬ nI pn ≤ nI k by rw [nI_leI (by omega) (by omega)]; omega), ck_in (by omega) (by omega), ix_nI (by omega), hs]
  rcases hw with h | h | h | h | h | h | h <;> rw [h]
  · rw [if_pos rfl, if_pos (show nI (ws 0) = 0 from rfl)]
    exact sl_begin (st := 0) hA hI (by omega) hc (Or.inl rfl) (by omega)
  · rw [if_neg (by decide), if_pos rfl, if_neg (show ¬ nI (ws 1) = 0 by decide), if_pos (show nI (ws 1) = 5 from rfl)]
    by_cases h41 : c = 41
    · rw [if_pos h41]
      have ht := i7 h
      cases hst : A.stk with
      | nil => rw [hst] at ht; exact ht.elim
      | cons e r =>
        obtain ⟨M2, h2, h3⟩ := hcl e r (-6) hst
        subst h41
        refine ⟨M2, ?_, h3⟩
        have ew : (vclose A).w = wtop r := by unfold vclose; rw [hst]; rfl
        rw [ew, ← h2]
        show Mo_slipOf_L14_J45 (nI 5) (nI k) (nI 41) (-6) 0 M = _
        unfold Mo_slipOf_L14_J45
        rw [show (48 : Int32) = nI 48 from rfl, show (57 : Int32) = nI 57 from rfl, mo_in_1 (by omega) (by decide) (by decide), Option.bind_some, if_neg (show ¬ (48 ≤ 41 ∧ 41 ≤ 57) by omega), if_pos (show (0 : Int32) = 0 from rfl), if_neg (show ¬ nI 41 = 84 by decide), if_neg (show ¬ nI 41 = 70 by decide), if_neg (show ¬ nI 41 = 36 by decide), if_neg (show ¬ nI 41 = 123 by decide), if_neg (show ¬ nI 41 = 91 by decide), if_neg (show ¬ nI 41 = 40 by decide)]
        unfold Mo_slipOf_L14_J157 Mo_slipOf_L14_J177
        rw [if_pos rfl, if_pos (by decide), if_pos (show nI 5 = 5 from rfl), if_pos (show nI 41 = 41 from rfl)]
        have e0 : u_i M 0 24 (M.1 0 24 + 0) = M := by rw [Int32.add_zero, u_i_same]
        rw [e0]
    · rw [if_neg h41]
      exact sl_begin (st := 5) hA hI (by omega) hc (Or.inr rfl) (fun _ => h41)
  · rw [if_neg (by decide), if_neg (by decide), if_pos rfl, if_neg (show ¬ nI (ws 2) = 0 by decide), if_neg (show ¬ nI (ws 2) = 5 by decide), if_neg (show ¬ nI (ws 2) = 1 by decide), if_pos (show nI (ws 2) = 2 from rfl)]
    have ht := i8 h
    unfold vfield
    cases hst : A.stk with
    | nil => rw [hst] at ht; exact ht.elim
    | cons e r =>
      have ho := i6 e (by rw [hst]; simp)
      have i1' := i1
      have g3' := g3
      rw [hst] at i1' g3'
      simp only [List.length_cons] at i1'
      dsimp only
      have hr : M.1 0 27 - 1 = nI r.length := by rw [g1, hst, List.length_cons, nI_pred]
      rw [show (97 : Int32) = nI 97 from rfl, show (104 : Int32) = nI 104 from rfl, mo_in_1 (by omega) (by decide) (by decide), Option.bind_some]
      have h281 : Mo_slipOf_L14_J281 (nI k) (nI c) (-6) 0 M = if c = 125 then Mo_slipOf_L14_J354 (nI k) (-6) 1 (u_i M 0 27 (M.1 0 27 - 1)) else some (.inl (.inl (nI k, M))) := by
        unfold Mo_slipOf_L14_J281
        by_cases h1 : c = 125
        · rw [if_pos h1, if_pos (show nI c = 125 by rw [h1]; rfl)]
        · rw [if_neg h1, if_neg (show ¬ nI c = 125 from fun h => h1 ((c_eq hc (by decide)).mp h)), sl_no]
      by_cases h1 : c = 125
      · rw [if_pos h1, if_neg (show ¬ (97 ≤ c ∧ c ≤ 104) by omega), if_pos (show (0 : Int32) = 0 from rfl), h281, if_pos h1]
        obtain ⟨M2, h2, h3⟩ := hcl e r (-6) hst
        refine ⟨M2, h2, ?_⟩
        unfold vclose at h3
        rw [hst] at h3
        exact h3
      rw [if_neg h1]
      by_cases h5 : 97 ≤ c ∧ c ≤ 104
      · have e97 : nI c - nI 97 = nI (c - 97) := nI_sub (by omega)
        rw [if_pos h5, if_neg (show ¬ (1 : Int32) = 0 by decide), hr, ck_in (by omega) (by omega), ck_in (by omega) (by omega), ix_nI (by omega), g3'.2.1, e97]
        by_cases h6 : e.2.2 < 2 ^ (c - 97)
        · rw [if_neg (fun h => (lst_le _ _ ho.2.1 (by omega)).mp h h6), if_pos ⟨by omega, by omega, h6⟩, show (0 : Int32) = nI 0 from rfl]
          rw [show nI 0 = (0 : Int32) from rfl]
          have := sl_on (M := u_i M 18 r.length (nI (c - 97))) (k := k) (w := 0) (by decide)
          refine ⟨_, this, by rw [hst] at g1; exact g1, g2, g3'.1, by rw [u_i_e, lst_or _ _ ho.2.1 (by omega) h6], SM_congr (M := M) _ (fun d hd => ⟨rfl, u_i_k (by omega)⟩) g3'.2.2⟩
        · rw [if_pos ((lst_le _ _ ho.2.1 (by omega)).mpr h6), if_neg (fun h => h6 h.2.2), h281, if_neg h1]
          exact ⟨_, rfl⟩
      · rw [if_neg h5, if_pos (show (0 : Int32) = 0 from rfl), if_neg (show ¬ (97 ≤ c ∧ c < 105 ∧ e.2.2 < 2 ^ (c - 97)) by omega), h281, if_neg h1]
        exact ⟨_, rfl⟩
  · rw [if_neg (by decide), if_neg (by decide), if_neg (by decide), if_pos rfl, if_neg (show ¬ nI (ws 3) = 0 by decide), if_neg (show ¬ nI (ws 3) = 5 by decide), if_neg (show ¬ nI (ws 3) = 1 by decide), if_neg (show ¬ nI (ws 3) = 2 by decide), if_pos (show nI (ws 3) = 3 from rfl)]
    unfold vcase Mo_slipOf_L14_J325
    rw [show (97 : Int32) = nI 97 from rfl, show (104 : Int32) = nI 104 from rfl, mo_in_1 (by omega) (by decide) (by decide), Option.bind_some]
    by_cases h5 : 97 ≤ c ∧ c ≤ 104
    · rw [if_pos h5, if_neg (show ¬ (1 : Int32) = 0 by decide), if_pos (show 97 ≤ c ∧ c < 105 by omega)]
      exact ⟨_, sl_on (k := k) (w := 0) (by decide), g1, g2, g3⟩
    · rw [if_neg h5, if_pos (show (0 : Int32) = 0 from rfl), if_neg (show ¬ (97 ≤ c ∧ c < 105) by omega)]
      exact ⟨_, sl_no⟩
  · rw [if_neg (by decide), if_neg (by decide), if_neg (by decide), if_neg (by decide), if_pos rfl, if_neg (show ¬ nI (ws 4) = 0 by decide), if_neg (show ¬ nI (ws 4) = 5 by decide), if_neg (show ¬ nI (ws 4) = 1 by decide), if_neg (show ¬ nI (ws 4) = 2 by decide), if_neg (show ¬ nI (ws 4) = 3 by decide), if_pos (show nI (ws 4) = 4 from rfl)]
    by_cases h93 : c = 93
    · rw [if_pos h93, if_pos (show nI c = 93 by rw [h93]; rfl)]
      have ht := i10 h
      cases hst : A.stk with
      | nil => rw [hst] at ht; exact ht.elim
      | cons e r =>
        obtain ⟨M2, h2, h3⟩ := hcl e r (-6) hst
        have ew : (vclose A).w = wtop r := by unfold vclose; rw [hst]; rfl
        rw [h2]
        exact ⟨M2, by rw [ew], h3⟩
    · rw [if_neg h93, if_neg (show ¬ nI c = 93 from fun h => h93 ((c_eq hc (by decide)).mp h))]
      exact ⟨_, sl_no⟩
  · rw [if_neg (by decide), if_neg (by decide), if_neg (by decide), if_neg (by decide), if_neg (by decide), if_pos rfl, if_neg (show ¬ nI (ws 5) = 0 by decide), if_neg (show ¬ nI (ws 5) = 5 by decide), if_pos (show nI (ws 5) = 1 from rfl)]
    rw [show (97 : Int32) = nI 97 from rfl, show (122 : Int32) = nI 122 from rfl, mo_in_1 (by omega) (by decide) (by decide), Option.bind_some]
    by_cases h5 : 97 ≤ c ∧ c ≤ 122
    · rw [if_pos h5, if_pos h5]
      exact ⟨_, sl_whole (-6) g1 (by omega) g3 i6, g1, g2, g3⟩
    · rw [if_neg h5, if_neg h5]
      exact ⟨_, sl_no⟩
  · exact ⟨_, sl_no⟩
end VM
