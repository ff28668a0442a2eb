/-! a step in the program -/
theorem kn_slots_no {M : QM} {x : Int32} (hx : x < 0) : Ne_slotsOf x M = some 0 := by
  unfold Ne_slotsOf
  rw [if_pos hx]
theorem sub97 {c : Nat} (hc : c < 127) : (nI c - 97 < 0 ↔ c < 97) ∧ ((8 : Int32) ≤ nI c - 97 ↔ 105 ≤ c) ∧ (nI c - 97 < 8 ↔ c < 105) := by
  have h : ∀ c : Nat, c < 127 → (nI c - 97 < 0 ↔ c < 97) ∧ ((8 : Int32) ≤ nI c - 97 ↔ 105 ≤ c) ∧ (nI c - 97 < 8 ↔ c < 105) := by decide +kernel
  exact h c hc
theorem or_bit (m s : Nat) (hm : m < 256) (hs : s < 8) : nI m ||| ((1 : Int32) <<< (nI s &&& 31)) = nI (m ||| 2 ^ s) := by
  have h : ∀ m : Nat, m < 256 → ∀ s : Nat, s < 8 → nI m ||| ((1 : Int32) <<< (nI s &&& 31)) = nI (m ||| 2 ^ s) := by decide +kernel
  exact h m hm s hs
theorem shr_pow (m s : Nat) (hm : m < 256) (hs : s < 8) : (nI m >>> (nI s &&& 31) = 0) ↔ m < 2 ^ s := by
  have h : ∀ m : Nat, m < 256 → ∀ s : Nat, s < 8 → ((nI m >>> (nI s &&& 31) = 0) ↔ m < 2 ^ s) := by decide +kernel
  exact h m hm s hs
theorem c_eq {c b : Nat} (hc : c < 127) (hb : b < 127) : nI c = nI b ↔ c = b := nI_eq (by omega) (by omega)
section VK
variable {M : QM} {N : Nat} {sg : Nat → Int32} {pt : Nat → Nat → Option Nat} {nm : Nat → Option Nat}
theorem va_field (hK : NetK M N sg pt nm) (hW : WF N sg pt nm) {A : VA} {k c : Nat} (hA : AK M A) (hI : VI N sg k A) (hw : A.w = 2) (hk : k < 100) (hc : c < 127) :
    match vfield pt c k A with
    | none => ∃ M2, Va_readField (nI c) (nI k) M = some (0, M2)
    | some A2 => ∃ M2, Va_readField (nI c) (nI k) M = some (1, M2) ∧ AK M2 A2 := by
  obtain ⟨w, D0, v, mf, stk⟩ := A
  obtain ⟨g1, g2, g3, g4, g5, g6⟩ := hA
  obtain ⟨i1, i2, i3, i4, i5, i6, i7, i8, i9⟩ := hI
  dsimp only [VA.w, VA.D, VA.v, VA.mf, VA.stk] at *
  have hN := hW.1
  have hin := va_inner g1 (by omega) g6
  unfold vfield Va_readField Va_readField_J48
  rw [va_known g1 (by omega), Option.bind_some]
  cases stk with
  | nil => exact (i8 hw).elim
  | cons e r =>
    have hg1 := g1
    have hg6 := g6
    have ho := i6 e (by simp)
    simp only [List.length_cons] at g1 i1
    obtain ⟨s1, s2, s3, s4⟩ := g6
    dsimp only
    rw [if_neg (show ¬ (if (e :: r).length = 0 then (0 : Int32) else 1) = 0 by simp)]
    by_cases h1 : c = 125
    · subst h1
      rw [if_pos rfl, if_pos (show nI 125 = 125 from rfl), hin, Option.bind_some]
      rw [g1, nI_pred1 (by omega), Nat.add_sub_cancel]
      have hcl : ∀ (b : Bool), Option.bind (Va_closeValue (u_i M 24 9 (enc (nte b mf k)))) (fun q9 => ck (isb q9.1) (some (q9.1, q9.2))) = some (1, u_i (u_i (u_i M 24 9 (enc (nte b mf k))) 24 5 (nI r.length)) 24 6 (nI (wtop r))) := by
        intro b
        rw [va_close (M := u_i M 24 9 (enc (nte b mf k))) (e := e) (r := r) hg1 (by simp; omega) (SK_congr (M := M) _ (fun d _ => ⟨rfl, rfl, rfl⟩) hg6)]
        rfl
      have hAK : ∀ (b : Bool), AK (u_i (u_i (u_i M 24 9 (enc (nte b mf k))) 24 5 (nI r.length)) 24 6 (nI (wtop r))) (wtop r, D0, v, nte b mf k, r) := by
        intro b
        refine ⟨by simp [u_i, VA.stk], by simp [u_i, VA.w], g3, g4, by simp [u_i, VA.mf], SK_congr (M := M) _ (fun d _ => ⟨rfl, rfl, rfl⟩) s4⟩
      have hm2 : ∀ j, mf = some j → j < 2 ^ 31 := fun j hj => by have := i5 j hj; omega
      have hsame : u_i M 24 9 (enc (nte false mf k)) = M := by
        show u_i M 24 9 (enc mf) = M
        rw [← g5, u_i_same]
      have hnote : Va_noteMisfit (nI k) M = some (u_i M 24 9 (enc (nte true mf k))) := by
        rw [va_note, enc_nte _ _ _ hm2, if_pos rfl, g5]
      unfold mssB topN
      obtain ⟨e1, e2, e3⟩ := e
      cases e2 with
      | none =>
        dsimp only [encW_none]
        rw [kn_slots_no (by decide), Option.bind_some, ck_in (by omega) (by omega), ix_nI (by omega), s3, if_pos (show (0 : Int32) &&& (nI e3 ^^^ -1) = 0 from Int32.zero_and)]
        have := hcl false
        rw [hsame] at this
        rw [this]
        have h2 := hAK false
        rw [hsame] at h2
        exact ⟨_, rfl, h2⟩
      | some i =>
        obtain ⟨hi, -⟩ := ho.2.2 i rfl
        obtain ⟨m, hm, hm1, hm3⟩ := kn_slots hK hN hi
        dsimp only
        rw [encW_some, hm1, Option.bind_some, ck_in (by omega) (by omega), ix_nI (by omega), s3]
        dsimp only
        by_cases hb : (List.range 8).any (fun s => (pt i s).isSome && !(e3.testBit s)) = true
        · rw [hb, if_neg, hnote, Option.bind_some, hcl true]
          · exact ⟨_, rfl, hAK true⟩
          · rw [bit_sub m e3 hm ho.2.1]
            intro hall
            obtain ⟨s, hs, hs2⟩ := List.any_eq_true.mp hb
            rw [List.mem_range] at hs
            have := hall s hs (by rw [hm3 s hs]; revert hs2; cases (pt i s).isSome <;> simp)
            rw [this] at hs2
            simp at hs2
        · have hb' : (List.range 8).any (fun s => (pt i s).isSome && !(e3.testBit s)) = false := by simpa using hb
          rw [hb', if_pos]
          · have := hcl false
            rw [hsame] at this
            rw [this]
            have h2 := hAK false
            rw [hsame] at h2
            exact ⟨_, rfl, h2⟩
          · rw [bit_sub m e3 hm ho.2.1]
            intro s hs h1
            rw [hm3 s hs] at h1
            cases h2 : e3.testBit s with
            | true => rfl
            | false => exact absurd (List.any_eq_true.mpr ⟨s, List.mem_range.mpr hs, by rw [h1, h2]; rfl⟩) hb
    · rw [if_neg h1, if_neg (show ¬ nI c = 125 from fun h => h1 ((c_eq hc (by decide)).mp h))]
      by_cases h2 : c < 97
      · rw [if_pos ((sub97 hc).1.mpr h2), if_neg (by omega)]
        exact ⟨_, rfl⟩
      rw [if_neg (fun h => h2 ((sub97 hc).1.mp h))]
      by_cases h3 : 105 ≤ c
      · rw [if_pos ((sub97 hc).2.1.mpr h3), if_neg (by omega)]
        exact ⟨_, rfl⟩
      rw [if_neg (fun h => h3 ((sub97 hc).2.1.mp h))]
      have e97 : nI c - 97 = nI (c - 97) := nI_sub (b := 97) (by omega)
      rw [e97, g1, nI_pred1 (by omega), Nat.add_sub_cancel, ck_in (by omega) (by omega), ck_in (by omega) (by omega), ck_in (by omega) (by omega), ix_nI (by omega), s3]
      by_cases h4 : e.2.2 < 2 ^ (c - 97)
      · rw [if_pos ((shr_pow _ _ ho.2.1 (by omega)).mpr h4), if_pos ⟨by omega, by omega, h4⟩, or_bit _ _ ho.2.1 (by omega)]
        obtain ⟨M1, hM1⟩ : ∃ M1, M1 = u_i M 27 r.length (nI (e.2.2 ||| 2 ^ (c - 97))) := ⟨_, rfl⟩
        rw [← hM1]
        have hr : ∀ m : Nat, m < 256 → ∀ s : Nat, s < 8 → m ||| 2 ^ s < 256 := by decide +kernel
        have hS1 : SK M1 ((e.1, e.2.1, e.2.2 ||| 2 ^ (c - 97)) :: r) := by
          rw [hM1]
          refine ⟨s1, s2, by simp [u_i], SK_congr (M := M) r (fun d hd => ⟨rfl, rfl, ?_⟩) s4⟩
          rw [u_i_k (by omega)]
        have hd := va_due (M := M1) (l := (e.1, e.2.1, e.2.2 ||| 2 ^ (c - 97)) :: r) (s := c - 97) (by rw [hM1]; exact hK) hW (by rw [hM1]; exact g1) (by simp; omega) hS1 (by
          intro e' he'
          rcases List.mem_cons.mp he' with rfl | he'
          · exact ⟨ho.1, hr _ ho.2.1 _ (by omega), ho.2.2⟩
          · exact i6 e' (by simp [he'])) (by omega)
        rw [hd, Option.bind_some]
        refine ⟨_, rfl, by rw [hM1]; exact g1, by simp [u_i, VA.w]; rfl, by simp [u_i, VA.D]; rfl, by rw [hM1]; exact g4, by rw [hM1]; exact g5, SK_congr (M := M1) _ (fun d _ => ⟨rfl, rfl, rfl⟩) hS1⟩
      · rw [if_neg (fun h => h4 ((shr_pow _ _ ho.2.1 (by omega)).mp h)), if_neg (fun h => h4 h.2.2)]
        exact ⟨_, rfl⟩
theorem va_case (hK : NetK M N sg pt nm) (hW : WF N sg pt nm) {A : VA} {k c : Nat} (hA : AK M A) (hI : VI N sg k A) (hw : A.w = 3) (hk : k < 100) (hc : c < 127) :
    match vcase pt c k A with
    | none => ∃ M2, Va_readCase (nI c) (nI k) M = some (0, M2)
    | some A2 => ∃ M2, Va_readCase (nI c) (nI k) M = some (1, M2) ∧ AK M2 A2 := by
  obtain ⟨w, D0, v, mf, stk⟩ := A
  obtain ⟨g1, g2, g3, g4, g5, g6⟩ := hA
  obtain ⟨i1, i2, i3, i4, i5, i6, i7, i8, i9, i10⟩ := hI
  dsimp only [VA.w, VA.D, VA.v, VA.mf, VA.stk] at *
  have hN := hW.1
  unfold vcase Va_readCase Va_readCase_J51
  dsimp only [VA.w, VA.D, VA.v, VA.mf, VA.stk]
  by_cases h2 : c < 97
  · rw [if_pos ((sub97 hc).1.mpr h2), if_neg (by omega)]
    exact ⟨_, rfl⟩
  rw [if_neg (fun h => h2 ((sub97 hc).1.mp h))]
  by_cases h3 : 105 ≤ c
  · rw [if_neg (show ¬ nI c - 97 < 8 from fun h => by have := (sub97 hc).2.2.mp h; omega), if_neg (by omega)]
    exact ⟨_, rfl⟩
  rw [if_pos ((sub97 hc).2.2.mpr (by omega)), if_pos ⟨by omega, by omega⟩]
  have e97 : nI c - 97 = nI (c - 97) := nI_sub (b := 97) (by omega)
  have hk0 := (i9 hw).2
  rw [e97, va_due hK hW g1 (by omega) g6 i6 (by omega), Option.bind_some, nI_pred1 hk0]
  obtain ⟨D, hD⟩ : ∃ D, D = dueOf pt stk (c - 97) := ⟨_, rfl⟩
  rw [← hD]
  obtain ⟨M1, hM1⟩ : ∃ M1, M1 = u_i M 24 7 (encW D) := ⟨_, rfl⟩
  have hDl : ∀ j, D = some j → j < N := fun j hj => dueOf_lt hW i6 (by rw [← hD]; exact hj)
  rw [← hM1, va_inner (M := M1) (l := stk) (by rw [hM1]; exact g1) (by omega) (SK_congr (M := M) _ (fun d _ => by rw [hM1]; exact ⟨rfl, rfl, rfl⟩) g6), Option.bind_some]
  have f7 : M1.1 24 7 = encW D := by rw [hM1]; exact u_i_e
  have f9 : M1.1 24 9 = enc mf := by rw [hM1]; exact g5
  rw [f7]
  have hAK : ∀ (b : Bool), AK (u_i (u_i M1 24 9 (enc (nte b mf (k - 1)))) 24 6 0) (0, D, v, nte b mf (k - 1), stk) := by
    intro b
    refine ⟨by rw [hM1]; exact g1, by simp [u_i, VA.w]; rfl, f7, by rw [hM1]; exact g4, by simp [u_i, VA.mf], SK_congr (M := M) _ (fun d _ => by rw [hM1]; exact ⟨rfl, rfl, rfl⟩) g6⟩
  have hm2 : ∀ j, mf = some j → j < 2 ^ 31 := fun j hj => by have := i5 j hj; omega
  have hsame : u_i M1 24 9 (enc (nte false mf (k - 1))) = M1 := by
    show u_i M1 24 9 (enc mf) = M1
    rw [← f9, u_i_same]
  have hnote : Va_noteMisfit (nI (k - 1)) M1 = some (u_i M1 24 9 (enc (nte true mf (k - 1)))) := by
    rw [va_note, enc_nte _ _ _ hm2, if_pos rfl, f9]
  have h0 := hAK false
  rw [hsame] at h0
  cases hT : topN stk with
  | none =>
    rw [encW_none, if_pos rfl]
    exact ⟨_, rfl, h0⟩
  | some i =>
    have hi : i < N := by
      cases stk with
      | nil => cases hT
      | cons e r => exact ((i6 e (by simp)).2.2 i hT).1
    rw [encW_some, if_neg (nI_neg7 (by omega))]
    cases hDD : D with
    | none =>
      rw [encW_none, if_pos rfl, hnote, Option.bind_some]
      have := hAK true
      rw [hDD] at this
      exact ⟨_, rfl, this⟩
    | some j =>
      have := hDl j hDD
      rw [encW_some, if_neg (nI_neg7 (by omega))]
      rw [hDD] at h0
      exact ⟨_, rfl, h0⟩
/-- a step of the program -/
theorem va_step (hK : NetK M N sg pt nm) (hW : WF N sg pt nm) {A : VA} {k c : Nat} (hA : AK M A) (hI : VI N sg k A) (hk : k < 100) (hc : c < 127) :
    match vstep sg pt c k A with
    | none => ∃ M2, Va_goesOn (nI c) (nI k) M = some (0, M2)
    | some A2 => ∃ M2, Va_goesOn (nI c) (nI k) M = some (1, M2) ∧ AK M2 A2 := by
  have g := hA
  obtain ⟨g1, g2, g3, g4, g5, g6⟩ := g
  have hI' := hI
  obtain ⟨i1, i2, i3, i4, i5, i6, i7, i8, i9, i10⟩ := hI'
  have hw : A.w = 0 ∨ A.w = 1 ∨ A.w = 2 ∨ A.w = 3 ∨ A.w = 4 ∨ A.w = 5 ∨ A.w = 6 := by omega
  have hcl : ∀ e r, A.stk = e :: r → ∃ M2, Va_closeValue M = some (1, M2) ∧ AK M2 (vclose A) := by
    intro e r hs
    rw [hs] at g1 g6
    refine ⟨_, va_close g1 (by rw [← hs]; omega) g6, ?_⟩
    unfold vclose
    rw [hs]
    exact ⟨by simp [u_i, VA.stk], by simp [u_i, VA.w], g3, g4, g5, SK_congr (M := M) _ (fun d _ => ⟨rfl, rfl, rfl⟩) g6.2.2.2⟩
  unfold vstep Va_goesOn
  rw [g2]
  rcases hw with h | h | h | h | h | h | h <;> rw [h]
  · rw [if_pos rfl, if_pos (show nI 0 = 0 from rfl)]
    have := va_begin hK hW (A := A) (k := k) (c := c) (D := A.D) hA hI i4 hk hc
    split
    · rename_i he
      rw [he] at this
      obtain ⟨M2, h2⟩ := this
      rw [h2]; exact ⟨M2, rfl⟩
    · rename_i A2 he
      rw [he] at this
      obtain ⟨M2, h2, h3⟩ := this
      rw [h2]; exact ⟨M2, rfl, h3⟩
  · rw [if_neg (by decide), if_pos rfl, if_neg (show ¬ nI 1 = 0 by decide), if_pos (show nI 1 = 1 from rfl)]
    unfold Va_readItem
    by_cases h41 : c = 41
    · rw [if_pos h41, if_pos (show nI c = 41 by rw [h41]; rfl)]
      have ht := i7 h
      cases hs : A.stk with
      | nil => rw [hs] at ht; exact ht.elim
      | cons e r =>
        obtain ⟨M2, h2, h3⟩ := hcl e r hs
        rw [h2]
        exact ⟨M2, rfl, h3⟩
    · rw [if_neg h41, if_neg (show ¬ nI c = 41 from fun h => h41 ((c_eq hc (by decide)).mp h)), show (0 : Int32) = nI 0 from rfl, va_due hK hW g1 (by omega) g6 i6 (by decide), Option.bind_some]
      have := va_begin (M := u_i M 24 7 (encW (dueOf pt A.stk 0))) (by exact hK) hW (A := A) (k := k) (c := c) (D := dueOf pt A.stk 0) ⟨g1, g2, u_i_e, g4, g5, SK_congr (M := M) _ (fun d _ => ⟨rfl, rfl, rfl⟩) g6⟩ hI (fun j hj => dueOf_lt hW i6 hj) hk hc
      split
      · rename_i he
        rw [he] at this
        obtain ⟨M2, h2⟩ := this
        rw [h2]; exact ⟨M2, rfl⟩
      · rename_i A2 he
        rw [he] at this
        obtain ⟨M2, h2, h3⟩ := this
        rw [h2]; exact ⟨M2, rfl, h3⟩
  · rw [if_neg (by decide), if_neg (by decide), if_pos rfl, if_neg (show ¬ nI 2 = 0 by decide), if_neg (show ¬ nI 2 = 1 by decide), if_pos (show nI 2 = 2 from rfl)]
    have := va_field hK hW hA hI h hk hc
    split
    · rename_i he
      rw [he] at this
      obtain ⟨M2, h2⟩ := this
      rw [h2]; exact ⟨M2, rfl⟩
    · rename_i A2 he
      rw [he] at this
      obtain ⟨M2, h2, h3⟩ := this
      rw [h2]; exact ⟨M2, rfl, h3⟩
  · rw [if_neg (by decide), if_neg (by decide), if_neg (by decide), if_pos rfl, if_neg (show ¬ nI 3 = 0 by decide), if_neg (show ¬ nI 3 = 1 by decide), if_neg (show ¬ nI 3 = 2 by decide), if_pos (show nI 3 = 3 from rfl)]
    have := va_case hK hW hA hI h hk hc
    split
    · rename_i he
      rw [he] at this
      obtain ⟨M2, h2⟩ := this
      rw [h2]; exact ⟨M2, rfl⟩
    · rename_i A2 he
      rw [he] at this
      obtain ⟨M2, h2, h3⟩ := this
      rw [h2]; exact ⟨M2, rfl, h3⟩
  · rw [if_neg (by decide), if_neg (by decide), if_neg (by decide), if_neg (by decide), if_pos rfl, if_neg (show ¬ nI 4 = 0 by decide), if_neg (show ¬ nI 4 = 1 by decide), if_neg (show ¬ nI 4 = 2 by decide), if_neg (show ¬ nI 4 = 3 by decide), if_pos (show nI 4 = 4 from rfl)]
    by_cases h93 : c = 93
    · rw [if_pos h93, if_pos (show nI c = 93 by rw [h93]; rfl)]
      have ht := i10 h
      cases hs : A.stk with
      | nil => rw [hs] at ht; exact ht.elim
      | cons e r =>
        obtain ⟨M2, h2, h3⟩ := hcl e r hs
        rw [h2]
        exact ⟨M2, rfl, h3⟩
    · rw [if_neg h93, if_neg (show ¬ nI c = 93 from fun h => h93 ((c_eq hc (by decide)).mp h))]
      exact ⟨M, rfl⟩
  · rw [if_neg (by decide), if_neg (by decide), if_neg (by decide), if_neg (by decide), if_neg (by decide), if_pos rfl, if_neg (show ¬ nI 5 = 0 by decide), if_neg (show ¬ nI 5 = 1 by decide), if_neg (show ¬ nI 5 = 2 by decide), if_neg (show ¬ nI 5 = 3 by decide), if_neg (show ¬ nI 5 = 4 by decide), if_pos (show nI 5 = 5 from rfl)]
    by_cases h1 : c < 97
    · rw [if_pos (show nI c < 97 from nI_lt (b := 97) h1 (by decide)), if_neg (by omega)]
      exact ⟨M, rfl⟩
    · rw [if_neg (show ¬ nI c < 97 from nI_nlt (b := 97) (by omega) (by omega))]
      by_cases h2 : 122 < c
      · rw [if_pos (show 122 < nI c from nI_lt (a := 122) h2 (by omega)), if_neg (by omega)]
        exact ⟨M, rfl⟩
      · rw [if_neg (show ¬ 122 < nI c from nI_nlt (a := 122) (by omega) (by omega)), if_pos ⟨by omega, by omega⟩, va_end g1 (by omega) g6]
        exact ⟨_, rfl, g1, u_i_e, g3, g4, g5, SK_congr (M := M) _ (fun d _ => ⟨rfl, rfl, rfl⟩) g6⟩
  · exact ⟨M, rfl⟩
end VK
