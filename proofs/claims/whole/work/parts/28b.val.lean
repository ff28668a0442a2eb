/-! values in the program -/
section VK
variable {M : QM} {N : Nat} {sg : Nat → Int32} {pt : Nat → Nat → Option Nat} {nm : Nat → Option Nat}
theorem va_known {p : Nat} (h : M.1 24 5 = nI p) (hp : p ≤ 100) : Va_isInnermostKnown M = some (if p = 0 then 0 else 1) := by
  unfold Va_isInnermostKnown
  rw [h]
  by_cases h0 : p = 0
  · subst h0; rfl
  · rw [if_neg (show ¬ nI p ≤ 0 from nI_nle (by omega) (by omega)), if_neg (show ¬ (100 : Int32) < nI p by rw [l_100, nI_ltI (by omega) (by omega)]; omega), if_neg h0]
theorem va_end {l : List VE} (h : M.1 24 5 = nI l.length) (hp : l.length ≤ 100) (hS : SK M l) : Va_endValue M = some (1, u_i M 24 6 (nI (wtop l))) := by
  unfold Va_endValue
  rw [va_known h hp, Option.bind_some]
  cases l with
  | nil => rfl
  | cons e r =>
    simp only [List.length_cons] at h hp
    rw [h, nI_pred1 (by omega), Nat.add_sub_cancel, ck_in (by omega) (by omega), ck_in (by omega) (by omega), ix_nI (by omega), hS.1, if_neg (show ¬ (if (e :: r).length = 0 then (0 : Int32) else 1) = 0 by simp)]
    unfold wtop Va_endValue_J62
    dsimp only
    by_cases h1 : e.1 = 123
    · rw [if_pos h1, if_pos h1]; rfl
    · rw [if_neg h1, if_neg h1]
      by_cases h2 : e.1 = 91
      · rw [if_pos h2, if_pos h2]; rfl
      · rw [if_neg h2, if_neg h2]; rfl
theorem va_close {e : VE} {r : List VE} (h : M.1 24 5 = nI (e :: r).length) (hp : (e :: r).length ≤ 100) (hS : SK M (e :: r)) : Va_closeValue M = some (1, u_i (u_i M 24 5 (nI r.length)) 24 6 (nI (wtop r))) := by
  simp only [List.length_cons] at h hp
  unfold Va_closeValue Va_closeValue_J17
  rw [h, if_neg (show ¬ nI (r.length + 1) ≤ 0 from nI_nle (by omega) (by omega)), nI_pred1 (by omega), Nat.add_sub_cancel]
  rw [va_end (M := u_i M 24 5 (nI r.length)) (l := r) u_i_e (by omega) (SK_congr (M := M) r (fun d _ => ⟨rfl, rfl, rfl⟩) hS.2.2.2)]
  rfl
theorem va_note (x : Int32) : Va_noteMisfit x M = some (u_i M 24 9 (if M.1 24 9 = -6 then x else M.1 24 9)) := by
  unfold Va_noteMisfit
  by_cases h : M.1 24 9 = -6
  · rw [if_pos h, if_pos h]
  · rw [if_neg h, if_neg h, u_i_same]
theorem enc_nte (mf : Option Nat) (k : Nat) (b : Bool) (hmf : ∀ j, mf = some j → j < 2 ^ 31) : enc (nte b mf k) = if b = true then (if enc mf = -6 then nI k else enc mf) else enc mf := by
  unfold nte
  cases b with
  | false => rfl
  | true =>
    rw [if_pos rfl, if_pos rfl]
    cases mf with
    | none => rfl
    | some j => rw [if_neg (by rw [enc_some]; exact nI_neg6 (hmf j rfl))]
theorem va_held (hK : NetK M N sg pt nm) (hN : N ≤ 60) {D : Option Nat} {mf : Option Nat} (hD : M.1 24 7 = encW D) (hD2 : ∀ j, D = some j → j < N) (hm : M.1 24 9 = enc mf) (hm2 : ∀ j, mf = some j → j < 2 ^ 31) {q : Int32} (hq : q ≠ 46) (k : Nat) :
    Va_nodeHeldAgainst q (nI k) M = some (encW (hdN sg q D), u_i M 24 9 (enc (nte (hdB sg q D) mf k))) := by
  unfold Va_nodeHeldAgainst
  rw [hD]
  have hsame : u_i M 24 9 (enc mf) = M := by rw [← hm, u_i_same]
  cases D with
  | none =>
    rw [encW_none, if_pos rfl]
    show _ = some (encW none, u_i M 24 9 (enc mf))
    rw [hsame]; rfl
  | some i =>
    have hi := hD2 i rfl
    rw [encW_some, if_neg (nI_neg7 (by omega)), kn_sign hK hN hi, Option.bind_some, Option.bind_some]
    by_cases h1 : sg i = 46
    · have hb : hdB sg q (some i) = false := by simp [hdB, h1]
      have hn : hdN sg q (some i) = none := by simp [hdN, h1]; exact fun h => hq h.symm
      rw [if_pos h1, hb, hn]
      show _ = some (encW none, u_i M 24 9 (enc mf))
      rw [hsame]; rfl
    · rw [if_neg h1]
      by_cases h2 : sg i = q
      · have hb : hdB sg q (some i) = false := by simp [hdB, h2]
        have hn : hdN sg q (some i) = some i := by simp [hdN, h2]
        rw [if_pos h2, hb, hn]
        show _ = some (encW (some i), u_i M 24 9 (enc mf))
        rw [hsame]; rfl
      · have hb : hdB sg q (some i) = true := by simp [hdB, h1, h2]
        have hn : hdN sg q (some i) = none := by simp [hdN, h2]
        rw [if_neg h2, va_note, Option.bind_some, hb, hn, enc_nte _ _ _ hm2, if_pos rfl, hm]
        rfl
theorem va_inner {l : List VE} (h : M.1 24 5 = nI l.length) (hp : l.length ≤ 100) (hS : SK M l) : Va_innermostNode M = some (encW (topN l)) := by
  unfold Va_innermostNode
  rw [va_known h hp, Option.bind_some]
  cases l with
  | nil => rfl
  | cons e r =>
    simp only [List.length_cons] at h hp
    rw [h, nI_pred1 (by omega), Nat.add_sub_cancel, ck_in (by omega) (by omega), ix_nI (by omega), hS.2.1, if_neg (show ¬ (if (e :: r).length = 0 then (0 : Int32) else 1) = 0 by simp)]
    rfl
theorem va_due (hK : NetK M N sg pt nm) (hW : WF N sg pt nm) {l : List VE} (h : M.1 24 5 = nI l.length) (hp : l.length ≤ 100) (hS : SK M l) (hl : ∀ e, e ∈ l → okE N sg e) {s : Nat} (hs : s < 8) : Va_dueAt (nI s) M = some (encW (dueOf pt l s)) := by
  unfold Va_dueAt
  rw [va_inner h hp hS, Option.bind_some]
  have hno : Option.bind (Ne_partAt (-7) (nI s) M) (fun q2 => if q2 = (-6 : Int32) then some (-7 : Int32) else some q2) = some (encW none) := by
    rw [kn_part_no (by decide)]; rfl
  cases l with
  | nil => exact hno
  | cons e r =>
    have he := (hl e (by simp)).2.2
    unfold topN dueOf
    obtain ⟨e1, e2, e3⟩ := e
    cases e2 with
    | none => exact hno
    | some i =>
      have hi := (he i rfl).1
      show Option.bind (Ne_partAt (nI i) (nI s) M) _ = some (encW (pt i s))
      rw [kn_part hK hW.1 hi hs, Option.bind_some]
      cases hpt : pt i s with
      | none => rfl
      | some j =>
        have := hW.2.2.1 i s j hi hpt
        have := hW.1
        rw [enc_some, if_neg (nI_neg6 (by omega))]
        rfl
theorem va_kind {c : Nat} (hc : c < 127) : Va_kindBegunBy (nI c) M = some (match vk c with | none => -6 | some q => q) := by
  unfold Va_kindBegunBy Va_kindBegunBy_J15 
  have h : ∀ c : Nat, c < 127 → (if nI c < (48 : Int32) then (if nI c = 36 then some (115 : Int32) else if nI c = 40 then some (42 : Int32) else if nI c = 70 then some (116 : Int32) else if nI c = 84 then some (116 : Int32) else if nI c = 91 then some (91 : Int32) else if nI c = 123 then some (123 : Int32) else some (-6 : Int32)) else (if (57 : Int32) < nI c then (if nI c = 36 then some (115 : Int32) else if nI c = 40 then some (42 : Int32) else if nI c = 70 then some (116 : Int32) else if nI c = 84 then some (116 : Int32) else if nI c = 91 then some (91 : Int32) else if nI c = 123 then some (123 : Int32) else some (-6 : Int32)) else some (110 : Int32))) = some (match vk c with | none => -6 | some q => q) := by decide +kernel
  exact h c hc
theorem va_open {p : Nat} (h : M.1 24 5 = nI p) (hp : p < 100) (q n : Int32) : Va_openValue q n M = some (1, u_i (u_i (u_i (u_i (u_i M 25 p q) 26 p n) 27 p 0) 24 5 (nI (p + 1))) 24 6 (if q = 123 then 2 else if q = 91 then 3 else 1)) := by
  unfold Va_openValue Va_openValue_J84
  have a1 : (u_i M 25 p q).1 24 5 = nI p := h
  have a2 : (u_i (u_i M 25 p q) 26 p n).1 24 5 = nI p := h
  have a3 : (u_i (u_i (u_i M 25 p q) 26 p n) 27 p 0).1 24 5 = nI p := h
  rw [h, ix_nI (by omega), a1, ix_nI (by omega), a2, ix_nI (by omega), a3, if_neg (nI_pos (by omega)), if_pos (show nI p < 100 by rw [l_100, nI_ltI (by omega) (by omega)]; omega), ck_in (by omega) (by omega), ck_in (by omega) (by omega), ck_in (by omega) (by omega), nI_1]
  by_cases h1 : q = 123
  · rw [if_pos h1, if_pos h1]
  · rw [if_neg h1, if_neg h1]
    by_cases h2 : q = 91
    · rw [if_pos h2, if_pos h2]
    · rw [if_neg h2, if_neg h2]
theorem va_begin (hK : NetK M N sg pt nm) (hW : WF N sg pt nm) {A : VA} {k c : Nat} {D : Option Nat} (hA : AK M (A.w, D, A.v, A.mf, A.stk)) (hI : VI N sg k A) (hD : ∀ j, D = some j → j < N) (hk : k < 100) (hc : c < 127) :
    match vbegin sg c k D A with
    | none => ∃ M2, Va_beginValue (nI c) (nI k) M = some (0, M2)
    | some A2 => ∃ M2, Va_beginValue (nI c) (nI k) M = some (1, M2) ∧ AK M2 A2 := by
  obtain ⟨w, D0, v, mf, stk⟩ := A
  obtain ⟨g1, g2, g3, g4, g5, g6⟩ := hA
  obtain ⟨i1, i2, i3, i4, i5, i6, i7⟩ := hI
  dsimp only [VA.w, VA.D, VA.v, VA.mf, VA.stk] at *
  have hN := hW.1
  unfold vbegin Va_beginValue Va_beginValue_J43
  rw [va_kind hc, Option.bind_some]
  cases hv : vk c with
  | none => exact ⟨M, rfl⟩
  | some q =>
    dsimp only
    have hq := vk_in hv
    have hm2 : ∀ j, mf = some j → j < 2 ^ 31 := fun j hj => by have := i5 j hj; omega
    have hK1 : NetK (u_i M 24 8 (nI (v + 1))) N sg pt nm := hK
    have hh := va_held (M := u_i M 24 8 (nI (v + 1))) hK1 hN (D := D) (mf := mf) g3 hD g5 hm2 (q := q) (by rcases hq with h | h | h | h | h | h <;> subst h <;> decide) k
    rw [if_neg (show ¬ q = -6 by rcases hq with h | h | h | h | h | h <;> subst h <;> decide), g4, nI_1, hh, Option.bind_some]
    dsimp only
    obtain ⟨M1, hM1⟩ : ∃ M1, M1 = u_i (u_i M 24 8 (nI (v + 1))) 24 9 (enc (nte (hdB sg q D) mf k)) := ⟨_, rfl⟩
    rw [← hM1]
    have f5 : M1.1 24 5 = nI stk.length := by rw [hM1]; exact g1
    have f7 : M1.1 24 7 = encW D := by rw [hM1]; exact g3
    have f8 : M1.1 24 8 = nI (v + 1) := by rw [hM1]; simp [u_i]
    have f9 : M1.1 24 9 = enc (nte (hdB sg q D) mf k) := by rw [hM1]; simp [u_i]
    have fS : SK M1 stk := SK_congr stk (fun d _ => by rw [hM1]; exact ⟨rfl, rfl, rfl⟩) g6
    have he := va_end (M := M1) f5 (by omega) fS
    have hE : AK (u_i M1 24 6 (nI (wtop stk))) (wtop stk, D, v + 1, nte (hdB sg q D) mf k, stk) :=
      ⟨f5, u_i_e, f7, f8, f9, SK_congr (M := M1) stk (fun d _ => ⟨rfl, rfl, rfl⟩) fS⟩
    have hO : ∀ w2 : Nat, nI w2 = (if q = 123 then 2 else if q = 91 then 3 else 1) → AK (u_i (u_i (u_i (u_i (u_i M1 25 stk.length q) 26 stk.length (encW (hdN sg q D))) 27 stk.length 0) 24 5 (nI (stk.length + 1))) 24 6 (if q = 123 then 2 else if q = 91 then 3 else 1)) (w2, D, v + 1, nte (hdB sg q D) mf k, (q, hdN sg q D, 0) :: stk) := by
      intro w2 hw2
      refine ⟨by simp [u_i, VA.stk], by simp only [u_i_e]; exact hw2.symm, f7, f8, f9, ?_⟩
      refine ⟨by simp [u_i], by simp [u_i], by simp [u_i]; rfl, SK_congr stk (fun d hd => ?_) fS⟩
      simp (disch := omega) [u_i]
      omega
    rcases hq with h | h | h | h | h | h <;> subst h
    · rw [if_pos rfl, he]
      exact ⟨_, rfl, hE⟩
    · rw [if_neg (by decide), if_pos rfl, he]
      exact ⟨_, rfl, hE⟩
    · rw [if_neg (by decide), if_neg (by decide), if_pos rfl]
      exact ⟨_, rfl, f5, u_i_e, f7, f8, f9, SK_congr (M := M1) stk (fun d _ => ⟨rfl, rfl, rfl⟩) fS⟩
    · rw [if_neg (by decide), if_neg (by decide), if_neg (by decide), va_open f5 (by omega)]
      exact ⟨_, rfl, hO 2 rfl⟩
    · rw [if_neg (by decide), if_neg (by decide), if_neg (by decide), va_open f5 (by omega)]
      exact ⟨_, rfl, hO 3 rfl⟩
    · rw [if_neg (by decide), if_neg (by decide), if_neg (by decide), va_open f5 (by omega)]
      exact ⟨_, rfl, hO 1 rfl⟩
end VK
