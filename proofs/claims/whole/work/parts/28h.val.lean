/-! the second pass against the program's only pass -/
def FI (sg : Nat → Int32) (pt : Nat → Nat → Option Nat) (c : Nat → Nat) (D0 : Option Nat) (MM : QM) (k : Nat) (a : Int32 × Int32 × QM) : Prop :=
  a.2.1 = nI k ∧ a.1 = dueW pt (vT sg pt c D0 k) ∧ (vT sg pt c D0 k).mf = none ∧ (vT sg pt c D0 k).w ≠ 3 ∧ (vT sg pt c D0 k).w ≠ 5 ∧ a.2.2.1 0 27 = nI (vT sg pt c D0 k).stk.length ∧ SF a.2.2 (vT sg pt c D0 k).stk ∧ Fr [0, 17, 18, 19, 20] MM a.2.2 ∧ Fo [24, 27] MM a.2.2
theorem SF_push {M : QM} {l : List VE} {q : Int32} {n : Option Nat} (hS : SF M l) : SF (u_i (u_i (u_i (u_i M 17 l.length (kc q)) 19 l.length (enc n)) 20 l.length 0) 0 27 (nI (l.length + 1))) ((q, n, 0) :: l) := by
  refine ⟨by simp [u_i], by simp [u_i], by simp [u_i]; rfl, SF_congr (M := M) _ (fun d hd => ?_) hS⟩
  refine ⟨?_, ?_, ?_⟩ <;> (simp [u_i]; omega)
theorem wtop_35 {N : Nat} {sg : Nat → Int32} {l : List VE} (h : ∀ e, e ∈ l → okE N sg e) : wtop l ≠ 3 ∧ wtop l ≠ 5 := by
  cases l with
  | nil => simp [wtop]
  | cons e r =>
    rcases (h e (by simp)).1 with h1 | h1 | h1 <;> simp [wtop, h1]
theorem vk_c {c : Nat} (hc : c < 127) {q : Int32} (h : vk c = some q) : c ≠ 125 ∧ c ≠ 93 ∧ c ≠ 41 ∧ ¬ (97 ≤ c ∧ c ≤ 104) ∧ (q = 123 → c = 123) ∧ (q = 91 → c = 91) ∧ (q = 42 → c = 40) := by
  have g1 : ∀ c : Nat, c < 127 → vk c ≠ none → c ≠ 125 ∧ c ≠ 93 ∧ c ≠ 41 ∧ ¬ (97 ≤ c ∧ c ≤ 104) := by decide +kernel
  have g2 : ∀ c : Nat, c < 127 → vk c = some 123 → c = 123 := by decide +kernel
  have g3 : ∀ c : Nat, c < 127 → vk c = some 91 → c = 91 := by decide +kernel
  have g4 : ∀ c : Nat, c < 127 → vk c = some 42 → c = 40 := by decide +kernel
  obtain ⟨a1, a2, a3, a4⟩ := g1 c hc (by rw [h]; exact fun e => by cases e)
  exact ⟨a1, a2, a3, a4, fun e => g2 c hc (by rw [h, e]), fun e => g3 c hc (by rw [h, e]), fun e => g4 c hc (by rw [h, e])⟩
theorem nte_n (b : Bool) (k : Nat) : nte b none k = if b = true then some k else none := by unfold nte; split <;> rfl
section FS
variable {MM : QM} {N : Nat} {sg : Nat → Int32} {pt : Nat → Nat → Option Nat} {nm : Nat → Option Nat}
theorem ft_step (hW : WF N sg pt nm) (hM0 : NetM MM N sg pt nm) {pn : Nat} {c : Nat → Nat} {D0 : Option Nat} (hD0 : ∀ j, D0 = some j → j < N) (hp : pn ≤ 100) (h00 : MM.1 0 0 = nI pn) (hc : ∀ k, k < pn → MM.1 1 k = nI (c k) ∧ c k < 127)
    (hT : Traj sg pt c D0 pn) (h6 : (vT sg pt c D0 pn).w = 6) {k : Nat} (hk : k < pn) {a : Int32 × Int32 × QM} (hF : FI sg pt c D0 MM k a) :
    (∃ a2 k2, Mo_fits_B29 a = some (.inr a2) ∧ k < k2 ∧ k2 ≤ pn ∧ FI sg pt c D0 MM k2 a2) ∨ (∃ M', Mo_fits_B29 a = some (.inl (.inl (nI k, M'))) ∧ ∃ k2, k2 ≤ pn ∧ (vT sg pt c D0 k2).mf = some k) := by
  obtain ⟨due, idx, M⟩ := a
  obtain ⟨f1, f2, f3, f4, f5, f6, f7, f8, f9⟩ := hF
  dsimp only at f1 f2 f6 f7 f8 f9
  subst f1 f2
  have hN := hW.1
  have hM : NetM M N sg pt nm := NetM_fr f8 (f9 2 (by decide)) (by decide) hM0
  have h0 : M.1 0 0 = nI pn := by rw [f9 0 (by decide)]; exact h00
  have hcM : ∀ k, k < pn → M.1 1 k = nI (c k) := fun k hk => by rw [(f8 1 (by decide)).1]; exact (hc k hk).1
  have hck := (hc k hk).2
  have hI := VI_T hW hD0 k (fun j hj => hT j (by omega))
  have hs := hT k hk
  obtain ⟨A, hA⟩ : ∃ A, A = vT sg pt c D0 k := ⟨_, rfl⟩
  obtain ⟨A', hA'⟩ : ∃ A', A' = vT sg pt c D0 (k + 1) := ⟨_, rfl⟩
  rw [← hA] at f3 f4 f5 f6 f7 hI hs ⊢
  rw [← hA'] at hs
  obtain ⟨w, D, v, mf, stk⟩ := A
  obtain ⟨i1, i2, i3, i4, i5, i6, i7, i8, i9, i10⟩ := hI
  dsimp only [VA.w, VA.D, VA.v, VA.mf, VA.stk] at f3 f4 f5 f6 f7 i1 i2 i3 i4 i5 i6 i7 i8 i9 i10
  subst f3
  -- a value begins
  have beg : ∀ Ds : Option Nat, (∀ j, Ds = some j → j < N) → dueW pt (w, D, v, none, stk) = enc Ds → vbegin sg (c k) k Ds (w, D, v, none, stk) = some A' →
      (∃ a2 k2, Mo_fits_B29 (dueW pt (w, D, v, none, stk), nI k, M) = some (.inr a2) ∧ k < k2 ∧ k2 ≤ pn ∧ FI sg pt c D0 MM k2 a2) ∨ (∃ M', Mo_fits_B29 (dueW pt (w, D, v, none, stk), nI k, M) = some (.inl (.inl (nI k, M'))) ∧ ∃ k2, k2 ≤ pn ∧ (vT sg pt c D0 k2).mf = some k) := by
    intro Ds hDs hdue hb
    rw [hdue]
    unfold vbegin at hb
    cases hv : vk (c k) with
    | none => rw [hv] at hb; cases hb
    | some q =>
      rw [hv] at hb
      dsimp only [VA.w, VA.D, VA.v, VA.mf, VA.stk] at hb
      have hb := Option.some.inj hb
      rw [nte_n] at hb
      obtain ⟨c1, c2, c3, c4, c5, c6, c7⟩ := vk_c hck hv
      rw [ft_head hM hN h0 hk hp (hcM k hk) Ds hDs, ft_86 f6 (by omega) hck c1 c2 c3 c4]
      have hcont : ∀ (a2 : Int32 × Int32 × QM) (e : Mo_fits_L29_J277 (nI k) (nI (c k)) (enc Ds) (isW sg Ds) (if isW sg Ds = 46 then 1 else 0) M = some (.inr a2)), Fr [0, 17, 18, 19, 20] MM a2.2.2 ∧ Fo [24, 27] MM a2.2.2 := by
        intro a2 e
        exact ⟨Fr.tr f8 (F_Mo_fits_L29_J277 e), Fo.tr f9 (Fo.sub (F0_Mo_fits_L29_J277 e) (by decide))⟩
      have hbad : hdB sg q Ds = true → (vT sg pt c D0 (k + 1)).mf = some k := by
        intro hbd
        rw [← hA', ← hb, hbd]; rfl
      rcases vk_in hv with hq | hq | hq | hq | hq | hq
      · -- number
        have e := ft_plain (M := M) (sg := sg) (k := k) hck hv (by rw [hq]; simp) Ds
        by_cases hbd : hdB sg q Ds = true
        · rw [if_pos hbd] at e
          exact Or.inr ⟨M, e, k + 1, by omega, hbad hbd⟩
        · rw [if_neg hbd, if_neg (show ¬ q = 115 by rw [hq]; decide), ft_next hM hW f6 (by omega) f7 i6 (k + 1) Ds (v + 1) none] at e
          have hAe : A' = (wtop stk, Ds, v + 1, none, stk) := by rw [← hb, if_neg hbd, hq]; rfl
          refine Or.inl ⟨_, k + 1, e, by omega, by omega, rfl, ?_, ?_, ?_, ?_, ?_, ?_, (hcont _ e).1, (hcont _ e).2⟩
          all_goals rw [← hA', hAe]
          · exact (wtop_35 i6).1
          · exact (wtop_35 i6).2
          · exact f6
          · exact f7
      · -- truth
        have e := ft_plain (M := M) (sg := sg) (k := k) hck hv (by rw [hq]; simp) Ds
        by_cases hbd : hdB sg q Ds = true
        · rw [if_pos hbd] at e
          exact Or.inr ⟨M, e, k + 1, by omega, hbad hbd⟩
        · rw [if_neg hbd, if_neg (show ¬ q = 115 by rw [hq]; decide), ft_next hM hW f6 (by omega) f7 i6 (k + 1) Ds (v + 1) none] at e
          have hAe : A' = (wtop stk, Ds, v + 1, none, stk) := by rw [← hb, if_neg hbd, hq]; rfl
          refine Or.inl ⟨_, k + 1, e, by omega, by omega, rfl, ?_, ?_, ?_, ?_, ?_, ?_, (hcont _ e).1, (hcont _ e).2⟩
          all_goals rw [← hA', hAe]
          · exact (wtop_35 i6).1
          · exact (wtop_35 i6).2
          · exact f6
          · exact f7
      · -- letter
        have e := ft_plain (M := M) (sg := sg) (k := k) hck hv (by rw [hq]; simp) Ds
        by_cases hbd : hdB sg q Ds = true
        · rw [if_pos hbd] at e
          exact Or.inr ⟨M, e, k + 1, by omega, hbad hbd⟩
        · rw [if_neg hbd, if_pos hq, ft_next hM hW f6 (by omega) f7 i6 (k + 2) Ds (v + 1) none] at e
          have hAe : A' = (5, Ds, v + 1, none, stk) := by rw [← hb, if_neg hbd, hq]; rfl
          have hk1 : k + 1 < pn := by
            rcases Nat.lt_or_ge (k + 1) pn with h | h
            · exact h
            · have : k + 1 = pn := by omega
              rw [← this, ← hA', hAe] at h6
              exact absurd (show (5 : Nat) = 6 from h6) (by decide)
          have hs2 := hT (k + 1) hk1
          rw [← hA', hAe] at hs2
          unfold vstep at hs2
          dsimp only [VA.w, VA.D, VA.v, VA.mf, VA.stk] at hs2
          rw [if_neg (by decide), if_neg (by decide), if_neg (by decide), if_neg (by decide), if_neg (by decide), if_pos rfl] at hs2
          split at hs2
          · have hs2 := Option.some.inj hs2
            refine Or.inl ⟨_, k + 2, e, by omega, by omega, rfl, ?_, ?_, ?_, ?_, ?_, ?_, (hcont _ e).1, (hcont _ e).2⟩
            all_goals rw [← hs2]
            · exact (wtop_35 i6).1
            · exact (wtop_35 i6).2
            · exact f6
            · exact f7
          · cases hs2
      · -- record
        have e := ft_open (M := M) (sg := sg) (k := k) (q := q) (Or.inl ⟨c5 hq, hq⟩) Ds
        by_cases hbd : hdB sg q Ds = true
        · rw [if_pos hbd] at e
          exact Or.inr ⟨M, e, k + 1, by omega, hbad hbd⟩
        · rw [if_neg hbd, ft_begin f6 (by omega), Option.bind_some] at e
          have hAe : A' = (2, Ds, v + 1, none, (q, hdN sg q Ds, 0) :: stk) := by rw [← hb, if_neg hbd, hq]; rfl
          have hI' := VI_T hW hD0 (k + 1) (fun j hj => hT j (by omega))
          rw [← hA', hAe] at hI'
          have hM2 : NetM (u_i (u_i (u_i (u_i M 17 stk.length (kc q)) 19 stk.length (enc (hdN sg q Ds))) 20 stk.length 0) 0 27 (nI (stk.length + 1))) N sg pt nm := hM
          rw [ft_next hM2 hW (l := (q, hdN sg q Ds, 0) :: stk) u_i_e (by simp; omega) (SF_push f7) hI'.2.2.2.2.2.1 (k + 1) Ds (v + 1) none] at e
          refine Or.inl ⟨_, k + 1, e, by omega, by omega, rfl, ?_, ?_, ?_, ?_, ?_, ?_, (hcont _ e).1, (hcont _ e).2⟩
          all_goals rw [← hA', hAe]
          · rw [hq]; rfl
          · exact (show (2 : Nat) ≠ 3 by decide)
          · exact (show (2 : Nat) ≠ 5 by decide)
          · exact u_i_e
          · exact SF_push f7
      · -- choice
        have hAe : A' = (3, Ds, v + 1, if hdB sg q Ds = true then some k else none, (q, hdN sg q Ds, 0) :: stk) := by rw [← hb, hq]; rfl
        have hk1 : k + 1 < pn := by
          rcases Nat.lt_or_ge (k + 1) pn with h | h
          · exact h
          · have : k + 1 = pn := by omega
            rw [← this, ← hA', hAe] at h6
            exact absurd (show (3 : Nat) = 6 from h6) (by decide)
        have hs2 := hT (k + 1) hk1
        rw [← hA', hAe] at hs2
        unfold vstep vcase at hs2
        dsimp only [VA.w, VA.D, VA.v, VA.mf, VA.stk] at hs2
        rw [if_neg (by decide), if_neg (by decide), if_neg (by decide), if_pos rfl] at hs2
        split at hs2
        · rename_i hcc
          have hs2 := Option.some.inj hs2
          obtain ⟨s, hse⟩ : ∃ s, s = c (k + 1) - 97 := ⟨_, rfl⟩
          rw [← hse] at hs2
          have e := ft_choice (k := k) (s := s) hM hW (by omega) (by omega) (by rw [hcM _ hk1]; congr 1; omega) Ds hDs
          rw [← c6 hq] at e
          by_cases hbd : hdB sg q Ds = true
          · rw [if_pos (Or.inl (by rw [← hq]; exact hbd))] at e
            exact Or.inr ⟨M, e, k + 1, by omega, hbad hbd⟩
          · rw [if_neg hbd] at hs2 hAe
            by_cases hb2 : ∃ j, hdN sg 91 Ds = some j ∧ pt j s = none
            · rw [if_pos (Or.inr hb2)] at e
              refine Or.inr ⟨M, e, k + 2, by omega, ?_⟩
              obtain ⟨j, hj1, hj2⟩ := hb2
              rw [← hs2]
              dsimp only [VA.mf]
              rw [nte_n, hq]
              simp [topN, dueOf, hj1, hj2]
            · rw [if_neg (show ¬ (hdB sg 91 Ds = true ∨ ∃ j, hdN sg 91 Ds = some j ∧ pt j s = none) from fun h => h.elim (fun h => hbd (by rw [hq]; exact h)) hb2), ft_begin f6 (by omega), Option.bind_some] at e
              have hI' := VI_T hW hD0 (k + 1) (fun j hj => hT j (by omega))
              rw [← hA', hAe] at hI'
              rw [← hq] at e hb2
              have hM2 : NetM (u_i (u_i (u_i (u_i M 17 stk.length (kc q)) 19 stk.length (enc (hdN sg q Ds))) 20 stk.length 0) 0 27 (nI (stk.length + 1))) N sg pt nm := hM
              have hk91 : q = kc q := by rw [hq]; rfl
              have hS2 : SF (u_i (u_i (u_i (u_i M 17 stk.length q) 19 stk.length (enc (hdN sg q Ds))) 20 stk.length 0) 0 27 (nI (stk.length + 1))) ((q, hdN sg q Ds, 0) :: stk) := by
                have := SF_push (q := q) (n := hdN sg q Ds) f7
                rw [← hk91] at this
                exact this
              rw [ft_inner (M := u_i (u_i (u_i (u_i M 17 stk.length q) 19 stk.length (enc (hdN sg q Ds))) 20 stk.length 0) 0 27 (nI (stk.length + 1))) hM hW (l := (q, hdN sg q Ds, 0) :: stk) (s := s) u_i_e (by simp; omega) hS2 hI'.2.2.2.2.2.1 (by omega) (fun h => by rw [hq] at h; exact absurd h (by show ¬ (91 : Int32) = 42; decide)), Option.bind_some] at e
              have hnb : ((topN ((q, hdN sg q Ds, 0) :: stk)).isSome && (dueOf pt ((q, hdN sg q Ds, 0) :: stk) s).isNone) = false := by
                show ((hdN sg q Ds).isSome && (match hdN sg q Ds with | none => none | some i => pt i s).isNone) = false
                cases hh : hdN sg q Ds with
                | none => rfl
                | some j =>
                  show (pt j s).isNone = false
                  cases hpt : pt j s with
                  | none => exact absurd ⟨j, hh, hpt⟩ hb2
                  | some _ => rfl
              rw [hnb, nte_n] at hs2
              refine Or.inl ⟨_, k + 2, e, by omega, by omega, rfl, ?_, ?_, ?_, ?_, ?_, ?_, (hcont _ e).1, (hcont _ e).2⟩
              all_goals rw [← hs2]
              · rfl
              · rfl
              · exact (show (0 : Nat) ≠ 3 by decide)
              · exact (show (0 : Nat) ≠ 5 by decide)
              · exact u_i_e
              · exact hS2
        · cases hs2
      · -- list
        have e := ft_open (M := M) (sg := sg) (k := k) (q := q) (Or.inr ⟨c7 hq, hq⟩) Ds
        by_cases hbd : hdB sg q Ds = true
        · rw [if_pos hbd] at e
          exact Or.inr ⟨M, e, k + 1, by omega, hbad hbd⟩
        · rw [if_neg hbd, ft_begin f6 (by omega), Option.bind_some] at e
          have hAe : A' = (1, Ds, v + 1, none, (q, hdN sg q Ds, 0) :: stk) := by rw [← hb, if_neg hbd, hq]; rfl
          have hI' := VI_T hW hD0 (k + 1) (fun j hj => hT j (by omega))
          rw [← hA', hAe] at hI'
          have hM2 : NetM (u_i (u_i (u_i (u_i M 17 stk.length (kc q)) 19 stk.length (enc (hdN sg q Ds))) 20 stk.length 0) 0 27 (nI (stk.length + 1))) N sg pt nm := hM
          rw [ft_next hM2 hW (l := (q, hdN sg q Ds, 0) :: stk) u_i_e (by simp; omega) (SF_push f7) hI'.2.2.2.2.2.1 (k + 1) Ds (v + 1) none] at e
          refine Or.inl ⟨_, k + 1, e, by omega, by omega, rfl, ?_, ?_, ?_, ?_, ?_, ?_, (hcont _ e).1, (hcont _ e).2⟩
          all_goals rw [← hA', hAe]
          · rw [hq]; rfl
          · exact (show (1 : Nat) ≠ 3 by decide)
          · exact (show (1 : Nat) ≠ 5 by decide)
          · exact u_i_e
          · exact SF_push f7
  -- a value is closed
  have clo : ∀ e r, stk = e :: r → (c k = 41 ∨ c k = 93 ∨ c k = 125) → A' = (wtop r, D, v, if c k = 125 ∧ mssB pt e = true then some k else none, r) →
      (∃ a2 k2, Mo_fits_L29_J109 (nI k) (nI (c k)) M = some (.inr a2) ∧ k < k2 ∧ k2 ≤ pn ∧ FI sg pt c D0 MM k2 a2) ∨ (∃ M', Mo_fits_L29_J109 (nI k) (nI (c k)) M = some (.inl (.inl (nI k, M'))) ∧ ∃ k2, k2 ≤ pn ∧ (vT sg pt c D0 k2).mf = some k) := by
    intro e r hst hcc hAe
    subst hst
    simp only [List.length_cons] at i1 f6
    have hr : M.1 0 27 - 1 = nI r.length := by rw [f6, nI_pred]
    have i6r : ∀ e', e' ∈ r → okE N sg e' := fun e' he' => i6 e' (by simp [he'])
    have e109 : Mo_fits_L29_J109 (nI k) (nI (c k)) M = if c k = 125 ∧ mssB pt e = true then some (.inl (.inl (nI k, u_i M 0 27 (nI r.length)))) else Mo_fits_L29_J486 (nI (k + 1)) (u_i M 0 27 (nI r.length)) := by
      unfold Mo_fits_L29_J109 Mo_fits_L29_J193
      rw [hr, u_i_e, ck_in (by omega) (by omega), ix_nI (by omega), nI_1]
      have h19 : (u_i M 0 27 (nI r.length)).1 19 r.length = enc e.2.1 := f7.2.1
      rw [h19]
      by_cases h125 : c k = 125
      · rw [h125, show nI 125 = (125 : Int32) from rfl, ft_loop (M := u_i M 0 27 (nI r.length)) (pt := pt) hM hN (fun i s j h hi => by have := hW.2.2.1 i s j hi h; omega) (p := r.length) (by omega) u_i_e f7.2.2.1 (i6 e (by simp)) k, Option.bind_some]
        by_cases hm : mssB pt e = true
        · rw [if_pos hm, if_pos ⟨rfl, hm⟩]; rfl
        · rw [if_neg hm, if_neg (fun h => hm h.2)]; rfl
      · rw [if_neg (fun h => h125 h.1)]
        have : iter (Mo_fits_B133 (nI k) (nI (c k)) (enc e.2.1) (u_i M 0 27 (nI r.length))) FU 0 = some (.inr ()) := by
          show iter _ (9999999 + 1) _ = _
          apply iter_d
          unfold Mo_fits_B133
          rw [if_neg (by decide), if_neg (show ¬ nI (c k) = 125 from fun h => h125 ((c_eq hck (by decide)).mp h))]
        rw [this]
        rfl
    by_cases hm : c k = 125 ∧ mssB pt e = true
    · rw [if_pos hm] at e109 hAe
      exact Or.inr ⟨_, e109, k + 1, by omega, by rw [← hA', hAe]⟩
    · rw [if_neg hm] at e109 hAe
      have hS2 : SF (u_i M 0 27 (nI r.length)) r := SF_congr (M := M) _ (fun d _ => ⟨rfl, rfl, rfl⟩) f7.2.2.2
      rw [ft_next (M := u_i M 0 27 (nI r.length)) hM hW (l := r) u_i_e (by omega) hS2 i6r (k + 1) D v none] at e109
      refine Or.inl ⟨_, k + 1, e109, by omega, by omega, rfl, ?_, ?_, ?_, ?_, ?_, ?_, ?_, ?_⟩
      · rw [← hA', hAe]
      · rw [← hA', hAe]
      · rw [← hA', hAe]; exact (wtop_35 i6r).1
      · rw [← hA', hAe]; exact (wtop_35 i6r).2
      · rw [← hA', hAe]; exact u_i_e
      · rw [← hA', hAe]; exact hS2
      · exact Fr.i 0 f8 (by decide)
      · exact Fo.i 27 f9 (by decide)
  unfold vstep at hs
  dsimp only [VA.w, VA.D, VA.v, VA.mf, VA.stk] at hs
  by_cases w0 : w = 0
  · rw [if_pos w0] at hs
    exact beg D i4 (by unfold dueW; rw [if_pos w0]) hs
  rw [if_neg w0] at hs
  by_cases w1 : w = 1
  · rw [if_pos w1] at hs
    have hdl : ∀ j, dueOf pt stk 0 = some j → j < N := fun j hj => dueOf_lt hW i6 hj
    have hdw : dueW pt (w, D, v, none, stk) = enc (dueOf pt stk 0) := by unfold dueW; rw [if_neg w0, if_pos w1]
    by_cases h41 : c k = 41
    · rw [if_pos h41] at hs
      have hs := Option.some.inj hs
      have ht := i7 w1
      cases hst : stk with
      | nil => rw [hst] at ht; exact ht.elim
      | cons e r =>
        have := clo e r hst (Or.inl h41) (by rw [← hs, if_neg (fun h => by omega), hst]; rfl)
        rw [← hst, hdw, ft_head hM hN h0 hk hp (hcM k hk) _ hdl]
        unfold Mo_fits_L29_J86
        rw [if_neg (show ¬ nI (c k) = 125 by rw [h41]; decide), if_neg (show ¬ nI (c k) = 93 by rw [h41]; decide), if_pos (show nI (c k) = 41 by rw [h41]; rfl)]
        exact this
    · rw [if_neg h41] at hs
      exact beg (dueOf pt stk 0) hdl hdw hs
  rw [if_neg w1] at hs
  have hdw : dueW pt (w, D, v, none, stk) = 100000 := by unfold dueW; rw [if_neg w0, if_neg w1]
  by_cases w2 : w = 2
  · rw [if_pos w2] at hs
    have ht := i8 w2
    unfold vfield at hs
    cases hst : stk with
    | nil => rw [hst] at ht; exact ht.elim
    | cons e r =>
      have ht2 : e.1 = 123 := by rw [hst] at ht; exact ht
      dsimp only [VA.w, VA.D, VA.v, VA.mf, VA.stk] at hs
      rw [hst] at hs
      dsimp only at hs
      rw [← hst, hdw, ft_far h0 hk hp (hcM k hk)]
      by_cases h125 : c k = 125
      · rw [if_pos h125] at hs
        have hs := Option.some.inj hs
        have := clo e r hst (Or.inr (Or.inr h125)) (by
          rw [← hs, nte_n]
          by_cases hm : mssB pt e = true
          · rw [if_pos hm, if_pos ⟨h125, hm⟩]
          · rw [if_neg hm, if_neg (fun h => hm h.2)])
        unfold Mo_fits_L29_J86
        rw [if_pos (show nI (c k) = 125 by rw [h125]; rfl)]
        exact this
      · rw [if_neg h125] at hs
        by_cases h5 : 97 ≤ c k ∧ c k < 105 ∧ e.2.2 < 2 ^ (c k - 97)
        · rw [if_pos h5] at hs
          have hs := Option.some.inj hs
          rw [hst] at f6 f7 i1 i6
          simp only [List.length_cons] at f6 i1
          have hoe := i6 e (by simp)
          have e97 : nI (c k) - nI 97 = nI (c k - 97) := nI_sub (by omega)
          unfold Mo_fits_L29_J86
          rw [if_neg (show ¬ nI (c k) = 125 from fun h => h125 ((c_eq hck (by decide)).mp h)), if_neg (show ¬ nI (c k) = 93 from fun h => by have := (c_eq hck (b := 93) (by decide)).mp h; omega), if_neg (show ¬ nI (c k) = 41 from fun h => by have := (c_eq hck (b := 41) (by decide)).mp h; omega), f6, if_neg (nI_nle (by omega) (by omega)), nI_pred1 (by omega), Nat.add_sub_cancel, ck_in (by omega) (by omega), ix_nI (by omega), f7.1, if_pos (show kc e.1 = 123 by rw [ht2]; rfl), show (97 : Int32) = nI 97 from rfl, show (104 : Int32) = nI 104 from rfl, mo_in_1 (by omega) (by decide) (by decide), Option.bind_some, if_pos (show 97 ≤ c k ∧ c k ≤ 104 by omega), if_neg (show ¬ (1 : Int32) = 0 by decide), if_pos rfl, ck_in (by omega) (by omega), ck_in (by omega) (by omega), e97, f7.2.2.1, or_bit _ _ hoe.2.1 (by omega)]
          obtain ⟨M1, hM1⟩ : ∃ M1, M1 = u_i M 20 r.length (nI (e.2.2 ||| 2 ^ (c k - 97))) := ⟨_, rfl⟩
          rw [← hM1]
          have hS2 : SF M1 ((e.1, e.2.1, e.2.2 ||| 2 ^ (c k - 97)) :: r) := by
            rw [hM1]
            exact ⟨f7.1, f7.2.1, by rw [u_i_e], SF_congr (M := M) _ (fun d hd => ⟨rfl, rfl, u_i_k (by omega)⟩) f7.2.2.2⟩
          have hI' := VI_T hW hD0 (k + 1) (fun j hj => hT j (by omega))
          rw [← hA', ← hs] at hI'
          rw [ft_inner (M := M1) (by rw [hM1]; exact hM) hW (l := (e.1, e.2.1, e.2.2 ||| 2 ^ (c k - 97)) :: r) (s := c k - 97) (by rw [hM1]; exact f6) (by simp; omega) hS2 hI'.2.2.2.2.2.1 (by omega) (fun h => by rw [ht2] at h; exact absurd h (by show ¬ (123 : Int32) = 42; decide)), Option.bind_some, nI_1]
          refine Or.inl ⟨_, k + 1, rfl, by omega, by omega, rfl, ?_, ?_, ?_, ?_, ?_, ?_, ?_, ?_⟩
          · rw [← hA', ← hs]; rfl
          · rw [← hA', ← hs]
          · rw [← hA', ← hs]; exact (show (0 : Nat) ≠ 3 by decide)
          · rw [← hA', ← hs]; exact (show (0 : Nat) ≠ 5 by decide)
          · rw [← hA', ← hs, hM1]; exact f6
          · rw [← hA', ← hs]; exact hS2
          · rw [hM1]; exact Fr.i 20 f8 (by decide)
          · rw [hM1]; exact Fo.o 20 f9 (by decide)
        · rw [if_neg h5] at hs
          cases hs
  rw [if_neg w2, if_neg f4] at hs
  by_cases w4 : w = 4
  · rw [if_pos w4] at hs
    have ht := i10 w4
    cases hst : stk with
    | nil => rw [hst] at ht; exact ht.elim
    | cons e r =>
      by_cases h93 : c k = 93
      · rw [if_pos h93] at hs
        have hs := Option.some.inj hs
        have := clo e r hst (Or.inr (Or.inl h93)) (by rw [← hs, if_neg (fun h => by omega), hst]; rfl)
        rw [← hst, hdw, ft_far h0 hk hp (hcM k hk)]
        unfold Mo_fits_L29_J86
        rw [if_neg (show ¬ nI (c k) = 125 by rw [h93]; decide), if_pos (show nI (c k) = 93 by rw [h93]; rfl)]
        exact this
      · rw [if_neg h93] at hs
        cases hs
  rw [if_neg w4, if_neg f5] at hs
  cases hs
end FS
