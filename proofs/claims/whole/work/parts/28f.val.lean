/-! the reference's second pass -/
def SF (M : QM) (l : List VE) : Prop := match l with
  | [] => True
  | e :: r => M.1 17 r.length = kc e.1 ∧ M.1 19 r.length = enc e.2.1 ∧ M.1 20 r.length = nI e.2.2 ∧ SF M r
theorem SF_congr {M M2 : QM} : ∀ (l : List VE), (∀ d, d < l.length → M2.1 17 d = M.1 17 d ∧ M2.1 19 d = M.1 19 d ∧ M2.1 20 d = M.1 20 d) → SF M l → SF M2 l := by
  intro l
  induction l with
  | nil => intro _ _; trivial
  | cons e r ih =>
    intro h ⟨h1, h2, h3, h4⟩
    obtain ⟨g1, g2, g3⟩ := h r.length (by simp)
    exact ⟨by rw [g1, h1], by rw [g2, h2], by rw [g3, h3], ih (fun d hd => h d (by simp; omega)) h4⟩
def isW (sg : Nat → Int32) (D : Option Nat) : Int32 := match D with
  | none => 46
  | some j => sg j
def dueW (pt : Nat → Nat → Option Nat) (A : VA) : Int32 := if A.w = 0 then enc A.D else if A.w = 1 then enc (dueOf pt A.stk 0) else 100000
section FT
variable {M : QM} {N : Nat} {sg : Nat → Int32} {pt : Nat → Nat → Option Nat} {nm : Nat → Option Nat}
theorem ft_inner (hM : NetM M N sg pt nm) (hW : WF N sg pt nm) {l : List VE} (h : M.1 0 27 = nI l.length) (hp : l.length ≤ 100) (hS : SF M l) (ho : ∀ e, e ∈ l → okE N sg e) {s : Nat} (hs : s < 8) (h42 : okT l 42 → s = 0) : Mo_inner (nI s) M = some (enc (dueOf pt l s)) := by
  have hN := hW.1
  unfold Mo_inner Mo_inner_J23
  cases l with
  | nil => rw [h]; rfl
  | cons e r =>
    simp only [List.length_cons] at h hp
    rw [h, if_neg (nI_ne0 (by omega) (by omega)), nI_pred1 (by omega), Nat.add_sub_cancel, ck_in (by omega) (by omega), ix_nI (by omega), hS.2.1]
    have hoe := ho e (by simp)
    unfold dueOf
    dsimp only
    cases he : e.2.1 with
    | none => rw [enc_none, if_neg (by decide)]
    | some i =>
      obtain ⟨hi, hsi⟩ := hoe.2.2 i he
      dsimp only
      rw [enc_some, if_pos (nI_pos' (by omega)), ck_in (by omega) (by omega), ix_nI (by omega), hM.2.1 i hi, hsi, l_8, nI_mul]
      by_cases h2 : e.1 = 42
      · have := h42 h2
        subst this
        rw [if_pos h2, ck_in (by omega) (by omega), ix_nI (by omega)]
        have := mo_part hM hi (s := 0) (by decide)
        rw [Nat.add_zero] at this
        rw [this]
      · rw [if_neg h2, nI_add, ck_in (by omega) (by omega), ix_nI (by omega), mo_part hM hi hs]
theorem ft_next (hM : NetM M N sg pt nm) (hW : WF N sg pt nm) {l : List VE} (h : M.1 0 27 = nI l.length) (hp : l.length ≤ 100) (hS : SF M l) (ho : ∀ e, e ∈ l → okE N sg e) (k : Nat) (D : Option Nat) (v : Nat) (mf : Option Nat) :
    Mo_fits_L29_J486 (nI k) M = some (.inr (dueW pt (wtop l, D, v, mf, l), nI k, M)) := by
  unfold Mo_fits_L29_J486
  have hin := ft_inner hM hW h hp hS ho (s := 0) (by decide) (fun _ => rfl)
  cases l with
  | nil => rw [h]; rfl
  | cons e r =>
    simp only [List.length_cons] at h hp
    rw [h, if_neg (nI_nle (by omega) (by omega)), nI_pred1 (by omega), Nat.add_sub_cancel, ck_in (by omega) (by omega), ix_nI (by omega), hS.1]
    rcases (ho e (by simp)).1 with h1 | h1 | h1
    · rw [show wtop (e :: r) = 2 by simp [wtop, h1], show kc e.1 = 123 by rw [h1]; rfl]
      rfl
    · rw [show wtop (e :: r) = 4 by simp [wtop, h1], show kc e.1 = 91 by rw [h1]; rfl]
      rfl
    · rw [show wtop (e :: r) = 1 by simp [wtop, h1], show kc e.1 = 40 by rw [h1]; rfl, if_pos rfl]
      rw [show (0 : Int32) = nI 0 from rfl, hin]
      rfl
theorem ft_begin {p : Nat} (h : M.1 0 27 = nI p) (hp : p ≤ 100) (s n : Int32) : Mo_begin s n M = some (u_i (u_i (u_i (u_i M 17 p s) 19 p n) 20 p 0) 0 27 (nI (p + 1))) := by
  unfold Mo_begin
  have a1 : (u_i M 17 p s).1 0 27 = nI p := h
  have a2 : (u_i (u_i M 17 p s) 19 p n).1 0 27 = nI p := h
  have a3 : (u_i (u_i (u_i M 17 p s) 19 p n) 20 p 0).1 0 27 = nI p := h
  rw [h, ix_nI (by omega), a1, ix_nI (by omega), a2, ix_nI (by omega), a3, ck_in (by omega) (by omega), ck_in (by omega) (by omega), ck_in (by omega) (by omega), nI_1]
/-- the loop over letters that may be wanting -/
theorem ft_loop (hM : NetM M N sg pt nm) (hN : N ≤ 60) (hlt : ∀ i s j, pt i s = some j → i < N → j < 2 ^ 31) {e : VE} {p : Nat} (hp : p ≤ 100) (h27 : M.1 0 27 = nI p) (h20 : M.1 20 p = nI e.2.2) (ho : okE N sg e) (k : Nat) :
    iter (Mo_fits_B133 (nI k) 125 (enc e.2.1) M) FU 0 = some (if mssB pt e = true then .inl (nI k, M) else .inr ()) := by
  obtain ⟨e1, e2, e3⟩ := e
  cases e2 with
  | none =>
    show iter _ (9999999 + 1) _ = _
    apply iter_d
    unfold Mo_fits_B133
    rw [if_neg (by decide), if_pos rfl, if_pos (show enc none < 0 by decide)]
    rfl
  | some i =>
    have hi := (ho.2.2 i rfl).1
    have he3 : e3 < 256 := ho.2.1
    have bitz : ∀ s, s < 8 → (((nI e3 >>> (nI s &&& 31)) &&& (1 : Int32)) = 0 ↔ e3.testBit s = false) := by
      have h : ∀ m : Nat, m < 256 → ∀ s : Nat, s < 8 → (((nI m >>> (nI s &&& 31)) &&& (1 : Int32)) = 0 ↔ m.testBit s = false) := by decide +kernel
      exact fun s hs => h e3 he3 s hs
    obtain ⟨b, hb, hq⟩ := iter_0 (B := Mo_fits_B133 (nI k) 125 (enc (some i)) M)
      (fun s v => v = nI s ∧ ∀ t, t < s → ((pt i t).isSome && !(e3.testBit t)) = false)
      (fun b => b = if mssB pt (e1, some i, e3) = true then .inl (nI k, M) else .inr ()) 8 (by decide)
      (by
        rintro s v hs ⟨rfl, hall⟩
        unfold Mo_fits_B133
        rw [if_neg (show ¬ (8 : Int32) ≤ nI s by rw [l_8, nI_leI (by omega) (by omega)]; omega), if_pos rfl, enc_some, if_neg (nI_pos (by omega)), l_8, nI_mul, nI_add, ck_in (by omega) (by omega), ix_nI (by omega), mo_part hM hi hs, h27, ck_in (by omega) (by omega), ix_nI (by omega), h20, nI_1]
        cases hpt : pt i s with
        | none =>
          rw [enc_none, if_pos (by decide)]
          refine Or.inl ⟨_, rfl, rfl, fun t ht => ?_⟩
          by_cases hts : t = s
          · subst hts; rw [hpt]; rfl
          · exact hall t (by omega)
        | some j =>
          have hj : j < 2 ^ 31 := by
            have h0 := hM.2.2.1 i s hi hs
            rw [hpt, enc_some] at h0
            exact Classical.byContradiction (fun hc => by
              exact hc (hlt i s j hpt hi))
          rw [enc_some, if_neg (nI_pos hj)]
          by_cases hbz : e3.testBit s = false
          · rw [if_pos ((bitz s hs).mpr hbz)]
            refine Or.inr ⟨_, rfl, ?_⟩
            have : mssB pt (e1, some i, e3) = true := by
              unfold mssB
              exact List.any_eq_true.mpr ⟨s, List.mem_range.mpr hs, by rw [hpt, hbz]; rfl⟩
            rw [if_pos this]
          · rw [if_neg (fun h => hbz ((bitz s hs).mp h))]
            refine Or.inl ⟨_, rfl, rfl, fun t ht => ?_⟩
            by_cases hts : t = s
            · subst hts
              have : e3.testBit t = true := by simpa using hbz
              rw [this]; simp
            · exact hall t (by omega))
      (by
        rintro v ⟨rfl, hall⟩
        refine ⟨.inr (), ?_, ?_⟩
        · unfold Mo_fits_B133
          rw [if_pos (show (8 : Int32) ≤ nI 8 by decide)]
        · have : mssB pt (e1, some i, e3) = false := by
            unfold mssB
            apply Bool.eq_false_iff.mpr
            intro h
            obtain ⟨s, hs, hs2⟩ := List.any_eq_true.mp h
            rw [List.mem_range] at hs
            rw [hall s hs] at hs2
            cases hs2
          rw [this]; rfl) 0 ⟨rfl, fun t ht => by omega⟩
    rw [hb, hq]
end FT
