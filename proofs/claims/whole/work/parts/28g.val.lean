/-! a step of the reference's second pass -/
theorem hd_cases (sg : Nat → Int32) (D : Option Nat) {q : Int32} (hq : q ≠ 46) : (isW sg D = 46 ∧ hdB sg q D = false ∧ hdN sg q D = none) ∨ (isW sg D ≠ 46 ∧ isW sg D = q ∧ hdB sg q D = false ∧ hdN sg q D = D) ∨ (isW sg D ≠ 46 ∧ isW sg D ≠ q ∧ hdB sg q D = true) := by
  cases D with
  | none => exact Or.inl ⟨rfl, rfl, rfl⟩
  | some j =>
    by_cases h1 : sg j = 46
    · refine Or.inl ⟨h1, by simp [hdB, h1], ?_⟩
      simp [hdN, h1]; exact fun h => hq h.symm
    · by_cases h2 : sg j = q
      · exact Or.inr (Or.inl ⟨h1, h2, by simp [hdB, h2], by simp [hdN, h2]⟩)
      · exact Or.inr (Or.inr ⟨h1, h2, by simp [hdB, h1, h2]⟩)
section FT
variable {M : QM} {N : Nat} {sg : Nat → Int32} {pt : Nat → Nat → Option Nat} {nm : Nat → Option Nat}
theorem ft_head (hM : NetM M N sg pt nm) (hN : N ≤ 60) {pn k c : Nat} (h0 : M.1 0 0 = nI pn) (hk : k < pn) (hp : pn ≤ 100) (hc : M.1 1 k = nI c) (D : Option Nat) (hD : ∀ j, D = some j → j < N) :
    Mo_fits_B29 (enc D, nI k, M) = Mo_fits_L29_J86 (enc D) (nI k) (nI c) (enc D) (isW sg D) (if isW sg D = 46 then 1 else 0) M := by
  unfold Mo_fits_B29 Mo_fits_L29_J60 Mo_fits_L29_J72
  dsimp only
  rw [h0, if_neg (show ¬ nI pn ≤ nI k by rw [nI_leI (by omega) (by omega)]; omega), ck_in (by omega) (by omega), ix_nI (by omega), hc]
  cases D with
  | none => rfl
  | some j =>
    have hj := hD j rfl
    rw [enc_some, if_neg (nI_pos (by omega)), if_neg (show ¬ nI j = 100000 from fun h => by have := (nI_eq (a := j) (b := 100000) (by omega) (by decide)).mp h; omega), ck_in (by omega) (by omega), ix_nI (by omega), hM.2.1 j hj]
    show _ = Mo_fits_L29_J86 (nI j) (nI k) (nI c) (nI j) (sg j) (if sg j = 46 then 1 else 0) M
    by_cases h1 : sg j = 46
    · rw [if_pos h1, if_pos h1]
    · rw [if_neg h1, if_neg h1]
theorem ft_far {pn k c : Nat} (h0 : M.1 0 0 = nI pn) (hk : k < pn) (hp : pn ≤ 100) (hc : M.1 1 k = nI c) :
    Mo_fits_B29 (100000, nI k, M) = Mo_fits_L29_J86 100000 (nI k) (nI c) 100000 46 1 M := by
  unfold Mo_fits_B29 Mo_fits_L29_J60 Mo_fits_L29_J72
  dsimp only
  rw [h0, if_neg (show ¬ nI pn ≤ nI k by rw [nI_leI (by omega) (by omega)]; omega), ck_in (by omega) (by omega), ix_nI (by omega), hc]
  rfl
theorem ft_86 {p k c : Nat} (h : M.1 0 27 = nI p) (hp : p ≤ 100) (hc : c < 127) (h1 : c ≠ 125) (h2 : c ≠ 93) (h3 : c ≠ 41) (h4 : ¬ (97 ≤ c ∧ c ≤ 104)) (x2 x5 x6 s0 : Int32) : Mo_fits_L29_J86 x2 (nI k) (nI c) x5 x6 s0 M = Mo_fits_L29_J277 (nI k) (nI c) x5 x6 s0 M := by
  unfold Mo_fits_L29_J86
  rw [if_neg (show ¬ nI c = 125 from fun h => h1 ((c_eq hc (by decide)).mp h)), if_neg (show ¬ nI c = 93 from fun h => h2 ((c_eq hc (by decide)).mp h)), if_neg (show ¬ nI c = 41 from fun h => h3 ((c_eq hc (by decide)).mp h)), h]
  by_cases h0 : p = 0
  · subst h0; rw [if_pos (by decide)]
  · rw [if_neg (nI_nle (by omega) (by omega)), nI_pred1 (by omega), ck_in (by omega) (by omega)]
    by_cases h5 : M.1 17 (nI (p - 1)).toNatClampNeg = 123
    · rw [if_pos h5, show (97 : Int32) = nI 97 from rfl, show (104 : Int32) = nI 104 from rfl, mo_in_1 (by omega) (by decide) (by decide), Option.bind_some, if_neg h4, if_pos (show (0 : Int32) = 0 from rfl)]
    · rw [if_neg h5]
/-- plain values -/
theorem ft_plain {k c : Nat} {q : Int32} (hc : c < 127) (hv : vk c = some q) (hq : q = 110 ∨ q = 116 ∨ q = 115) (D : Option Nat) :
    Mo_fits_L29_J277 (nI k) (nI c) (enc D) (isW sg D) (if isW sg D = 46 then 1 else 0) M = if hdB sg q D = true then some (.inl (.inl (nI k, M))) else Mo_fits_L29_J486 (nI (k + if q = 115 then 2 else 1)) M := by
  have hq46 : q ≠ 46 := by rcases hq with h | h | h <;> subst h <;> decide
  have h471 : Mo_fits_L29_J471 (nI k) (nI c) M = Mo_fits_L29_J486 (nI (k + if q = 115 then 2 else 1)) M := by
    unfold Mo_fits_L29_J471 Mo_fits_L29_J484
    have hh : ∀ c : Nat, c < 127 → (c = 36 ↔ vk c = some 115) := by decide +kernel
    by_cases h36 : c = 36
    · have e := (hh c hc).mp h36
      rw [hv] at e
      have e := Option.some.inj e
      rw [if_pos (show nI c = 36 by rw [h36]; rfl), if_pos e, l_2, nI_add]
    · have e : q ≠ 115 := fun e => h36 ((hh c hc).mpr (by rw [hv, e]))
      rw [if_neg (show ¬ nI c = 36 from fun h => h36 ((c_eq hc (by decide)).mp h)), if_neg e, nI_1]
  have h455 : Mo_fits_L29_J455 (nI k) (nI c) (isW sg D) (if isW sg D = 46 then 1 else 0) q M = if hdB sg q D = true then some (.inl (.inl (nI k, M))) else Mo_fits_L29_J486 (nI (k + if q = 115 then 2 else 1)) M := by
    unfold Mo_fits_L29_J455
    rw [h471]
    rcases hd_cases sg D hq46 with ⟨a1, a2, a3⟩ | ⟨a1, a2, a3, a4⟩ | ⟨a1, a2, a3⟩
    · rw [if_pos a1, if_neg (show ¬ (1 : Int32) = 0 by decide), a2]; rfl
    · rw [if_neg a1, if_pos rfl, if_pos a2, a3]; rfl
    · rw [if_neg a1, if_pos rfl, if_neg a2, a3]; rfl
  rw [← h455]
  unfold Mo_fits_L29_J277 Mo_fits_L29_J448
  have v1 : ∀ c : Nat, c < 127 → vk c = some 110 → 48 ≤ c ∧ c ≤ 57 := by decide +kernel
  have v2 : ∀ c : Nat, c < 127 → vk c = some 116 → c = 84 ∨ c = 70 := by decide +kernel
  have v3 : ∀ c : Nat, c < 127 → vk c = some 115 → c = 36 := by decide +kernel
  have hcs : c ≠ 123 ∧ c ≠ 40 ∧ c ≠ 91 ∧ ((c = 36 ∧ vk c = some 115) ∨ (c = 84 ∧ vk c = some 116) ∨ (c = 70 ∧ vk c = some 116) ∨ (c ≠ 36 ∧ c ≠ 84 ∧ c ≠ 70 ∧ vk c = some 110)) := by
    rcases hq with h | h | h <;> subst h
    · have := v1 c hc hv
      exact ⟨by omega, by omega, by omega, Or.inr (Or.inr (Or.inr ⟨by omega, by omega, by omega, hv⟩))⟩
    · rcases v2 c hc hv with h | h
      · exact ⟨by omega, by omega, by omega, Or.inr (Or.inl ⟨h, hv⟩)⟩
      · exact ⟨by omega, by omega, by omega, Or.inr (Or.inr (Or.inl ⟨h, hv⟩))⟩
    · have := v3 c hc hv
      exact ⟨by omega, by omega, by omega, Or.inl ⟨this, hv⟩⟩
  obtain ⟨b1, b2, b3, b4⟩ := hcs
  rw [if_neg (show ¬ nI c = 123 from fun h => b1 ((c_eq hc (by decide)).mp h)), if_neg (show ¬ nI c = 40 from fun h => b2 ((c_eq hc (by decide)).mp h)), if_neg (show ¬ nI c = 91 from fun h => b3 ((c_eq hc (by decide)).mp h))]
  rcases b4 with ⟨d1, d2⟩ | ⟨d1, d2⟩ | ⟨d1, d2⟩ | ⟨d1, d2, d3, d4⟩
  · rw [hv] at d2
    have d2 := Option.some.inj d2
    rw [if_pos (show nI c = 36 by rw [d1]; rfl), d2]
  · rw [hv] at d2
    have d2 := Option.some.inj d2
    rw [if_neg (show ¬ nI c = 36 by rw [d1]; decide), if_pos (show nI c = 84 by rw [d1]; rfl), d2]
  · rw [hv] at d2
    have d2 := Option.some.inj d2
    rw [if_neg (show ¬ nI c = 36 by rw [d1]; decide), if_neg (show ¬ nI c = 84 by rw [d1]; decide), if_pos (show nI c = 70 by rw [d1]; rfl), d2]
  · rw [hv] at d4
    have d4 := Option.some.inj d4
    rw [if_neg (show ¬ nI c = 36 from fun h => d1 ((c_eq hc (by decide)).mp h)), if_neg (show ¬ nI c = 84 from fun h => d2 ((c_eq hc (by decide)).mp h)), if_neg (show ¬ nI c = 70 from fun h => d3 ((c_eq hc (by decide)).mp h)), d4]
/-- records and lists begin -/
theorem ft_open {k c : Nat} {q : Int32} (hc : (c = 123 ∧ q = 123) ∨ (c = 40 ∧ q = 42)) (D : Option Nat) :
    Mo_fits_L29_J277 (nI k) (nI c) (enc D) (isW sg D) (if isW sg D = 46 then 1 else 0) M = if hdB sg q D = true then some (.inl (.inl (nI k, M))) else Option.bind (Mo_begin (kc q) (enc (hdN sg q D)) M) (fun q10 => Mo_fits_L29_J486 (nI (k + 1)) q10) := by
  have hq46 : q ≠ 46 := by rcases hc with h | h <;> rw [h.2] <;> decide
  have key : Mo_fits_L29_J291 (nI k) (nI c) (enc D) (isW sg D) (if isW sg D = 46 then 1 else 0) M = if hdB sg q D = true then some (.inl (.inl (nI k, M))) else Option.bind (Mo_begin (kc q) (enc (hdN sg q D)) M) (fun q10 => Mo_fits_L29_J486 (nI (k + 1)) q10) := by
    unfold Mo_fits_L29_J291 Mo_fits_L29_J312 Mo_fits_L29_J317 Mo_fits_L29_J332
    rw [nI_1]
    have hkc : nI c = kc q := by rcases hc with h | h <;> rw [h.1, h.2] <;> rfl
    rcases hd_cases sg D hq46 with ⟨a1, a2, a3⟩ | ⟨a1, a2, a3, a4⟩ | ⟨a1, a2, a3⟩
    · rw [if_pos a1, if_neg (show ¬ (1 : Int32) = 0 by decide), if_neg (show ¬ (1 : Int32) = 0 by decide), a2, a3, hkc]; rfl
    · rw [if_neg a1, if_pos rfl, if_pos rfl, a2, a3, a4]
      rcases hc with ⟨h1, h2⟩ | ⟨h1, h2⟩
      · rw [if_pos (show nI c = 123 by rw [h1]; rfl), if_pos h2, hkc]; rfl
      · rw [if_neg (show ¬ nI c = 123 by rw [h1]; decide), if_pos h2, hkc]; rfl
    · rw [if_neg a1, if_pos rfl, a3]
      rcases hc with ⟨h1, h2⟩ | ⟨h1, h2⟩
      · rw [if_pos (show nI c = 123 by rw [h1]; rfl), if_neg (by rw [← h2]; exact a2)]; rfl
      · rw [if_neg (show ¬ nI c = 123 by rw [h1]; decide), if_neg (by rw [← h2]; exact a2)]; rfl
  rw [← key]
  unfold Mo_fits_L29_J277
  rcases hc with ⟨h1, h2⟩ | ⟨h1, h2⟩
  · rw [if_pos (show nI c = 123 by rw [h1]; rfl)]
  · rw [if_neg (show ¬ nI c = 123 by rw [h1]; decide), if_pos (show nI c = 40 by rw [h1]; rfl)]
/-- a choice begins -/
theorem ft_choice (hM : NetM M N sg pt nm) (hW : WF N sg pt nm) {k s : Nat} (hk : k + 1 < 100) (hs : s < 8) (hc : M.1 1 (k + 1) = nI (97 + s)) (D : Option Nat) (hD : ∀ j, D = some j → j < N) :
    Mo_fits_L29_J277 (nI k) (nI 91) (enc D) (isW sg D) (if isW sg D = 46 then 1 else 0) M = if hdB sg 91 D = true ∨ (∃ j, hdN sg 91 D = some j ∧ pt j s = none) then some (.inl (.inl (nI k, M))) else Option.bind (Mo_begin 91 (enc (hdN sg 91 D)) M) (fun q12 => Option.bind (Mo_inner (nI s) q12) (fun q13 => some (.inr (q13, nI (k + 2), q12)))) := by
  unfold Mo_fits_L29_J277 Mo_fits_L29_J391 Mo_fits_L29_J406
  have e97 : nI (97 + s) - 97 = nI s := by
    rw [show (97 : Int32) = nI 97 from rfl, nI_sub (by omega)]; congr 1; omega
  rw [if_neg (show ¬ nI 91 = 123 by decide), if_neg (show ¬ nI 91 = 40 by decide), if_pos (show nI 91 = 91 from rfl), nI_1, ck_in (by omega) (by omega), ix_nI (by omega), hc, e97, l_2, nI_add]
  rcases hd_cases sg D (q := 91) (by decide) with ⟨a1, a2, a3⟩ | ⟨a1, a2, a3, a4⟩ | ⟨a1, a2, a3⟩
  · rw [if_pos a1, if_neg (show ¬ (1 : Int32) = 0 by decide), if_neg (show ¬ (1 : Int32) = 0 by decide), a2, a3, if_neg (show ¬ (false = true ∨ ∃ j, none = some j ∧ pt j s = none) by simp)]
    rfl
  · rw [if_neg a1, if_pos rfl, if_pos rfl, if_pos a2, a3, a4]
    cases D with
    | none => exact absurd rfl a1
    | some j =>
      have hj := hD j rfl
      have hN := hW.1
      rw [enc_some, l_8, nI_mul, nI_add, ck_in (by omega) (by omega), ix_nI (by omega), mo_part hM hj hs]
      cases hpt : pt j s with
      | none => rw [enc_none, if_neg (by decide), if_pos (Or.inr ⟨j, rfl, hpt⟩)]
      | some i =>
        have := hW.2.2.1 j s i hj hpt
        rw [enc_some, if_pos (nI_pos' (by omega)), if_neg]
        · rfl
        · rintro (h | ⟨j2, h1, h2⟩)
          · cases h
          · cases h1; rw [hpt] at h2; cases h2
  · rw [if_neg a1, if_pos rfl, if_neg a2, if_pos (Or.inl a3)]
end FT
