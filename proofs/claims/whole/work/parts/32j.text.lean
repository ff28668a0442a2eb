/-! TEXT: what a name comes to -/
theorem pigeon : ∀ (n : Nat) (a : Nat → Nat), (∀ x, x ≤ n → a x < n) → ∃ i j, i < j ∧ j ≤ n ∧ a i = a j := by
  intro n
  induction n with
  | zero => intro a h; have := h 0 (by omega); omega
  | succ n ih =>
    intro a h
    by_cases c : ∃ i, i ≤ n ∧ a i = a (n + 1)
    · obtain ⟨i, h1, h2⟩ := c
      exact ⟨i, n + 1, by omega, by omega, h2⟩
    · have hne : ∀ i, i ≤ n → a i ≠ a (n + 1) := fun i hi e => c ⟨i, hi, e⟩
      obtain ⟨i, j, h1, h2, h3⟩ := ih (fun x => if a x < a (n + 1) then a x else a x - 1) (fun x hx => by
        have g1 := h x (by omega)
        have g2 := h (n + 1) (by omega)
        have g3 := hne x hx
        split <;> omega)
      refine ⟨i, j, h1, by omega, ?_⟩
      have g1 := hne i (by omega)
      have g2 := hne j (by omega)
      split at h3 <;> split at h3 <;> omega
def isNm (x : Option Nat) : Prop := ∃ v, x = some v ∧ 100 ≤ v
def hp1 (q : Nat → Option Nat) (x : Option Nat) : Option Nat := match x with
  | none => none
  | some v => if v < 100 then some v else q (v - 100)
def hpn (q : Nat → Option Nat) : Nat → Option Nat → Option Nat
  | 0, x => x
  | n + 1, x => hp1 q (hpn q n x)
noncomputable def rsv (q : Nat → Option Nat) (x : Option Nat) : Option Nat := @ite _ (isNm (hpn q 8 x)) (Classical.propDecidable _) none (hpn q 8 x)
section TX7
variable {M MK MM : QM} {R : Nat} {q : Nat → Option Nat} {x : Option Nat}
theorem hp1_st (h : ¬ isNm x) : hp1 q x = x := by
  cases x with
  | none => rfl
  | some v =>
    unfold hp1
    dsimp only
    rw [if_pos]
    apply Classical.byContradiction
    intro z
    exact h ⟨v, rfl, by omega⟩
theorem hpn_add (a b : Nat) : hpn q (a + b) x = hpn q b (hpn q a x) := by
  induction b with
  | zero => rfl
  | succ b ih =>
    rw [← Nat.add_assoc, hpn, hpn, ih]
theorem hpn_st (h : ¬ isNm x) (n : Nat) : hpn q n x = x := by
  induction n with
  | zero => rfl
  | succ n ih => rw [hpn, ih, hp1_st h]
theorem hpn_from {a n : Nat} (h : ¬ isNm (hpn q a x)) (hn : a ≤ n) : hpn q n x = hpn q a x := by
  obtain ⟨b, rfl⟩ : ∃ b, n = a + b := ⟨n - a, by omega⟩
  rw [hpn_add, hpn_st h]
theorem hpn_v (hq : ∀ c v, c < 8 → q c = some v → VOk R v) (hR : R ≤ 100) (hx : ∀ v, x = some v → VOk R v) (n : Nat) : ∀ v, hpn q n x = some v → VOk R v := by
  induction n with
  | zero => exact hx
  | succ n ih =>
    intro v hv
    rw [hpn] at hv
    cases e : hpn q n x with
    | none => rw [e] at hv; cases hv
    | some w =>
      rw [e] at hv
      unfold hp1 at hv
      dsimp only at hv
      by_cases c : w < 100
      · rw [if_pos c] at hv; rw [← Option.some.inj hv]; exact ih w e
      · rw [if_neg c] at hv
        have := ih w e
        exact hq (w - 100) v (by rcases this with z | z <;> omega) hv
/-- nine names on the way: there is no end -/
theorem hpn_9 (hq : ∀ c v, c < 8 → q c = some v → VOk R v) (hR : R ≤ 100) (hx : ∀ v, x = some v → VOk R v) (h : isNm (hpn q 8 x)) : isNm (hpn q 9 x) := by
  have hall : ∀ a, a ≤ 8 → isNm (hpn q a x) := fun a ha => Classical.byContradiction (fun z => z (by rw [← hpn_from z ha]; exact h))
  have hval : ∀ a, a ≤ 8 → ∃ v, hpn q a x = some v ∧ 100 ≤ v ∧ v < 108 := fun a ha => by
    obtain ⟨v, h1, h2⟩ := hall a ha
    refine ⟨v, h1, h2, ?_⟩
    rcases hpn_v hq hR hx a v h1 with z | z <;> omega
  obtain ⟨i, j, h1, h2, h3⟩ := pigeon 8 (fun a => ((hpn q a x).getD 100) - 100) (fun a ha => by
    obtain ⟨v, g1, g2, g3⟩ := hval a ha
    rw [g1]
    show v - 100 < 8
    omega)
  obtain ⟨v, v1, v2, v3⟩ := hval i (by omega)
  obtain ⟨w, w1, w2, w3⟩ := hval j h2
  rw [v1, w1] at h3
  have h3' : v - 100 = w - 100 := h3
  have e : hpn q i x = hpn q j x := by rw [v1, w1]; congr 1; omega
  have e9 : hpn q 9 x = hpn q (i + (9 - j)) x := by
    rw [show (9 : Nat) = j + (9 - j) by omega, hpn_add, ← e, ← hpn_add]
    congr 1
    omega
  rw [e9]
  exact hall _ (by omega)
theorem rsv_nm (h : isNm (hpn q 8 x)) : rsv q x = none := by unfold rsv; rw [if_pos h]
theorem rsv_no {a : Nat} (ha : a ≤ 8) (h : ¬ isNm (hpn q a x)) : rsv q x = hpn q a x := by
  have e := hpn_from h ha
  unfold rsv
  rw [if_neg (by rw [e]; exact h), e]
theorem rsv_none : rsv q none = none := by
  rw [rsv_no (a := 0) (by omega) (fun z => by obtain ⟨v, z, -⟩ := z; cases z)]; rfl
theorem rsv_lt (hq : ∀ c v, c < 8 → q c = some v → VOk R v) (hR : R ≤ 100) (hx : ∀ v, x = some v → VOk R v) {j : Nat} (h : rsv q x = some j) : j < R := by
  unfold rsv at h
  by_cases c : isNm (hpn q 8 x)
  · rw [if_pos c] at h; cases h
  · rw [if_neg c] at h
    rcases hpn_v hq hR hx 8 j h with z | z
    · exact z
    · exact absurd ⟨j, h, z.1⟩ c
theorem te_nodeOf (h13 : ∀ c, c < 8 → M.1 13 c = enKo (q c)) (hq : ∀ c v, c < 8 → q c = some v → VOk R v) (hR : R ≤ 100) (hx : ∀ v, x = some v → VOk R v) : Te_nodeOf (enKo x) M = some (enc (rsv q x)) := by
  obtain ⟨e, b1, b2⟩ := iter_0 (B := Te_nodeOf_B4 M)
    (fun t v => v = (enKo (hpn q t x), nI t) ∧ ∀ a, a < t → isNm (hpn q a x))
    (fun e => e = .inl (enc (rsv q x)) ∨ (e = .inr () ∧ rsv q x = none))
    9 (by omega)
    (by
      rintro t v ht ⟨rfl, hv⟩
      unfold Te_nodeOf_B4
      dsimp only
      rw [if_neg (show ¬ (8 : Int32) < nI t by rw [l_8, nI_ltI (by omega) (by omega)]; omega), nI_1]
      by_cases c : isNm (hpn q t x)
      · obtain ⟨w, w1, w2⟩ := c
        have w3 : w < 108 := by rcases hpn_v hq hR hx t w w1 with z | z <;> omega
        have ek : enKo (hpn q t x) = nI (w + 900) := by
          rw [w1]
          show encK w = _
          unfold encK
          rw [if_neg (by omega)]
        have es : nI (w + 900) - 1000 = nI (w - 100) := by
          rw [show (1000 : Int32) = nI 1000 from rfl, nI_sub (by omega), show w + 900 - 1000 = w - 100 by omega]
        rw [ek, if_pos (show (1000 : Int32) ≤ nI (w + 900) by rw [show (1000 : Int32) = nI 1000 from rfl, nI_leI (by omega) (by omega)]; omega), es, dr_name (by omega), Option.bind_some, h13 _ (by omega)]
        refine Or.inl ⟨_, rfl, ?_, fun a ha => ?_⟩
        · rw [hpn, w1]
          unfold hp1
          dsimp only
          rw [if_neg (by omega)]
        · by_cases e : a = t
          · subst e; exact ⟨w, w1, w2⟩
          · exact hv a (by omega)
      · have ek : enKo (hpn q t x) = enc (hpn q t x) ∧ ¬ (1000 : Int32) ≤ enKo (hpn q t x) := by
          cases e : hpn q t x with
          | none => exact ⟨rfl, by decide⟩
          | some w =>
            have hw : w < 100 := by
              apply Classical.byContradiction
              intro z
              exact c ⟨w, e, by omega⟩
            have : encK w = nI w := encK_R hw
            refine ⟨this, ?_⟩
            show ¬ (1000 : Int32) ≤ encK w
            rw [this, show (1000 : Int32) = nI 1000 from rfl, nI_leI (by omega) (by omega)]
            omega
        rw [if_neg ek.2, ek.1, ← rsv_no (by omega) c]
        exact Or.inr ⟨_, rfl, Or.inl rfl⟩)
    (by
      rintro v ⟨rfl, hv⟩
      refine ⟨.inr (), ?_, Or.inr ⟨rfl, rsv_nm (hv 8 (by omega))⟩⟩
      unfold Te_nodeOf_B4
      dsimp only
      rw [if_pos (show (8 : Int32) < nI 9 by decide)]) (enKo x, 0) ⟨rfl, fun a ha => by omega⟩
  unfold Te_nodeOf
  rw [b1, Option.bind_some]
  rcases b2 with rfl | ⟨rfl, z⟩
  · rfl
  · rw [z]; rfl
theorem mo_comes (h7 : ∀ c, c < 8 → M.1 7 c = enc (q c)) (hq : ∀ c v, c < 8 → q c = some v → VOk R v) (hR : R ≤ 100) (hx : ∀ v, x = some v → VOk R v) : Mo_comesTo (enc x) M = some (enc (rsv q x)) := by
  have lt100 : ∀ t, ¬ isNm (hpn q t x) → enc (hpn q t x) < 100 := by
    intro t c
    cases e : hpn q t x with
    | none => decide
    | some w =>
      have hw : w < 100 := by
        apply Classical.byContradiction
        intro z
        exact c ⟨w, e, by omega⟩
      rw [enc_some, l_100, nI_ltI (by omega) (by omega)]
      exact hw
  obtain ⟨e, b1, b2⟩ := iter_0 (B := Mo_comesTo_B4 M)
    (fun t v => v = (enc (hpn q t x), nI t))
    (fun e => e = enc (hpn q 9 x))
    9 (by omega)
    (by
      rintro t v ht rfl
      unfold Mo_comesTo_B4
      dsimp only
      rw [if_neg (show ¬ (9 : Int32) ≤ nI t by rw [show (9 : Int32) = nI 9 from rfl, nI_leI (by omega) (by omega)]; omega), nI_1]
      by_cases c : isNm (hpn q t x)
      · obtain ⟨w, w1, w2⟩ := c
        have w3 : w < 108 := by rcases hpn_v hq hR hx t w w1 with z | z <;> omega
        have es : nI w - 100 = nI (w - 100) := by rw [l_100, nI_sub (by omega)]
        rw [w1, enc_some, if_neg (show ¬ nI w < 100 by rw [l_100, nI_ltI (by omega) (by omega)]; omega), es, ck_in (by omega) (by omega), ix_nI (by omega), h7 _ (by omega)]
        refine Or.inl ⟨_, rfl, ?_⟩
        rw [hpn, w1]
        unfold hp1
        dsimp only
        rw [if_neg (by omega)]
      · rw [if_pos (lt100 t c)]
        exact Or.inr ⟨_, rfl, by rw [hpn_from (n := 9) c (by omega)]⟩)
    (by
      rintro v rfl
      refine ⟨_, ?_, rfl⟩
      unfold Mo_comesTo_B4
      dsimp only
      rw [if_pos (show (9 : Int32) ≤ nI 9 by decide)]) (enc x, 0) rfl
  unfold Mo_comesTo Mo_comesTo_J32
  rw [b1, Option.bind_some, b2]
  by_cases c : isNm (hpn q 8 x)
  · obtain ⟨w, w1, w2⟩ := hpn_9 hq hR hx c
    have w3 : w < 108 := by rcases hpn_v hq hR hx 9 w w1 with z | z <;> omega
    rw [rsv_nm c, w1, enc_some, if_neg (show ¬ nI w < 100 by rw [l_100, nI_ltI (by omega) (by omega)]; omega)]
    rfl
  · have e : hpn q 9 x = hpn q 8 x := hpn_from c (by omega)
    rw [e, if_pos (lt100 8 c), rsv_no (by omega) c]
end TX7
