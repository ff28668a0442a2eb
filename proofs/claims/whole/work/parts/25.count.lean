/-! COUNT -/
theorem lN_int {n : Nat} (h : n < 2 ^ 63) : (lN n).toInt = (n : Int) := lg_ofNat_toInt (by omega)
theorem lNlt {a b : Nat} (ha : a < 2 ^ 63) (hb : b < 2 ^ 63) : lN a < lN b ↔ a < b := by
  rw [Int64.lt_iff_toInt_lt, lN_int ha, lN_int hb]; omega
theorem lNeq {a b : Nat} (ha : a < 2 ^ 63) (hb : b < 2 ^ 63) : lN a = lN b ↔ a = b := by
  rw [← Int64.toInt_inj, lN_int ha, lN_int hb]; omega
def cap (x : Nat) : Nat := min 1000000000 x
theorem cap_le (x : Nat) : cap x ≤ 1000000000 := by unfold cap; omega
theorem cap_cap (a p : Nat) : cap (a + cap p) = cap (a + p) := by unfold cap; omega
theorem l_C : (1000000000 : Int64) = lN 1000000000 := rfl
theorem capK {a : Nat} (h : a < 2 ^ 63) : (if lN a < (1000000000 : Int64) then lN a else (1000000000 : Int64)) = lN (cap a) := by
  rw [l_C]
  by_cases hc : a < 1000000000
  · rw [if_pos ((lNlt h (by omega)).mpr hc)]; congr 1; unfold cap; omega
  · rw [if_neg (fun z => hc ((lNlt h (by omega)).mp z))]; congr 1; unfold cap; omega
theorem capM {a : Nat} (h : a < 2 ^ 63) (M : QM) : Mo_held (lN a) M = some (lN (cap a)) := by
  unfold Mo_held lg_cmp
  rw [l_C]
  by_cases hc : 1000000000 < a
  · rw [if_pos ((lNlt (by omega) h).mpr hc), if_neg (by decide)]
    congr 2; unfold cap; omega
  · rw [if_neg (fun z => hc ((lNlt (by omega) h).mp z))]
    have e : cap a = a := by unfold cap; omega
    rw [e]
    by_cases h2 : lN a = lN 1000000000
    · rw [if_pos h2, if_pos (by decide)]
    · rw [if_neg h2, if_pos (by decide)]
def cf (g : Nat → Nat) : Nat → Nat
  | 0 => 0
  | m + 1 => cap (cf g m + g (m + 1))
theorem cf_le (g : Nat → Nat) (m : Nat) : cf g m ≤ 1000000000 := by
  cases m with
  | zero => simp [cf]
  | succ m => exact cap_le _
theorem cf_congr {g h : Nat → Nat} {m : Nat} (e : ∀ t, 1 ≤ t → t ≤ m → g t = h t) : cf g m = cf h m := by
  induction m with
  | zero => rfl
  | succ m ih => simp only [cf]; rw [ih (fun t h1 h2 => e t h1 (by omega)), e (m + 1) (by omega) (by omega)]
def wy (c : Nat → Nat → Nat) (p : Nat → Option Nat) : Nat → Nat → Nat
  | 0, u => if u = 0 then 1 else 0
  | m + 1, u => match p m with
    | none => wy c p m u
    | some j => cf (fun t => wy c p m (u - t) * c j t) u
theorem wy_le (c : Nat → Nat → Nat) (p : Nat → Option Nat) (m u : Nat) : wy c p m u ≤ 1000000000 := by
  induction m generalizing u with
  | zero => simp only [wy]; split <;> omega
  | succ m ih =>
    simp only [wy]
    cases p m with
    | none => exact ih u
    | some j => exact cf_le _ _
theorem wy_congr {c d : Nat → Nat → Nat} {p : Nat → Option Nat} {m u : Nat} (e : ∀ s j t, s < m → p s = some j → t ≤ u → c j t = d j t) : wy c p m u = wy d p m u := by
  induction m generalizing u with
  | zero => rfl
  | succ m ih =>
    simp only [wy]
    cases hp : p m with
    | none => exact ih (fun s j t hs => e s j t (by omega))
    | some j =>
      apply cf_congr
      intro t h1 h2
      rw [ih (fun s j t hs hp ht => e s j t (by omega) hp (by omega)), e m j t (by omega) hp h2]
def chs (c : Nat → Nat → Nat) (p : Nat → Option Nat) (u : Nat) : Nat → Nat
  | 0 => 0
  | m + 1 => cap (chs c p u m + (match p m with
    | none => 0
    | some j => c j u))
theorem chs_le (c : Nat → Nat → Nat) (p : Nat → Option Nat) (u m : Nat) : chs c p u m ≤ 1000000000 := by
  cases m with
  | zero => simp [chs]
  | succ m => exact cap_le _
theorem chs_congr {c d : Nat → Nat → Nat} {p : Nat → Option Nat} {u m : Nat} (e : ∀ s j, s < m → p s = some j → c j u = d j u) : chs c p u m = chs d p u m := by
  induction m with
  | zero => rfl
  | succ m ih =>
    simp only [chs]
    rw [ih (fun s j hs => e s j (by omega))]
    cases hp : p m with
    | none => rfl
    | some j => simp only; rw [e m j (by omega) hp]
def CF (sg : Nat → Int32) (pt : Nat → Nat → Option Nat) (c : Nat → Nat → Nat) (i s : Nat) : Nat :=
  if sg i = 42 then (if s = 1 then 1 else match pt i 0 with
    | none => 0
    | some q => cf (fun t => c q t * c i (s - t)) (s - 1))
  else if sg i = 91 then chs c (pt i) (s - 1) 8 else if sg i = 123 then wy c (pt i) 8 (s - 1)
  else if sg i = 110 then (if s = 1 then 10 else 0) else if sg i = 115 then (if s = 1 then 26 else 0) else if sg i = 116 then (if s = 1 then 2 else 0) else 0
theorem CF_le (sg : Nat → Int32) (pt : Nat → Nat → Option Nat) (c : Nat → Nat → Nat) (i s : Nat) : CF sg pt c i s ≤ 1000000000 := by
  unfold CF
  split
  · split
    · omega
    · cases pt i 0 with
      | none => simp
      | some q => exact cf_le _ _
  · split
    · exact chs_le _ _ _ _
    · split
      · exact wy_le _ _ _ _
      · split
        · split <;> omega
        · split
          · split <;> omega
          · split
            · split <;> omega
            · omega
theorem CF_congr {sg : Nat → Int32} {pt : Nat → Nat → Option Nat} {c d : Nat → Nat → Nat} {i s : Nat} (hs : 1 ≤ s) (e : ∀ q j t, q < 8 → pt i q = some j → t < s → c j t = d j t) (e2 : ∀ t, t < s → c i t = d i t) : CF sg pt c i s = CF sg pt d i s := by
  unfold CF
  split
  · split
    · rfl
    · cases hq : pt i 0 with
      | none => rfl
      | some q =>
        apply cf_congr
        intro t h1 h2
        rw [e 0 q t (by omega) hq (by omega), e2 (s - t) (by omega)]
  · split
    · exact chs_congr (fun q j hq hp => e q j _ hq hp (by omega))
    · split
      · exact wy_congr (fun q j t hq hp ht => e q j t hq hp (by omega))
      · rfl
/-- the table of the counts, size by size -/
def ctab (sg : Nat → Int32) (pt : Nat → Nat → Option Nat) : Nat → Nat → Nat → Nat
  | 0, _, _ => 0
  | S + 1, i, s => if s = S + 1 then CF sg pt (ctab sg pt S) i s else ctab sg pt S i s
theorem ctab_up (sg : Nat → Int32) (pt : Nat → Nat → Option Nat) (S i s : Nat) (h : s ≤ S) : ctab sg pt (S + 1) i s = ctab sg pt S i s := by
  simp only [ctab]
  rw [if_neg (by omega)]
theorem ctab_eq (sg : Nat → Int32) (pt : Nat → Nat → Option Nat) (S T i s : Nat) (h1 : s ≤ S) (h2 : S ≤ T) : ctab sg pt T i s = ctab sg pt S i s := by
  obtain ⟨k, rfl⟩ : ∃ k, T = S + k := ⟨T - S, by omega⟩
  clear h2
  induction k with
  | zero => rfl
  | succ k ih => rw [show S + (k + 1) = (S + k) + 1 by omega, ctab_up _ _ _ _ _ (by omega)]; exact ih
def cN (sg : Nat → Int32) (pt : Nat → Nat → Option Nat) : Nat → Nat → Nat := ctab sg pt 12
theorem cN_0 (sg : Nat → Int32) (pt : Nat → Nat → Option Nat) (i : Nat) : cN sg pt i 0 = 0 := by
  unfold cN; rw [ctab_eq sg pt 0 12 i 0 (by omega) (by omega)]; rfl
theorem cN_eq (sg : Nat → Int32) (pt : Nat → Nat → Option Nat) (i s : Nat) (h1 : 1 ≤ s) (h2 : s ≤ 12) : cN sg pt i s = CF sg pt (cN sg pt) i s := by
  obtain ⟨S, rfl⟩ : ∃ S, s = S + 1 := ⟨s - 1, by omega⟩
  have e : cN sg pt i (S + 1) = ctab sg pt (S + 1) i (S + 1) := ctab_eq sg pt (S + 1) 12 i (S + 1) (by omega) (by omega)
  rw [e]
  simp only [ctab, if_true]
  exact CF_congr (by omega) (fun q j t _ _ ht => (ctab_eq sg pt S 12 j t (by omega) (by omega)).symm) (fun t ht => (ctab_eq sg pt S 12 i t (by omega) (by omega)).symm)
theorem cN_le (sg : Nat → Int32) (pt : Nat → Nat → Option Nat) (i s : Nat) (h : s ≤ 12) : cN sg pt i s ≤ 1000000000 := by
  by_cases h0 : s = 0
  · subst h0; rw [cN_0]; omega
  · rw [cN_eq sg pt i s (by omega) h]; exact CF_le _ _ _ _ _
theorem cN_congr {sg sg2 : Nat → Int32} {pt pt2 : Nat → Nat → Option Nat} {n : Nat} (hs : ∀ i, i < n → sg i = sg2 i) (hp : ∀ i, i < n → pt i = pt2 i) (hc : Clo n pt) : ∀ s, s ≤ 12 → ∀ i, i < n → cN sg pt i s = cN sg2 pt2 i s := by
  intro s
  induction s using Nat.strongRecOn with
  | ind s ih =>
    intro h i hi
    by_cases h0 : s = 0
    · subst h0; rw [cN_0, cN_0]
    · rw [cN_eq sg pt i s (by omega) h, cN_eq sg2 pt2 i s (by omega) h]
      rw [CF_congr (d := cN sg2 pt2) (by omega) (fun q j t _ hq ht => ih t ht (by omega) j (hc i q j hi hq)) (fun t ht => ih t ht (by omega) i hi)]
      unfold CF
      rw [hs i hi, hp i hi]
theorem l_12 : (12 : Int32) = nI 12 := rfl
theorem l_13 : (13 : Int32) = nI 13 := rfl
section CO
variable {M : QM} {N : Nat} {sg : Nat → Int32} {pt : Nat → Nat → Option Nat} {nm : Nat → Option Nat} {c : Nat → Nat → Nat}
theorem co_found {i s : Nat} (hi : i < 60) (h1 : 1 ≤ s) (h2 : s ≤ 12) : Co_foundOf (nI i) (nI s) M = some (M.2 29 (13 * i + s)) := by
  unfold Co_foundOf Co_foundOf_J26
  rw [if_neg (nI_pos (by omega)), l_60, if_neg (by rw [nI_leI (by omega) (by omega)]; omega), l_1, if_neg (by rw [nI_ltI (by omega) (by omega)]; omega), l_12, if_neg (by rw [nI_ltI (by omega) (by omega)]; omega), if_neg (by decide), l_13, nI_mul, nI_add, ck_in (by omega) (by omega), ix_nI (by omega), Nat.mul_comm i 13]
theorem co_found_0 {i : Nat} (hi : i < 60) : Co_foundOf (nI i) (nI 0) M = some 0 := by
  unfold Co_foundOf Co_foundOf_J25 Co_foundOf_J26
  rw [if_neg (nI_pos (by omega)), l_60, if_neg (by rw [nI_leI (by omega) (by omega)]; omega), if_pos (by decide)]
  rfl
theorem co_found_no {s : Int32} : Co_foundOf (-6) s M = some 0 := by
  unfold Co_foundOf Co_foundOf_J25 Co_foundOf_J26
  rw [if_pos (by decide)]
  rfl
/-- the table holds c for sizes below S -/
def TabK (M : QM) (N S : Nat) (c : Nat → Nat → Nat) : Prop := ∀ i s, i < N → 1 ≤ s → s < S → M.2 29 (13 * i + s) = lN (c i s)
theorem co_f (hN : N ≤ 60) {S : Nat} (hT : TabK M N S c) (hS : S ≤ 13) (h0 : ∀ i, c i 0 = 0) {i s : Nat} (hi : i < N) (hs : s < S) : Co_foundOf (nI i) (nI s) M = some (lN (c i s)) := by
  by_cases h : s = 0
  · subst h; rw [co_found_0 (by omega), h0]; rfl
  · rw [co_found (by omega) (by omega) (by omega), hT i s hi (by omega) hs]
theorem co_lists (hW : WF N sg pt nm) (hK : NetK M N sg pt nm) {i s : Nat} (hi : i < N) (h1 : 1 ≤ s) (h2 : s ≤ 12) (hT : TabK M N s c) (h0 : ∀ i, c i 0 = 0) (hb : ∀ i t, t ≤ 12 → c i t ≤ 1000000000) (h42 : sg i = 42) :
    Co_listsOf (nI i) (nI s) M = some (lN (CF sg pt c i s)) := by
  have hN := hW.1
  unfold Co_listsOf CF
  rw [if_pos h42]
  by_cases hs : s = 1
  · subst hs; rw [if_pos (by rfl), if_pos rfl]; rfl
  · rw [l_1, if_neg (by rw [nI_eq (by omega) (by omega)]; exact hs), if_neg hs, l_0, kn_part hK hN hi (by omega)]
    obtain ⟨q, hq⟩ := Option.isSome_iff_exists.mp (hW.2.2.2.2.1 i hi h42).1
    have hqN := (hW.2.2.1 i 0 q hi hq).1
    simp only [Option.bind_some, hq, enc_some]
    obtain ⟨b, g1, rfl⟩ := iter_0 (B := Co_listsOf_B23 (nI i) (nI s) (nI q) M) (fun k a => a = (lN (cf (fun t => c q t * c i (s - t)) k), nI (k + 1))) (fun b => b = lN (cf (fun t => c q t * c i (s - t)) (s - 1))) (s - 1) (by omega) (fun k a hk ha => by
      subst ha
      refine Or.inl ⟨(lN (cf (fun t => c q t * c i (s - t)) (k + 1)), nI (k + 1 + 1)), ?_, rfl⟩
      unfold Co_listsOf_B23
      simp only
      rw [if_neg (by rw [nI_leI (by omega) (by omega)]; omega), co_f hN hT (by omega) h0 hqN (by omega), nI_sub (by omega), co_f hN hT (by omega) h0 hi (by omega)]
      simp only [Option.bind_some, nI_1]
      have b1 := cf_le (fun t => c q t * c i (s - t)) k
      have b2 := Nat.mul_le_mul (hb q (k + 1) (by omega)) (hb i (s - (k + 1)) (by omega))
      rw [lN_mul, lN_add, capK (by omega)]
      rfl) (fun a ha => by
      subst ha
      refine ⟨_, ?_, rfl⟩
      unfold Co_listsOf_B23
      simp only
      rw [if_pos (by rw [nI_leI (by omega) (by omega)]; omega)]) ((0 : Int64), nI 1) rfl
    rw [g1]
    rfl
theorem co_choices (hW : WF N sg pt nm) (hK : NetK M N sg pt nm) {i u : Nat} (hi : i < N) (hu : u < 12) (hT : TabK M N (u + 1) c) (h0 : ∀ i, c i 0 = 0) (hb : ∀ i t, t ≤ 12 → c i t ≤ 1000000000) :
    Co_choicesOf (nI i) (nI u) M = some (lN (chs c (pt i) u 8)) := by
  have hN := hW.1
  unfold Co_choicesOf
  obtain ⟨b, g1, rfl⟩ := iter_0 (B := Co_choicesOf_B5 (nI i) (nI u) M) (fun k a => a = (lN (chs c (pt i) u k), nI k)) (fun b => b = lN (chs c (pt i) u 8)) 8 (by omega) (fun k a hk ha => by
    subst ha
    refine Or.inl ⟨(lN (chs c (pt i) u (k + 1)), nI (k + 1)), ?_, rfl⟩
    unfold Co_choicesOf_B5
    simp only
    have b1 := chs_le c (pt i) u k
    rw [if_neg (by rw [l_8, nI_leI (by omega) (by omega)]; omega), kn_part hK hN hi hk]
    cases hp : pt i k with
    | none =>
      simp only [Option.bind_some, enc_none, co_found_no, nI_1, chs, hp]
      rw [show (0 : Int64) = lN 0 from rfl, lN_add, capK (by omega)]
    | some j =>
      have hj := (hW.2.2.1 i k j hi hp).1
      have b2 := hb j u (by omega)
      simp only [Option.bind_some, enc_some, co_f hN hT (by omega) h0 hj (show u < u + 1 by omega), nI_1, chs, hp]
      rw [lN_add, capK (by omega)]) (fun a ha => by
    subst ha
    refine ⟨_, ?_, rfl⟩
    unfold Co_choicesOf_B5
    rw [if_pos (show (8 : Int32) ≤ nI 8 by decide)]) ((0 : Int64), (0 : Int32)) rfl
  rw [g1]
  rfl
theorem co_addLetter (hN : N ≤ 60) {j u : Nat} (hj : j < N) (hu : u < 12) (hT : TabK M N (u + 1) c) (h0 : ∀ i, c i 0 = 0) (hb : ∀ i t, t ≤ 12 → c i t ≤ 1000000000) {Wd : Nat → Nat} (hw : ∀ x, x ≤ u → M.2 30 x = lN (Wd x)) (hwb : ∀ x, Wd x ≤ 1000000000) :
    ∃ M2, Co_addLetter (nI j) (nI u) M = some M2 ∧ Fr [30] M M2 ∧ ∀ x, x ≤ u → M2.2 30 x = lN (cf (fun t => Wd (x - t) * c j t) x) := by
  unfold Co_addLetter
  rw [l_12, if_neg (by rw [nI_ltI (by omega) (by omega)]; omega)]
  obtain ⟨M2, g1, g2, g3⟩ := iter_0 (B := Co_addLetter_B7 (nI j))
    (fun k a => ∃ M1, a = (nI (u + 1 - k) - 1, M1) ∧ Fr [30] M M1 ∧ (∀ x, x < u + 1 - k → M1.2 30 x = lN (Wd x)) ∧ ∀ x, u + 1 - k ≤ x → x ≤ u → M1.2 30 x = lN (cf (fun t => Wd (x - t) * c j t) x))
    (fun M1 => Fr [30] M M1 ∧ ∀ x, x ≤ u → M1.2 30 x = lN (cf (fun t => Wd (x - t) * c j t) x))
    (u + 1) (by omega) (fun k a hk ha => by
      obtain ⟨M1, rfl, hF, h1, h2⟩ := ha
      left
      generalize hx : u - k = x
      have hnode : nI (u + 1 - k) - 1 = nI x := by rw [nI_pred1 (by omega)]; congr 1; omega
      have hT1 : TabK M1 N (u + 1) c := fun i s hi hs1 hs2 => by rw [(hF 29 (by decide)).2]; exact hT i s hi hs1 hs2
      obtain ⟨b, e1, rfl⟩ := iter_0 (B := Co_addLetter_B17 (nI j) (nI x) M1) (fun k a => a = (lN (cf (fun t => Wd (x - t) * c j t) k), nI (k + 1))) (fun b => b = lN (cf (fun t => Wd (x - t) * c j t) x)) x (by omega) (fun k a hk ha => by
        subst ha
        refine Or.inl ⟨(lN (cf (fun t => Wd (x - t) * c j t) (k + 1)), nI (k + 1 + 1)), ?_, rfl⟩
        unfold Co_addLetter_B17
        simp only
        rw [if_neg (by rw [nI_ltI (by omega) (by omega)]; omega), nI_sub (by omega), ck_in (by omega) (by omega), co_f hN hT1 (by omega) h0 hj (by omega), ix_nI (by omega), h1 (x - (k + 1)) (by omega)]
        simp only [Option.bind_some, nI_1]
        have b1 := cf_le (fun t => Wd (x - t) * c j t) k
        have b2 := Nat.mul_le_mul (hwb (x - (k + 1))) (hb j (k + 1) (by omega))
        rw [lN_mul, lN_add, capK (by omega)]
        rfl) (fun a ha => by
        subst ha
        refine ⟨_, ?_, rfl⟩
        unfold Co_addLetter_B17
        simp only
        rw [if_pos (by rw [nI_ltI (by omega) (by omega)]; omega)]) ((0 : Int64), (1 : Int32)) rfl
      refine ⟨(nI x - 1, u_l M1 30 x (lN (cf (fun t => Wd (x - t) * c j t) x))), ?_, u_l M1 30 x (lN (cf (fun t => Wd (x - t) * c j t) x)), by rw [show u + 1 - (k + 1) = x by omega], Fr.l 30 hF (by decide), fun y hy => ?_, fun y h3 h4 => ?_⟩
      · unfold Co_addLetter_B7
        simp only [hnode]
        rw [if_neg (nI_pos (by omega)), e1]
        simp only [Option.bind_some]
        rw [ck_in (by omega) (by omega), ix_nI (by omega)]
      · rw [u_l_k (by omega)]; exact h1 y (by omega)
      · by_cases hy : y = x
        · subst hy; rw [u_l_e]
        · rw [u_l_k hy]; exact h2 y (by omega) h4)
    (fun a ha => by
      obtain ⟨M1, rfl, hF, h1, h2⟩ := ha
      rw [show u + 1 - (u + 1) = 0 by omega] at h2 ⊢
      refine ⟨M1, ?_, hF, fun x hx => h2 x (by omega) hx⟩
      unfold Co_addLetter_B7
      simp only
      rw [if_pos (by decide)])
    (nI u, M) ⟨M, by rw [Nat.sub_zero, nI_pred1 (by omega)]; rfl, Fr.rf, fun x hx => hw x (by omega), fun x h1 h2 => by omega⟩
  rw [g1]
  exact ⟨M2, rfl, g2, g3⟩
theorem fill_30 (v : Int64) : ∃ M2, Fi_30 v M = some M2 ∧ Fr [30] M M2 ∧ ∀ x, x < 13 → M2.2 30 x = v := by
  unfold Fi_30
  obtain ⟨M2, g1, g2, g3⟩ := iter_0 (B := Fi_30_B6 v (Nat.toInt32 13))
    (fun k a => ∃ M1, a = (nI k, M1) ∧ Fr [30] M M1 ∧ ∀ x, x < k → M1.2 30 x = v) (fun M1 => Fr [30] M M1 ∧ ∀ x, x < 13 → M1.2 30 x = v) 13 (by omega) (fun k a hk ha => by
      obtain ⟨M1, rfl, hF, h1⟩ := ha
      refine Or.inl ⟨(nI (k + 1), u_l M1 30 k v), ?_, u_l M1 30 k v, rfl, Fr.l 30 hF (by decide), fun x hx => ?_⟩
      · unfold Fi_30_B6
        simp only
        rw [show Nat.toInt32 13 = nI 13 from rfl, if_neg (by rw [nI_leI (by omega) (by omega)]; omega), ck_in (by omega) (by omega), ix_nI (by omega), nI_1]
      · by_cases hy : x = k
        · subst hy; rw [u_l_e]
        · rw [u_l_k hy]; exact h1 x (by omega)) (fun a ha => by
      obtain ⟨M1, rfl, hF, h1⟩ := ha
      refine ⟨M1, ?_, hF, h1⟩
      unfold Fi_30_B6
      simp only
      rw [if_pos (by decide)]) ((0 : Int32), M) ⟨M, rfl, Fr.rf, fun x hx => by omega⟩
  rw [g1]
  exact ⟨M2, rfl, g2, g3⟩
theorem co_records (hW : WF N sg pt nm) (hK : NetK M N sg pt nm) {i u : Nat} (hi : i < N) (hu : u < 12) (hT : TabK M N (u + 1) c) (h0 : ∀ i, c i 0 = 0) (hb : ∀ i t, t ≤ 12 → c i t ≤ 1000000000) :
    ∃ M2, Co_recordsOf (nI i) (nI u) M = some (lN (wy c (pt i) 8 u), M2) ∧ Fr [30] M M2 := by
  have hN := hW.1
  unfold Co_recordsOf
  rw [if_neg (nI_pos (by omega)), l_12, if_pos (by rw [nI_leI (by omega) (by omega)]; omega)]
  obtain ⟨Ma, a1, a2, a3⟩ := fill_30 (M := M) 0
  rw [a1]
  simp only [Option.bind_some]
  rw [ck_t (by decide)]
  obtain ⟨Mb, g1, g2, g3⟩ := iter_0 (B := Co_recordsOf_B29 (nI i) (nI u))
    (fun k a => ∃ M1, a = (nI k, M1) ∧ Fr [30] M M1 ∧ ∀ x, x ≤ u → M1.2 30 x = lN (wy c (pt i) k x)) (fun M1 => Fr [30] M M1 ∧ ∀ x, x ≤ u → M1.2 30 x = lN (wy c (pt i) 8 x)) 8 (by omega) (fun k a hk ha => by
      obtain ⟨M1, rfl, hF, h1⟩ := ha
      left
      have hK1 : NetK M1 N sg pt nm := NetK_fr hF (by decide) hK
      have hT1 : TabK M1 N (u + 1) c := fun i s hi hs1 hs2 => by rw [(hF 29 (by decide)).2]; exact hT i s hi hs1 hs2
      cases hp : pt i k with
      | none =>
        refine ⟨(nI (k + 1), M1), ?_, M1, rfl, hF, fun x hx => ?_⟩
        · unfold Co_recordsOf_B29
          simp only
          rw [if_neg (by rw [l_8, nI_leI (by omega) (by omega)]; omega), kn_part hK1 hN hi hk, hp]
          simp only [Option.bind_some, enc_none, if_true, nI_1]
        · simp only [wy, hp]; exact h1 x hx
      | some j =>
        have hj := (hW.2.2.1 i k j hi hp).1
        obtain ⟨M2, e1, e2, e3⟩ := co_addLetter hN hj hu hT1 h0 hb (Wd := wy c (pt i) k) h1 (fun x => wy_le c (pt i) k x)
        refine ⟨(nI (k + 1), M2), ?_, M2, rfl, Fr.tr hF e2, fun x hx => ?_⟩
        · unfold Co_recordsOf_B29
          simp only
          rw [if_neg (by rw [l_8, nI_leI (by omega) (by omega)]; omega), kn_part hK1 hN hi hk, hp]
          simp only [Option.bind_some, enc_some]
          rw [if_neg (nI_neg6 (by omega)), e1]
          simp only [Option.bind_some, nI_1]
        · simp only [wy, hp]; exact e3 x hx) (fun a ha => by
      obtain ⟨M1, rfl, hF, h1⟩ := ha
      refine ⟨M1, ?_, hF, h1⟩
      unfold Co_recordsOf_B29
      simp only
      rw [if_pos (by decide)]) ((0 : Int32), u_l Ma 30 (0 : Int32).toNatClampNeg (1 : Int64)) ⟨_, rfl, Fr.l 30 a2 (by decide), fun x hx => by
      rw [show (0 : Int32).toNatClampNeg = 0 from rfl]
      simp only [wy]
      by_cases hx0 : x = 0
      · subst hx0; rw [u_l_e]; rfl
      · rw [u_l_k hx0, a3 x (by omega), if_neg hx0]; rfl⟩
  rw [g1]
  simp only [Option.bind_some]
  rw [ck_in (by omega) (by omega), ix_nI (by omega), g3 u (by omega)]
  exact ⟨Mb, rfl, g2⟩
theorem co_values (hW : WF N sg pt nm) (hK : NetK M N sg pt nm) {i s : Nat} (hi : i < N) (h1 : 1 ≤ s) (h2 : s ≤ 12) (hT : TabK M N s c) (h0 : ∀ i, c i 0 = 0) (hb : ∀ i t, t ≤ 12 → c i t ≤ 1000000000) :
    ∃ M2, Co_valuesBySmaller (nI i) (nI s) M = some (lN (CF sg pt c i s), M2) ∧ Fr [30] M M2 := by
  have hN := hW.1
  have hT' : TabK M N (s - 1 + 1) c := by rw [show s - 1 + 1 = s by omega]; exact hT
  obtain ⟨Mr, r1, r2⟩ := co_records hW hK hi (u := s - 1) (by omega) hT' h0 hb
  have hc := co_choices hW hK hi (u := s - 1) (by omega) hT' h0 hb
  unfold Co_valuesBySmaller
  rw [kn_sign hK hN hi]
  simp only [Option.bind_some]
  rw [nI_pred1 (a := s) (by omega), r1, hc]
  simp only [Option.bind_some]
  have e1 : (nI s = (1 : Int32)) ↔ s = 1 := by rw [l_1, nI_eq (by omega) (by omega)]
  have hok := hW.2.1 i hi
  unfold okSign at hok
  rcases hok with h | h | h | h | h | h | h | h | h
  · refine ⟨M, ?_, Fr.rf⟩
    by_cases hs : s = 1
    · simp [CF, h, e1, hs] <;> rfl
    · simp [CF, h, e1, hs] <;> rfl
  · refine ⟨M, ?_, Fr.rf⟩
    by_cases hs : s = 1
    · simp [CF, h, e1, hs] <;> rfl
    · simp [CF, h, e1, hs] <;> rfl
  · refine ⟨M, ?_, Fr.rf⟩
    by_cases hs : s = 1
    · simp [CF, h, e1, hs] <;> rfl
    · simp [CF, h, e1, hs] <;> rfl
  · refine ⟨M, ?_, Fr.rf⟩
    rw [h, if_neg (by decide), if_neg (by decide), if_neg (by decide), if_neg (by decide), if_neg (by decide), if_neg (by decide)]
    unfold CF
    rw [h, if_neg (by decide), if_neg (by decide), if_neg (by decide), if_neg (by decide), if_neg (by decide), if_neg (by decide)]; rfl
  · refine ⟨M, ?_, Fr.rf⟩
    rw [h, if_neg (by decide), if_neg (by decide), if_neg (by decide), if_neg (by decide), if_neg (by decide), if_neg (by decide)]
    unfold CF
    rw [h, if_neg (by decide), if_neg (by decide), if_neg (by decide), if_neg (by decide), if_neg (by decide), if_neg (by decide)]; rfl
  · refine ⟨Mr, ?_, r2⟩
    rw [h, if_neg (by decide), if_neg (by decide), if_neg (by decide), if_neg (by decide), if_neg (by decide), if_pos rfl]
    unfold CF
    rw [h, if_neg (by decide), if_neg (by decide), if_pos rfl]
  · refine ⟨M, ?_, Fr.rf⟩
    rw [h, if_neg (by decide), if_pos rfl]
    unfold CF
    rw [h, if_neg (by decide), if_pos rfl]
  · refine ⟨M, ?_, Fr.rf⟩
    rw [h, if_pos rfl, co_lists hW hK hi h1 h2 hT h0 hb h]
    rfl
  · refine ⟨M, ?_, Fr.rf⟩
    rw [h, if_neg (by decide), if_neg (by decide), if_neg (by decide), if_neg (by decide), if_neg (by decide), if_neg (by decide)]
    unfold CF
    rw [h, if_neg (by decide), if_neg (by decide), if_neg (by decide), if_neg (by decide), if_neg (by decide), if_neg (by decide)]; rfl
end CO
