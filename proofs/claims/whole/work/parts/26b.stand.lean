/-! standing, in the program -/
theorem nI_bv (m : Nat) : (nI m).toBitVec = BitVec.ofNat 32 m := rfl
theorem bit_sub (m1 m2 : Nat) (h1 : m1 < 256) (h2 : m2 < 256) : (nI m1 &&& (nI m2 ^^^ (-1)) = 0) ↔ ∀ s, s < 8 → m1.testBit s = true → m2.testBit s = true := by
  have hb : ∀ s, (nI m1 &&& (nI m2 ^^^ (-1))).toBitVec.getLsbD s = (decide (s < 32) && (m1.testBit s && !(m2.testBit s))) := by
    intro s
    rw [Int32.toBitVec_and, Int32.toBitVec_xor, nI_bv, nI_bv, show (-1 : Int32).toBitVec = BitVec.allOnes 32 from rfl, BitVec.getLsbD_and, BitVec.getLsbD_xor, BitVec.getLsbD_ofNat, BitVec.getLsbD_ofNat, BitVec.getLsbD_allOnes]
    by_cases hs : s < 32
    · simp [hs]
    · simp [hs]
  constructor
  · intro h s hs hm
    have e := hb s
    rw [h, show (0 : Int32).toBitVec = 0#32 from rfl, BitVec.getLsbD_zero, hm] at e
    cases h3 : m2.testBit s with
    | true => rfl
    | false => rw [h3] at e; simp at e; omega
  · intro h
    apply Int32.toBitVec_inj.mp
    apply BitVec.eq_of_getLsbD_eq
    intro s hs
    rw [hb s, show (0 : Int32).toBitVec = 0#32 from rfl, BitVec.getLsbD_zero]
    by_cases h8 : s < 8
    · cases h3 : m1.testBit s with
      | false => simp
      | true => rw [h s h8 h3]; simp
    · rw [Nat.testBit_lt_two_pow (x := m1) (i := s) (Nat.lt_of_lt_of_le h1 (Nat.pow_le_pow_right (n := 2) (by omega) (show 8 ≤ s by omega)))]
      simp
theorem and_nI (m1 m2 : Nat) : nI m1 &&& nI m2 = nI (m1 &&& m2) := by
  apply Int32.toBitVec_inj.mp
  rw [Int32.toBitVec_and, nI_bv, nI_bv, nI_bv]
  apply BitVec.eq_of_getLsbD_eq
  intro s hs
  rw [BitVec.getLsbD_and, BitVec.getLsbD_ofNat, BitVec.getLsbD_ofNat, BitVec.getLsbD_ofNat, Nat.testBit_and]
  simp [hs]
theorem shr_0 (m s : Nat) (hm : m < 256) (hs : s < 8) (h : nI m >>> (nI s &&& 31) = 0) : ∀ t, t < 8 → s ≤ t → m.testBit t = false := by
  have h2 : ∀ m : Nat, m < 256 → ∀ s : Nat, s < 8 → nI m >>> (nI s &&& 31) = 0 → ∀ t : Nat, t < 8 → s ≤ t → m.testBit t = false := by decide +kernel
  exact h2 m hm s hs h
theorem div_60 (i k : Nat) (hi : i < 60) (hk : k < 60) : nI (60 * i + k) / 60 = nI i ∧ nI (60 * i + k) - nI (60 * i + k) / 60 * 60 = nI k := by
  have h : ∀ i : Nat, i < 60 → ∀ k : Nat, k < 60 → nI (60 * i + k) / 60 = nI i ∧ nI (60 * i + k) - nI (60 * i + k) / 60 * 60 = nI k := by decide +kernel
  exact h i hi k hk
theorem l_NW : (1000000 : Int32) = nI 1000000 := rfl
theorem l_3600 : (3600 : Int32) = nI 3600 := rfl
section ST
variable {M : QM} {N : Nat} {sg : Nat → Int32} {pt : Nat → Nat → Option Nat} {nm : Nat → Option Nat}
theorem st_pair {p : Nat} (hp : p < 3600) : St_stepsOfPair (nI p) M = some (M.1 15 p) := by
  unfold St_stepsOfPair
  rw [if_neg (nI_pos (by omega)), l_3600, if_neg (by rw [nI_leI (by omega) (by omega)]; omega), ck_in (by omega) (by omega), ix_nI (by omega)]
theorem st_steps {i k : Nat} (hi : i < 60) (hk : k < 60) : St_stepsOf (nI i) (nI k) M = some (M.1 15 (60 * i + k)) := by
  unfold St_stepsOf
  rw [l_60, nI_mul, nI_add, Nat.mul_comm i 60, st_pair (by omega)]
  rfl
theorem st_set {i k : Nat} {v : Int32} (hi : i < 60) (hk : k < 60) : St_setSteps (nI i) (nI k) v M = some (u_i M 15 (60 * i + k) v) := by
  unfold St_setSteps
  rw [l_60, nI_mul, nI_add, Nat.mul_comm i 60, if_neg (nI_pos (by omega)), l_3600, if_neg (by rw [nI_leI (by omega) (by omega)]; omega), ck_in (by omega) (by omega), ix_nI (by omega)]
theorem st_fit (hW : WF N sg pt nm) (hK : NetK M N sg pt nm) {i k : Nat} (hi : i < N) (hk : k < N) :
    (St_fitByThemselves (nI i) (nI k) M = some 0 ∧ mis sg pt i k) ∨ (St_fitByThemselves (nI i) (nI k) M = some 1 ∧ ¬ mis sg pt i k) := by
  have hN := hW.1
  obtain ⟨m1, a1, a2, a3⟩ := kn_slots hK hN hi
  obtain ⟨m2, b1, b2, b3⟩ := kn_slots hK hN hk
  unfold St_fitByThemselves
  rw [kn_sign hK hN hi, kn_sign hK hN hk, a2, b2]
  simp only [Option.bind_some]
  unfold mis has_
  by_cases h1 : sg i = 33
  · rw [if_pos h1]; exact Or.inr ⟨rfl, fun z => z.1 (Or.inl h1)⟩
  rw [if_neg h1]
  by_cases h2 : sg k = 46
  · rw [if_pos h2]; exact Or.inr ⟨rfl, fun z => z.1 (Or.inr h2)⟩
  rw [if_neg h2]
  have hn : ¬ (sg i = 33 ∨ sg k = 46) := fun z => z.elim h1 h2
  by_cases h3 : sg i = sg k
  · rw [if_pos h3]
    by_cases h4 : sg i = 123
    · rw [if_pos h4]
      by_cases h5 : nI m2 &&& (nI m1 ^^^ (-1)) = 0
      · rw [if_pos h5]
        have h6 := (bit_sub m2 m1 b1 a1).mp h5
        refine Or.inr ⟨rfl, fun z => ?_⟩
        rcases z.2 with z | ⟨-, s, z1, z2, z3⟩ | ⟨z, -⟩
        · exact z h3
        · exact z3 (by rw [← a3 s z1]; exact h6 s z1 (by rw [b3 s z1]; exact z2))
        · rw [h4] at z; exact absurd z (by decide)
      · rw [if_neg h5]
        refine Or.inl ⟨rfl, hn, Or.inr (Or.inl ⟨h4, ?_⟩)⟩
        apply Classical.byContradiction
        intro hc
        apply h5
        rw [bit_sub m2 m1 b1 a1]
        intro s hs hb
        apply Classical.byContradiction
        intro hb2
        exact hc ⟨s, hs, by rw [← b3 s hs]; exact hb, by rw [← a3 s hs]; exact hb2⟩
    · rw [if_neg h4]
      by_cases h7 : sg i = 91
      · rw [if_pos h7]
        by_cases h5 : nI m1 &&& (nI m2 ^^^ (-1)) = 0
        · rw [if_pos h5]
          have h6 := (bit_sub m1 m2 a1 b1).mp h5
          refine Or.inr ⟨rfl, fun z => ?_⟩
          rcases z.2 with z | ⟨z, -⟩ | ⟨-, s, z1, z2, z3⟩
          · exact z h3
          · exact h4 z
          · exact z3 (by rw [← b3 s z1]; exact h6 s z1 (by rw [a3 s z1]; exact z2))
        · rw [if_neg h5]
          refine Or.inl ⟨rfl, hn, Or.inr (Or.inr ⟨h7, ?_⟩)⟩
          apply Classical.byContradiction
          intro hc
          apply h5
          rw [bit_sub m1 m2 a1 b1]
          intro s hs hb
          apply Classical.byContradiction
          intro hb2
          exact hc ⟨s, hs, by rw [← a3 s hs]; exact hb, by rw [← b3 s hs]; exact hb2⟩
      · rw [if_neg h7]
        refine Or.inr ⟨rfl, fun z => ?_⟩
        rcases z.2 with z | ⟨z, -⟩ | ⟨z, -⟩
        · exact z h3
        · exact h4 z
        · exact h7 z
  · rw [if_neg h3]
    exact Or.inl ⟨rfl, hn, Or.inl h3⟩
def encP (x : Option (Nat × Nat)) : Int32 := match x with
  | none => -6
  | some q => nI (60 * q.1 + q.2)
theorem st_behind (hW : WF N sg pt nm) (hK : NetK M N sg pt nm) {i k s : Nat} (hi : i < N) (hk : k < N) (hs : s < 8) : St_pairBehind (nI (60 * i + k)) (nI s) M = some (encP (beh sg pt i k s)) := by
  have hN := hW.1
  obtain ⟨d1, d2⟩ := div_60 i k (by omega) (by omega)
  unfold St_pairBehind
  rw [if_pos (nI_pos' (by omega)), d2, d1, kn_part hK hN hi hs, kn_part hK hN hk hs, kn_sign hK hN hi]
  simp only [Option.bind_some]
  unfold beh
  cases h1 : pt i s with
  | none => simp only [enc_none, if_true]; rfl
  | some a =>
    have ha := (hW.2.2.1 i s a hi h1).1
    rw [enc_some, if_neg (nI_neg6 (by omega))]
    cases h2 : pt k s with
    | none => simp only [enc_none, if_true]; rfl
    | some b =>
      have hb := (hW.2.2.1 k s b hk h2).1
      rw [enc_some, if_neg (nI_neg6 (by omega))]
      have e0 : (nI s = 0) ↔ s = 0 := by rw [l_0, nI_eq (by omega) (by omega)]
      have J0 : St_pairBehind_J75 (nI a) (nI b) 0 M = some (nI (60 * a + b)) := by
        unfold St_pairBehind_J75
        rw [if_pos rfl, l_60, nI_mul, nI_add, Nat.mul_comm a 60]
      have J1 : St_pairBehind_J75 (nI a) (nI b) 1 M = some (nI (60 * b + a)) := by
        unfold St_pairBehind_J75
        rw [if_neg (by decide), l_60, nI_mul, nI_add, Nat.mul_comm b 60]
      unfold St_pairBehind_J74
      rw [J0, J1]
      by_cases hs0 : s = 0
      · rw [if_pos (e0.mpr hs0)]
        by_cases hf : sg i = 62
        · rw [if_pos hf]; simp only [hs0, hf, and_self, if_true]; rfl
        · rw [if_neg hf]; simp only [hf, and_false, if_false]; rfl
      · rw [if_neg (fun z => hs0 (e0.mp z))]; simp only [hs0, false_and, if_false]; rfl
def fwB (sg : Nat → Int32) (pt : Nat → Nat → Option Nat) (g : Nat → Nat → Nat) (i k : Nat) : Nat → Nat
  | 0 => 1000000
  | m + 1 => min (fwB sg pt g i k m) (match beh sg pt i k m with
    | none => 1000000
    | some q => g q.1 q.2)
theorem fwB_top {g : Nat → Nat → Nat} {i k m : Nat} : fwB sg pt g i k m ≤ 1000000 := by
  induction m with
  | zero => exact Nat.le_refl _
  | succ m ih => simp only [fwB]; omega
theorem fwB_le {g : Nat → Nat → Nat} {i k m s a b : Nat} (hs : s < m) (h : beh sg pt i k s = some (a, b)) : fwB sg pt g i k m ≤ g a b := by
  induction m with
  | zero => omega
  | succ m ih =>
    simp only [fwB]
    by_cases e : s = m
    · subst e; rw [h]; simp only; omega
    · have := ih (by omega); omega
theorem fwB_at {g : Nat → Nat → Nat} {i k m : Nat} (h : fwB sg pt g i k m < 1000000) : ∃ s a b, s < m ∧ beh sg pt i k s = some (a, b) ∧ fwB sg pt g i k m = g a b := by
  induction m with
  | zero => simp only [fwB] at h; omega
  | succ m ih =>
    simp only [fwB] at h ⊢
    cases hb : beh sg pt i k m with
    | none =>
      rw [hb] at h
      simp only at h ⊢
      obtain ⟨s, a, b, h3, h4, h5⟩ := ih (by omega)
      exact ⟨s, a, b, by omega, h4, by omega⟩
    | some q =>
      rw [hb] at h
      simp only at h ⊢
      by_cases hc : g q.1 q.2 ≤ fwB sg pt g i k m
      · exact ⟨m, q.1, q.2, by omega, hb, by omega⟩
      · obtain ⟨s, a, b, h3, h4, h5⟩ := ih (by have := @fwB_top sg pt g i k m; omega)
        exact ⟨s, a, b, by omega, h4, by omega⟩
theorem fwB_mono {g h : Nat → Nat → Nat} {i k m : Nat} (e : ∀ a b, g a b ≤ h a b) : fwB sg pt g i k m ≤ fwB sg pt h i k m := by
  induction m with
  | zero => exact Nat.le_refl _
  | succ m ih =>
    simp only [fwB]
    cases beh sg pt i k m with
    | none => simp only; omega
    | some q => have := e q.1 q.2; simp only; omega
theorem fwB_stop {g : Nat → Nat → Nat} {i k m n : Nat} (hmn : m ≤ n) (h : ∀ s, m ≤ s → s < n → beh sg pt i k s = none) : fwB sg pt g i k n = fwB sg pt g i k m := by
  obtain ⟨j, rfl⟩ : ∃ j, n = m + j := ⟨n - m, by omega⟩
  clear hmn
  induction j with
  | zero => rfl
  | succ j ih =>
    rw [show m + (j + 1) = (m + j) + 1 by omega]
    simp only [fwB]
    rw [h (m + j) (by omega) (by omega), ih (fun s h1 h2 => h s h1 (by omega))]
    have := @fwB_top sg pt g i k m
    simp only
    omega
/-- the table of the steps -/
def Tg (M : QM) (N : Nat) (g : Nat → Nat → Nat) : Prop := ∀ i k, i < N → k < N → M.1 15 (60 * i + k) = nI (g i k) ∧ g i k ≤ 1000000
theorem st_fewest (hW : WF N sg pt nm) (hK : NetK M N sg pt nm) {g : Nat → Nat → Nat} (hg : Tg M N g) {i k : Nat} (hi : i < N) (hk : k < N) : St_fewestBehind (nI i) (nI k) M = some (nI (fwB sg pt g i k 8)) := by
  have hN := hW.1
  obtain ⟨m1, a1, a2, a3⟩ := kn_slots hK hN hi
  obtain ⟨m2, b1, b2, b3⟩ := kn_slots hK hN hk
  have hm : m1 &&& m2 < 256 := Nat.lt_of_le_of_lt Nat.and_le_left a1
  have hbit : ∀ s, s < 8 → ((m1 &&& m2).testBit s = true ↔ (beh sg pt i k s).isSome = true) := fun s hs => by
    rw [beh_some, Nat.testBit_and, a3 s hs, b3 s hs, Bool.and_eq_true]
  unfold St_fewestBehind
  rw [a2, b2]
  simp only [Option.bind_some]
  rw [and_nI m1 m2]
  generalize m1 &&& m2 = m at hm hbit
  obtain ⟨b, g1, rfl⟩ := iter_0 (B := St_fewestBehind_B25 (nI i) (nI k) (nI m) M) (fun n a => a = (nI (fwB sg pt g i k n), nI n)) (fun b => b = nI (fwB sg pt g i k 8)) 8 (by omega) (fun n a hn ha => by
    subst ha
    have ht := @fwB_top sg pt g i k n
    unfold St_fewestBehind_B25
    simp only
    rw [if_neg (by rw [l_8, nI_leI (by omega) (by omega)]; omega)]
    by_cases hz : nI m >>> (nI n &&& 31) = 0
    · right
      rw [if_pos hz]
      refine ⟨_, rfl, ?_⟩
      have h0 := shr_0 m n hm hn hz
      rw [fwB_stop (m := n) (n := 8) (by omega) (fun s hs1 hs2 => by
        cases hb : beh sg pt i k s with
        | none => rfl
        | some q =>
          have := (hbit s hs2).mpr (by rw [hb]; rfl)
          rw [h0 s hs2 hs1] at this
          cases this)]
    · left
      rw [if_neg hz, l_1]
      by_cases hb : m.testBit n = true
      · rw [if_pos ((bit_and m n hm hn).mpr hb)]
        obtain ⟨⟨a, c⟩, hq⟩ := Option.isSome_iff_exists.mp ((hbit n hn).mp hb)
        obtain ⟨ha, hc⟩ := beh_lt hW hi hk hq
        obtain ⟨e1, e2⟩ := hg a c ha hc
        rw [l_60, nI_mul, nI_add, Nat.mul_comm i 60, st_behind hW hK hi hk hn, hq]
        simp only [Option.bind_some, encP]
        rw [st_pair (by omega), e1]
        simp only [Option.bind_some]
        refine ⟨(nI (fwB sg pt g i k (n + 1)), nI (n + 1)), ?_, rfl⟩
        rw [min_i (by omega) (by omega), nI_add]
        simp only [fwB, hq]
      · rw [if_neg (fun z => hb ((bit_and m n hm hn).mp z))]
        refine ⟨(nI (fwB sg pt g i k (n + 1)), nI (n + 1)), ?_, rfl⟩
        rw [nI_add]
        have hq : beh sg pt i k n = none := by
          cases h9 : beh sg pt i k n with
          | none => rfl
          | some q => exact absurd ((hbit n hn).mpr (by rw [h9]; rfl)) hb
        simp only [fwB, hq]
        rw [show min (fwB sg pt g i k n) 1000000 = fwB sg pt g i k n by omega]) (fun a ha => by
    subst ha
    refine ⟨_, ?_, rfl⟩
    unfold St_fewestBehind_B25
    rw [if_pos (show (8 : Int32) ≤ nI 8 by decide)]) ((1000000 : Int32), (0 : Int32)) rfl
  rw [g1]
  rfl
end ST
