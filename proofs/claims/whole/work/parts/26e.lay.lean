/-! standing, in the reference -/
/-- the two nodes behind a step of the reference's (0 to 10) -/
def cst (sg : Nat → Int32) (pt : Nat → Nat → Option Nat) (i k c : Nat) : Option (Nat × Nat) :=
  if sg i = 33 ∨ sg k = 46 then none else if c < 8 then (if sg i = 123 ∨ sg i = 91 then beh sg pt i k c else none) else if c = 8 then (if sg i = 42 then beh sg pt i k 0 else none) else (if sg i = 62 then beh sg pt i k (c - 9) else none)
/-- the step's number for a slot -/
def cOf (x : Int32) (s : Nat) : Nat := if x = 42 then 8 else if x = 62 then 9 + s else s
section LA
variable {M : QM} {N : Nat} {sg : Nat → Int32} {pt : Nat → Nat → Option Nat} {nm : Nat → Option Nat}
theorem not_mis {i k : Nat} (h : ¬ mis sg pt i k) (h1 : sg i ≠ 33) (h2 : sg k ≠ 46) : sg i = sg k := by
  apply Classical.byContradiction
  intro hne
  exact h ⟨fun z => z.elim h1 h2, Or.inl hne⟩
/-- a slot with parts on both sides: which signs, which slots -/
theorem beh_kind (hW : WF N sg pt nm) {i k s : Nat} (hi : i < N) (hk : k < N) (hm : ¬ mis sg pt i k) {q : Nat × Nat} (h : beh sg pt i k s = some q) :
    sg i ≠ 33 ∧ sg k ≠ 46 ∧ sg i = sg k ∧ (((sg i = 123 ∨ sg i = 91) ∧ s < 8) ∨ (sg i = 42 ∧ s = 0) ∨ (sg i = 62 ∧ s < 2)) := by
  have hs := (beh_some (sg := sg) (pt := pt) (i := i) (k := k) (s := s)).mp (by rw [h]; rfl)
  obtain ⟨h1, h2⟩ := hs
  obtain ⟨x, hx⟩ := Option.isSome_iff_exists.mp h1
  obtain ⟨y, hy⟩ := Option.isSome_iff_exists.mp h2
  have hs8 := (hW.2.2.1 i s x hi hx).2
  have e1 : sg i ≠ 33 := fun z => by
    have := hW.2.2.2.2.2.2 i hi (by rw [z]; decide) (by rw [z]; decide) (by rw [z]; decide) (by rw [z]; decide) s
    rw [hx] at this; cases this
  have e2 : sg k ≠ 46 := fun z => by
    have := hW.2.2.2.2.2.2 k hk (by rw [z]; decide) (by rw [z]; decide) (by rw [z]; decide) (by rw [z]; decide) s
    rw [hy] at this; cases this
  refine ⟨e1, e2, not_mis hm e1 e2, ?_⟩
  by_cases a : sg i = 42
  · refine Or.inr (Or.inl ⟨a, ?_⟩)
    apply Classical.byContradiction
    intro hne
    have := (hW.2.2.2.2.1 i hi a).2 s (by omega)
    rw [hx] at this; cases this
  · by_cases b : sg i = 62
    · refine Or.inr (Or.inr ⟨b, ?_⟩)
      apply Classical.byContradiction
      intro hne
      have := (hW.2.2.2.2.2.1 i hi b).2.2 s (by omega)
      rw [hx] at this; cases this
    · left
      refine ⟨?_, hs8⟩
      apply Classical.byContradiction
      intro hne
      have := hW.2.2.2.2.2.2 i hi a b (fun z => hne (Or.inl z)) (fun z => hne (Or.inr z)) s
      rw [hx] at this; cases this
theorem cst_of_beh (hW : WF N sg pt nm) {i k s : Nat} (hi : i < N) (hk : k < N) (hm : ¬ mis sg pt i k) {q : Nat × Nat} (h : beh sg pt i k s = some q) : cst sg pt i k (cOf (sg i) s) = some q ∧ cOf (sg i) s < 11 := by
  obtain ⟨e1, e2, e3, e4⟩ := beh_kind hW hi hk hm h
  unfold cst cOf
  rw [if_neg (fun z => z.elim e1 e2)]
  rcases e4 with ⟨e4, hs⟩ | ⟨e4, hs⟩ | ⟨e4, hs⟩
  · have n1 : sg i ≠ 42 := fun z => by rw [z] at e4; revert e4; decide
    have n2 : sg i ≠ 62 := fun z => by rw [z] at e4; revert e4; decide
    rw [if_neg n1, if_neg n2, if_pos hs, if_pos e4]
    exact ⟨h, by omega⟩
  · subst hs
    rw [if_pos e4, if_neg (by omega), if_pos rfl, if_pos e4]
    exact ⟨h, by omega⟩
  · have hne : sg i ≠ 42 := by rw [e4]; decide
    rw [if_neg hne, if_pos e4, if_neg (show ¬ 9 + s < 8 by omega), if_neg (show ¬ 9 + s = 8 by omega), if_pos e4, Nat.add_sub_cancel_left]
    exact ⟨h, by omega⟩
theorem beh_of_cst (hW : WF N sg pt nm) {i k c : Nat} (hi : i < N) (hk : k < N) (hm : ¬ mis sg pt i k) {q : Nat × Nat} (h : cst sg pt i k c = some q) : ∃ s, s < 8 ∧ beh sg pt i k s = some q ∧ c = cOf (sg i) s := by
  unfold cst at h
  by_cases h0 : sg i = 33 ∨ sg k = 46
  · rw [if_pos h0] at h; cases h
  rw [if_neg h0] at h
  by_cases h1 : c < 8
  · rw [if_pos h1] at h
    by_cases h2 : sg i = 123 ∨ sg i = 91
    · rw [if_pos h2] at h
      refine ⟨c, h1, h, ?_⟩
      unfold cOf
      have n1 : sg i ≠ 42 := fun z => by rw [z] at h2; revert h2; decide
      have n2 : sg i ≠ 62 := fun z => by rw [z] at h2; revert h2; decide
      rw [if_neg n1, if_neg n2]
    · rw [if_neg h2] at h; cases h
  · rw [if_neg h1] at h
    by_cases h2 : c = 8
    · rw [if_pos h2] at h
      by_cases h3 : sg i = 42
      · rw [if_pos h3] at h
        refine ⟨0, by omega, h, ?_⟩
        unfold cOf
        rw [if_pos h3, h2]
      · rw [if_neg h3] at h; cases h
    · rw [if_neg h2] at h
      by_cases h3 : sg i = 62
      · rw [if_pos h3] at h
        obtain ⟨-, -, -, e4⟩ := beh_kind hW hi hk hm h
        have hlt : c - 9 < 2 := by
          rcases e4 with ⟨e4, -⟩ | ⟨e4, -⟩ | ⟨-, e4⟩
          · exact absurd e4 (by rw [h3]; decide)
          · exact absurd e4 (by rw [h3]; decide)
          · exact e4
        refine ⟨c - 9, by omega, h, ?_⟩
        unfold cOf
        rw [if_neg (by rw [h3]; decide), if_pos h3]
        omega
      · rw [if_neg h3] at h; cases h
theorem mo_fits (hW : WF N sg pt nm) (hM : NetM M N sg pt nm) {i k : Nat} (hi : i < N) (hk : k < N) :
    (Mo_fitsAlone (nI i) (nI k) M = some 0 ∧ mis sg pt i k) ∨ (Mo_fitsAlone (nI i) (nI k) M = some 1 ∧ ¬ mis sg pt i k) := by
  have hN := hW.1
  unfold Mo_fitsAlone
  rw [ck_in (by omega) (by omega), ix_nI (by omega), hM.2.1 i hi, ck_in (by omega) (by omega), ix_nI (by omega), hM.2.1 k hk]
  by_cases h1 : sg i = 33
  · rw [if_pos h1]; exact Or.inr ⟨rfl, fun z => z.1 (Or.inl h1)⟩
  rw [if_neg h1]
  by_cases h2 : sg k = 46
  · rw [if_pos h2]; exact Or.inr ⟨rfl, fun z => z.1 (Or.inr h2)⟩
  rw [if_neg h2, ck_in (by omega) (by omega), ck_in (by omega) (by omega)]
  have hn : ¬ (sg i = 33 ∨ sg k = 46) := fun z => z.elim h1 h2
  by_cases h3 : sg i = sg k
  · rw [if_pos h3, ck_in (by omega) (by omega), if_neg (by rw [h3]; exact h2)]
    have hpt : ∀ a s, a < N → s < 8 → (M.1 3 (8 * a + s) < 0 ↔ ¬ has_ pt a s) := fun a s ha hs => by
      rw [mo_part hM ha hs]
      unfold has_
      cases hp : pt a s with
      | none => simp only [enc_none, Option.isSome_none]; decide
      | some j => simp only [enc_some, Option.isSome_some, not_true_eq_false, iff_false]; exact nI_pos (by have := (hW.2.2.1 a s j ha hp).1; omega)
    by_cases hb : sg i = 123 ∨ sg i = 91
    · have hbm : Mo_isBoth (sg i) M = some 1 := by
        unfold Mo_isBoth
        rcases hb with hb | hb
        · rw [if_pos hb]
        · rw [if_neg (by rw [hb]; decide), if_pos hb]
      obtain ⟨e, g1, g2⟩ := iter_0 (B := Mo_fitsAlone_B57 (nI i) (nI k) M)
        (fun n a => ∃ f : Int32, a = (f, nI n) ∧ ((f = 1 ∧ ∀ s, s < n → (sg i = 123 → has_ pt k s → has_ pt i s) ∧ (sg i = 91 → has_ pt i s → has_ pt k s)) ∨ (f = 0 ∧ ∃ s, s < n ∧ ((sg i = 123 ∧ has_ pt k s ∧ ¬ has_ pt i s) ∨ (sg i = 91 ∧ has_ pt i s ∧ ¬ has_ pt k s)))))
        (fun f => (f = 1 ∧ ∀ s, s < 8 → (sg i = 123 → has_ pt k s → has_ pt i s) ∧ (sg i = 91 → has_ pt i s → has_ pt k s)) ∨ (f = 0 ∧ ∃ s, s < 8 ∧ ((sg i = 123 ∧ has_ pt k s ∧ ¬ has_ pt i s) ∨ (sg i = 91 ∧ has_ pt i s ∧ ¬ has_ pt k s))))
        8 (by omega) (fun n a hn9 ha => by
          obtain ⟨f, rfl, hd⟩ := ha
          left
          have J : ∀ x5 s0 : Int32, (x5 = 0 ∧ ¬ has_ pt i n ∨ x5 = 1 ∧ has_ pt i n) → (s0 = 0 ∧ ¬ has_ pt k n ∨ s0 = 1 ∧ has_ pt k n) → ∃ a2, Mo_fitsAlone_L57_J118 (nI i) (nI k) f (nI n) x5 s0 M = some (.inr a2) ∧ ∃ f2 : Int32, a2 = (f2, nI (n + 1)) ∧ ((f2 = 1 ∧ ∀ s, s < n + 1 → (sg i = 123 → has_ pt k s → has_ pt i s) ∧ (sg i = 91 → has_ pt i s → has_ pt k s)) ∨ (f2 = 0 ∧ ∃ s, s < n + 1 ∧ ((sg i = 123 ∧ has_ pt k s ∧ ¬ has_ pt i s) ∨ (sg i = 91 ∧ has_ pt i s ∧ ¬ has_ pt k s)))) := by
            intro x5 s0 h5 h0
            unfold Mo_fitsAlone_L57_J118
            rw [nI_1, ck_in (by omega) (by omega), ix_nI (by omega), hM.2.1 i hi]
            rcases hd with ⟨hf, hd⟩ | ⟨hf, s, hs, hd⟩
            · rw [hf, if_neg (by decide)]
              have good : ((sg i = 123 → has_ pt k n → has_ pt i n) ∧ (sg i = 91 → has_ pt i n → has_ pt k n)) → ∃ f2 : Int32, ((1 : Int32), nI (n + 1)) = (f2, nI (n + 1)) ∧ ((f2 = 1 ∧ ∀ s, s < n + 1 → (sg i = 123 → has_ pt k s → has_ pt i s) ∧ (sg i = 91 → has_ pt i s → has_ pt k s)) ∨ (f2 = 0 ∧ ∃ s, s < n + 1 ∧ ((sg i = 123 ∧ has_ pt k s ∧ ¬ has_ pt i s) ∨ (sg i = 91 ∧ has_ pt i s ∧ ¬ has_ pt k s)))) := fun hgood => ⟨1, rfl, Or.inl ⟨rfl, fun s hs => by
                by_cases e : s = n
                · subst e; exact hgood
                · exact hd s (by omega)⟩⟩
              have bad : ((sg i = 123 ∧ has_ pt k n ∧ ¬ has_ pt i n) ∨ (sg i = 91 ∧ has_ pt i n ∧ ¬ has_ pt k n)) → ∃ f2 : Int32, ((0 : Int32), nI (n + 1)) = (f2, nI (n + 1)) ∧ ((f2 = 1 ∧ ∀ s, s < n + 1 → (sg i = 123 → has_ pt k s → has_ pt i s) ∧ (sg i = 91 → has_ pt i s → has_ pt k s)) ∨ (f2 = 0 ∧ ∃ s, s < n + 1 ∧ ((sg i = 123 ∧ has_ pt k s ∧ ¬ has_ pt i s) ∨ (sg i = 91 ∧ has_ pt i s ∧ ¬ has_ pt k s)))) := fun hbad => ⟨0, rfl, Or.inr ⟨rfl, n, by omega, hbad⟩⟩
              by_cases h123 : sg i = 123
              · rw [if_pos h123]
                have hne : sg i ≠ 91 := by rw [h123]; decide
                rcases h5 with ⟨h5, hi5⟩ | ⟨h5, hi5⟩
                · rw [if_pos h5]
                  rcases h0 with ⟨h0, hk0⟩ | ⟨h0, hk0⟩
                  · rw [if_pos h0]; exact ⟨_, rfl, good ⟨fun _ z => absurd z hk0, fun z => absurd z hne⟩⟩
                  · rw [if_neg (by rw [h0]; decide)]; exact ⟨_, rfl, bad (Or.inl ⟨h123, hk0, hi5⟩)⟩
                · rw [if_neg (by rw [h5]; decide)]; exact ⟨_, rfl, good ⟨fun _ _ => hi5, fun z => absurd z hne⟩⟩
              · rw [if_neg h123]
                have h91 : sg i = 91 := hb.resolve_left h123
                rcases h0 with ⟨h0, hk0⟩ | ⟨h0, hk0⟩
                · rw [if_pos h0]
                  rcases h5 with ⟨h5, hi5⟩ | ⟨h5, hi5⟩
                  · rw [if_pos h5]; exact ⟨_, rfl, good ⟨fun z => absurd z h123, fun _ z => absurd z hi5⟩⟩
                  · rw [if_neg (by rw [h5]; decide)]; exact ⟨_, rfl, bad (Or.inr ⟨h91, hi5, hk0⟩)⟩
                · rw [if_neg (by rw [h0]; decide)]; exact ⟨_, rfl, good ⟨fun z => absurd z h123, fun _ _ => hk0⟩⟩
            · rw [if_pos hf]
              exact ⟨_, rfl, 0, rfl, Or.inr ⟨rfl, s, by omega, hd⟩⟩
          have J2 : ∀ x5 : Int32, (x5 = 0 ∧ ¬ has_ pt i n ∨ x5 = 1 ∧ has_ pt i n) → ∃ a2, Mo_fitsAlone_L57_J96 (nI i) (nI k) f (nI n) x5 M = some (.inr a2) ∧ ∃ f2 : Int32, a2 = (f2, nI (n + 1)) ∧ ((f2 = 1 ∧ ∀ s, s < n + 1 → (sg i = 123 → has_ pt k s → has_ pt i s) ∧ (sg i = 91 → has_ pt i s → has_ pt k s)) ∨ (f2 = 0 ∧ ∃ s, s < n + 1 ∧ ((sg i = 123 ∧ has_ pt k s ∧ ¬ has_ pt i s) ∨ (sg i = 91 ∧ has_ pt i s ∧ ¬ has_ pt k s)))) := by
            intro x5 h5
            unfold Mo_fitsAlone_L57_J96
            rw [l_8, nI_mul, nI_add, ck_in (by omega) (by omega), ix_nI (by omega)]
            by_cases hk2 : has_ pt k n
            · rw [if_neg (fun z => (hpt k n hk hn9).mp z hk2)]; exact J x5 1 h5 (Or.inr ⟨rfl, hk2⟩)
            · rw [if_pos ((hpt k n hk hn9).mpr hk2)]; exact J x5 0 h5 (Or.inl ⟨rfl, hk2⟩)
          unfold Mo_fitsAlone_B57
          simp only
          rw [if_neg (by rw [l_8, nI_leI (by omega) (by omega)]; omega), ck_in (by omega) (by omega), ix_nI (by omega), hM.2.1 i hi, hbm]
          simp only [Option.bind_some]
          rw [if_neg (by decide), l_8, nI_mul, nI_add, ck_in (by omega) (by omega), ix_nI (by omega)]
          by_cases hi2 : has_ pt i n
          · rw [if_neg (fun z => (hpt i n hi hn9).mp z hi2)]; exact J2 1 (Or.inr ⟨rfl, hi2⟩)
          · rw [if_pos ((hpt i n hi hn9).mpr hi2)]; exact J2 0 (Or.inl ⟨rfl, hi2⟩))
        (fun a ha => by
          obtain ⟨f, rfl, hd⟩ := ha
          refine ⟨f, ?_, hd⟩
          unfold Mo_fitsAlone_B57
          rw [if_pos (show (8 : Int32) ≤ nI 8 by decide)])
        ((1 : Int32), (0 : Int32)) ⟨1, rfl, Or.inl ⟨rfl, fun s hs => by omega⟩⟩
      rw [g1]
      simp only [Option.bind_some]
      rcases g2 with ⟨rfl, g2⟩ | ⟨rfl, s, hs, g2⟩
      · right
        refine ⟨rfl, fun z => ?_⟩
        rcases z.2 with z | ⟨z0, s, z1, z2, z3⟩ | ⟨z0, s, z1, z2, z3⟩
        · exact z h3
        · exact z3 ((g2 s z1).1 z0 z2)
        · exact z3 ((g2 s z1).2 z0 z2)
      · left
        refine ⟨rfl, hn, Or.inr ?_⟩
        rcases g2 with ⟨a, b, c⟩ | ⟨a, b, c⟩
        · exact Or.inl ⟨a, s, hs, b, c⟩
        · exact Or.inr ⟨a, s, hs, b, c⟩
    · have hbm : Mo_isBoth (sg i) M = some 0 := by
        unfold Mo_isBoth
        rw [if_neg (fun z => hb (Or.inl z)), if_neg (fun z => hb (Or.inr z))]
      have e : Mo_fitsAlone_B57 (nI i) (nI k) M ((1 : Int32), (0 : Int32)) = some (.inl 1) := by
        unfold Mo_fitsAlone_B57
        simp only
        rw [if_neg (by decide), ck_in (by omega) (by omega), ix_nI (by omega), hM.2.1 i hi, hbm]
        rfl
      rw [show FU = 9999999 + 1 from rfl, iter_d e]
      right
      refine ⟨rfl, fun z => ?_⟩
      rcases z.2 with z | ⟨z, -⟩ | ⟨z, -⟩
      · exact z h3
      · exact hb (Or.inl z)
      · exact hb (Or.inr z)
  · rw [if_neg h3]
    exact Or.inl ⟨rfl, hn, Or.inl h3⟩
theorem mo_stepTo (hW : WF N sg pt nm) (hM : NetM M N sg pt nm) {i k c : Nat} (hi : i < N) (hk : k < N) (hc : c < 11) (hm : ¬ mis sg pt i k) : Mo_stepTo (nI i) (nI k) (nI c) M = some (encP (cst sg pt i k c)) := by
  have hN := hW.1
  have hneg : ∀ a s, a < N → s < 8 → (M.1 3 (8 * a + s) < 0 ↔ pt a s = none) := fun a s ha hs => by
    rw [mo_part hM ha hs]; exact enc_neg (fun j hj => by have := (hW.2.2.1 a s j ha hj).1; omega)
  unfold Mo_stepTo cst
  rw [ck_in (by omega) (by omega), ix_nI (by omega), hM.2.1 i hi, ck_in (by omega) (by omega), ix_nI (by omega), hM.2.1 k hk]
  by_cases h1 : sg i = 33
  · rw [if_pos h1, if_pos (Or.inl h1)]; rfl
  rw [if_neg h1]
  by_cases h2 : sg k = 46
  · rw [if_pos h2, if_pos (Or.inr h2)]; rfl
  rw [if_neg h2, if_neg (show ¬ (sg i = 33 ∨ sg k = 46) from fun z => z.elim h1 h2)]
  have h3 := not_mis hm h1 h2
  by_cases hc8 : c < 8
  · rw [l_8, if_neg (show ¬ nI 8 ≤ nI c by rw [nI_leI (by omega) (by omega)]; omega), if_pos hc8, nI_mul, nI_mul, nI_add, nI_add, ck_in (by omega) (by omega), ck_in (by omega) (by omega), ix_nI (by omega), ix_nI (by omega)]
    have J0 : Mo_stepTo_J75 (nI i) (nI k) (nI c) M = some (-6) := by
      unfold Mo_stepTo_J75 Mo_stepTo_J76
      rw [if_pos rfl]
    by_cases hb : sg i = 123 ∨ sg i = 91
    · have hbm : Mo_isBoth (sg i) M = some 1 := by
        unfold Mo_isBoth
        rcases hb with hb | hb
        · rw [if_pos hb]
        · rw [if_neg (by rw [hb]; decide), if_pos hb]
      rw [hbm, if_pos hb]
      simp only [Option.bind_some]
      rw [if_neg (by decide), J0]
      have n2 : ¬ (c = 0 ∧ sg i = 62) := fun z => by rw [z.2] at hb; revert hb; decide
      unfold beh
      cases hp : pt i c with
      | none => rw [if_pos ((hneg i c hi hc8).mpr hp)]; rfl
      | some a =>
        rw [if_neg (fun z => by rw [(hneg i c hi hc8).mp z] at hp; cases hp)]
        cases hq : pt k c with
        | none => rw [if_pos ((hneg k c hk hc8).mpr hq)]; rfl
        | some b =>
          rw [if_neg (fun z => by rw [(hneg k c hk hc8).mp z] at hq; cases hq)]
          unfold Mo_stepTo_J76
          rw [if_neg (by decide), l_8, nI_mul, nI_mul, nI_add, nI_add, ck_in (by omega) (by omega), ck_in (by omega) (by omega), ix_nI (by omega), ix_nI (by omega), mo_part hM hi hc8, mo_part hM hk hc8, hp, hq, enc_some, enc_some, l_60, nI_mul, nI_add]
          simp only [n2, if_false]
          rfl
    · have hbm : Mo_isBoth (sg i) M = some 0 := by
        unfold Mo_isBoth
        rw [if_neg (fun z => hb (Or.inl z)), if_neg (fun z => hb (Or.inr z))]
      rw [hbm, if_neg hb]
      simp only [Option.bind_some, if_true]
      rw [J0]
      rfl
  · rw [l_8, if_pos (show nI 8 ≤ nI c by rw [nI_leI (by omega) (by omega)]; omega), if_neg hc8]
    by_cases h8 : c = 8
    · rw [if_pos (show nI c = nI 8 by rw [h8]), if_pos h8]
      by_cases h42 : sg i = 42
      · rw [if_pos h42, if_pos h42]
        obtain ⟨a, ha⟩ := Option.isSome_iff_exists.mp (hW.2.2.2.2.1 i hi h42).1
        obtain ⟨b, hb⟩ := Option.isSome_iff_exists.mp (hW.2.2.2.2.1 k hk (by rw [← h3]; exact h42)).1
        have e1 := mo_part hM hi (show 0 < 8 by omega)
        have e2 := mo_part hM hk (show 0 < 8 by omega)
        rw [Nat.add_zero, ha, enc_some] at e1
        rw [Nat.add_zero, hb, enc_some] at e2
        rw [nI_mul, nI_mul, ck_in (by omega) (by omega), ck_in (by omega) (by omega), ix_nI (by omega), ix_nI (by omega), e1, e2, l_60, nI_mul, nI_add]
        unfold beh
        rw [ha, hb]
        have n2 : ¬ (True ∧ sg i = 62) := fun z => by rw [h42] at z; revert z; decide
        simp only
        rw [if_neg n2]
        rfl
      · rw [if_neg h42, if_neg h42]; rfl
    · rw [if_neg (show ¬ nI c = nI 8 by rw [nI_eq (by omega) (by omega)]; exact h8), if_neg h8]
      by_cases h62 : sg i = 62
      · rw [if_pos h62, if_pos h62]
        obtain ⟨a, ha⟩ := Option.isSome_iff_exists.mp (hW.2.2.2.2.2.1 i hi h62).1
        obtain ⟨b, hb⟩ := Option.isSome_iff_exists.mp (hW.2.2.2.2.2.1 k hk (by rw [← h3]; exact h62)).1
        obtain ⟨a2, ha2⟩ := Option.isSome_iff_exists.mp (hW.2.2.2.2.2.1 i hi h62).2.1
        obtain ⟨b2, hb2⟩ := Option.isSome_iff_exists.mp (hW.2.2.2.2.2.1 k hk (by rw [← h3]; exact h62)).2.1
        have e1 := mo_part hM hi (show 0 < 8 by omega)
        have e2 := mo_part hM hk (show 0 < 8 by omega)
        rw [Nat.add_zero, ha, enc_some] at e1
        rw [Nat.add_zero, hb, enc_some] at e2
        have e3 := mo_part hM hi (show 1 < 8 by omega)
        have e4 := mo_part hM hk (show 1 < 8 by omega)
        rw [ha2, enc_some] at e3
        rw [hb2, enc_some] at e4
        by_cases h9 : c = 9
        · rw [if_pos (show nI c = 9 by rw [h9]; rfl), h9, nI_mul, nI_mul, ck_in (by omega) (by omega), ck_in (by omega) (by omega), ix_nI (by omega), ix_nI (by omega), e1, e2, l_60, nI_mul, nI_add]
          unfold beh
          rw [show 9 - 9 = 0 from rfl, ha, hb]
          simp only
          rw [if_pos ⟨trivial, h62⟩]
          rfl
        · have h10 : c = 10 := by omega
          rw [if_neg (show ¬ nI c = 9 by rw [show (9 : Int32) = nI 9 from rfl, nI_eq (by omega) (by omega)]; exact h9), h10, l_1, nI_mul, nI_mul, nI_add, nI_add, ck_in (by omega) (by omega), ck_in (by omega) (by omega), ix_nI (by omega), ix_nI (by omega), e3, e4, l_60, nI_mul, nI_add]
          unfold beh
          rw [show 10 - 9 = 1 from rfl, ha2, hb2]
          simp only
          rw [if_neg (by omega)]
          rfl
      · rw [if_neg h62, if_neg h62]; rfl
end LA
