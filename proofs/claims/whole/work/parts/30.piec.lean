/-! PIECES -/
section PC1
variable {N : Nat} {sg : Nat → Int32} {pt : Nat → Nat → Option Nat} {nm : Nat → Option Nat}
theorem mis_self {i : Nat} : ¬ mis sg pt i i := by
  rintro ⟨-, h | ⟨-, s, -, h1, h2⟩ | ⟨-, s, -, h1, h2⟩⟩
  · exact h rfl
  · exact h2 h1
  · exact h2 h1
theorem beh_inv {i k s a b : Nat} (h : beh sg pt i k s = some (a, b)) : ∃ x y, pt i s = some x ∧ pt k s = some y ∧ ((s = 0 ∧ sg i = 62 ∧ a = y ∧ b = x) ∨ (¬ (s = 0 ∧ sg i = 62) ∧ a = x ∧ b = y)) := by
  unfold beh at h
  cases h1 : pt i s with
  | none => rw [h1] at h; cases h
  | some x =>
    cases h2 : pt k s with
    | none => rw [h1, h2] at h; cases h
    | some y =>
      rw [h1, h2] at h
      simp only at h
      by_cases c : s = 0 ∧ sg i = 62
      · rw [if_pos c] at h; cases h; exact ⟨_, _, rfl, rfl, Or.inl ⟨c.1, c.2, rfl, rfl⟩⟩
      · rw [if_neg c] at h; cases h; exact ⟨_, _, rfl, rfl, Or.inr ⟨c, rfl, rfl⟩⟩
theorem beh_mk {i k s x y : Nat} (h1 : pt i s = some x) (h2 : pt k s = some y) : beh sg pt i k s = if s = 0 ∧ sg i = 62 then some (y, x) else some (x, y) := by
  unfold beh
  rw [h1, h2]
theorem My_refl (i : Nat) : My sg pt i i := by
  intro r
  induction r generalizing i with
  | zero => exact mis_self
  | succ r ih =>
    rintro (h | ⟨s, a, b, hs, hb, hd⟩)
    · exact mis_self h
    · obtain ⟨x, y, h1, h2, h3⟩ := beh_inv hb
      have hxy : x = y := by rw [h1] at h2; exact Option.some.inj h2
      rcases h3 with ⟨-, -, e1, e2⟩ | ⟨-, e1, e2⟩
      · subst e1 e2 hxy; exact ih _ hd
      · subst e1 e2 hxy; exact ih _ hd
theorem same_sign {i j k : Nat} (h1 : ¬ mis sg pt i j) (h2 : ¬ mis sg pt j k) (hi : sg i ≠ 33) (hk : sg k ≠ 46) : sg i = sg j ∧ sg j = sg k := by
  by_cases hj : sg j = 46
  · have : sg j = sg k := not_mis h2 (by rw [hj]; decide) hk
    exact absurd (this.symm.trans hj) hk
  · have e1 := not_mis h1 hi hj
    exact ⟨e1, not_mis h2 (fun h => hi (e1.trans h)) hk⟩
theorem Dn_tr (hW : WF N sg pt nm) : ∀ (r i j k : Nat), i < N → j < N → k < N → My sg pt i j → My sg pt j k → ¬ Dn sg pt r i k := by
  have hm : ∀ i j k : Nat, My sg pt i j → My sg pt j k → ¬ mis sg pt i k := by
    intro i j k h1 h2 h3
    have g1 : ¬ mis sg pt i j := h1 0
    have g2 : ¬ mis sg pt j k := h2 0
    obtain ⟨h4, h5⟩ := h3
    have hi : sg i ≠ 33 := fun h => h4 (Or.inl h)
    have hk : sg k ≠ 46 := fun h => h4 (Or.inr h)
    obtain ⟨e1, e2⟩ := same_sign g1 g2 hi hk
    have n1 : ¬ (sg i = 33 ∨ sg j = 46) := fun h => h.elim hi (fun h => hk (e2 ▸ h))
    have n2 : ¬ (sg j = 33 ∨ sg k = 46) := fun h => h.elim (fun h => hi (e1.trans h)) hk
    rcases h5 with h | ⟨c, s, hs, a1, a2⟩ | ⟨c, s, hs, a1, a2⟩
    · exact h (e1.trans e2)
    · by_cases hj : has_ pt j s
      · exact g1 ⟨n1, Or.inr (Or.inl ⟨c, s, hs, hj, a2⟩)⟩
      · exact g2 ⟨n2, Or.inr (Or.inl ⟨e1 ▸ c, s, hs, a1, hj⟩)⟩
    · by_cases hj : has_ pt j s
      · exact g2 ⟨n2, Or.inr (Or.inr ⟨e1 ▸ c, s, hs, hj, a2⟩)⟩
      · exact g1 ⟨n1, Or.inr (Or.inr ⟨c, s, hs, a1, hj⟩)⟩
  intro r
  induction r with
  | zero => intro i j k _ _ _ h1 h2; exact hm i j k h1 h2
  | succ r ih =>
    intro i j k hi hj hk h1 h2
    rintro (h | ⟨s, a, b, hs, hb, hd⟩)
    · exact hm i j k h1 h2 h
    · have g1 : ¬ mis sg pt i j := h1 0
      have g2 : ¬ mis sg pt j k := h2 0
      obtain ⟨b1, b2, b3, b4⟩ := beh_kind hW hi hk (hm i j k h1 h2) hb
      obtain ⟨e1, e2⟩ := same_sign g1 g2 b1 b2
      have n1 : ¬ (sg i = 33 ∨ sg j = 46) := fun h => h.elim b1 (fun h => b2 (e2 ▸ h))
      have n2 : ¬ (sg j = 33 ∨ sg k = 46) := fun h => h.elim (fun h => b1 (e1.trans h)) b2
      obtain ⟨x, y, p1, p2, p3⟩ := beh_inv hb
      have hz : has_ pt j s := by
        apply Classical.byContradiction
        intro hz
        rcases b4 with ⟨c | c, -⟩ | ⟨c, c2⟩ | ⟨c, c2⟩
        · exact g2 ⟨n2, Or.inr (Or.inl ⟨e1 ▸ c, s, hs, by rw [has_, p2]; rfl, hz⟩)⟩
        · exact g1 ⟨n1, Or.inr (Or.inr ⟨c, s, hs, by rw [has_, p1]; rfl, hz⟩)⟩
        · subst c2; exact hz (hW.2.2.2.2.1 j hj (e1 ▸ c)).1
        · have h62 := hW.2.2.2.2.2.1 j hj (e1 ▸ c)
          have : s = 0 ∨ s = 1 := by omega
          rcases this with rfl | rfl
          · exact hz h62.1
          · exact hz h62.2.1
      obtain ⟨z, hz⟩ := Option.isSome_iff_exists.mp hz
      have q1 := beh_mk (sg := sg) p1 hz
      have q2 := beh_mk (sg := sg) hz p2
      have lx := (hW.2.2.1 i s x hi p1).1
      have ly := (hW.2.2.1 k s y hk p2).1
      have lz := (hW.2.2.1 j s z hj hz).1
      rcases p3 with ⟨c1, c2, c3, c4⟩ | ⟨c1, c3, c4⟩
      · subst c3 c4
        rw [if_pos ⟨c1, c2⟩] at q1
        rw [if_pos ⟨c1, e1 ▸ c2⟩] at q2
        exact ih a z b ly lz lx (fun q d => h2 (q + 1) (Or.inr ⟨s, _, _, hs, q2, d⟩)) (fun q d => h1 (q + 1) (Or.inr ⟨s, _, _, hs, q1, d⟩)) hd
      · subst c3 c4
        rw [if_neg c1] at q1
        rw [if_neg (fun h => c1 ⟨h.1, e1.trans h.2⟩)] at q2
        exact ih a z b lx lz ly (fun q d => h1 (q + 1) (Or.inr ⟨s, _, _, hs, q1, d⟩)) (fun q d => h2 (q + 1) (Or.inr ⟨s, _, _, hs, q2, d⟩)) hd
/-- alike -/
def Al (sg : Nat → Int32) (pt : Nat → Nat → Option Nat) (i k : Nat) : Prop := My sg pt i k ∧ My sg pt k i
theorem Al_tr (hW : WF N sg pt nm) {i j k : Nat} (hi : i < N) (hj : j < N) (hk : k < N) (h1 : Al sg pt i j) (h2 : Al sg pt j k) : Al sg pt i k :=
  ⟨fun r => Dn_tr hW r i j k hi hj hk h1.1 h2.1, fun r => Dn_tr hW r k j i hk hj hi h2.2 h1.2⟩
end PC1
theorem bl_eq {p q : Prop} (h : p ↔ q) : bl p = bl q := by rw [propext h]
theorem tot_congr {f g : Nat → Nat} {n : Nat} (h : ∀ k, k < n → f k = g k) : tot f n = tot g n := by
  induction n with
  | zero => rfl
  | succ n ih => rw [tot_s, tot_s, ih (fun k hk => h k (by omega)), h n (by omega)]
theorem tot_one {f g : Nat → Nat} {n k0 : Nat} (hk : k0 < n) (h : ∀ k, k < n → k ≠ k0 → f k = g k) (h0 : f k0 = g k0 + 1) : tot f n = tot g n + 1 := by
  induction n with
  | zero => omega
  | succ n ih =>
    rw [tot_s, tot_s]
    by_cases e : k0 = n
    · subst e
      rw [tot_congr (f := f) (g := g) (fun k hk => h k (by omega) (by omega)), h0]
      omega
    · rw [ih (by omega) (fun k hk => h k (by omega)), h n (by omega) (by omega)]
      omega
theorem tot_0 {f : Nat → Nat} {n : Nat} (h : ∀ k, k < n → f k = 0) : tot f n = 0 := by
  induction n with
  | zero => rfl
  | succ n ih => rw [tot_s, ih (fun k hk => h k (by omega)), h n (by omega)]
theorem tot_c1 (n : Nat) : tot (fun _ => 1) n = n := by
  induction n with
  | zero => rfl
  | succ n ih => rw [tot_s, ih]
theorem bl_tot_lt {p : Nat → Prop} {n x : Nat} (hx : x < n) (h : ¬ p x) : tot (fun k => bl (p k)) n < n := by
  have h1 := tot_lt (f := fun k => bl (p k)) (g := fun _ => 1) (n := n) (i := x) (fun _ _ => bl_le) hx (by show bl (p x) < 1; rw [bl_0 h]; omega)
  rw [tot_c1] at h1
  exact h1
/-- the firsts of a list and the firsts by number are as many -/
theorem firsts_eq {E : Nat → Nat → Prop} {N m : Nat} {L : Nat → Nat} {H : Nat → Prop} (hrf : ∀ i, i < N → E i i) (hsy : ∀ i k, i < N → k < N → E i k → E k i) (htr : ∀ i j k, i < N → j < N → k < N → E i j → E j k → E i k)
    (hL : ∀ r, r < m → L r < N ∧ H (L r)) (hH : ∀ k, k < N → H k → ∃ r, r < m ∧ L r = k) :
    tot (fun r => bl (∀ q, q < r → ¬ E (L q) (L r))) m = tot (fun k => bl (H k ∧ ∀ j, j < k → H j → ¬ E j k)) N := by
  have key : ∀ t, t ≤ m → tot (fun r => bl (∀ q, q < r → ¬ E (L q) (L r))) t = tot (fun k => bl ((H k ∧ ∀ j, j < k → H j → ¬ E j k) ∧ ∃ r, r < t ∧ E (L r) k)) N := by
    intro t
    induction t with
    | zero =>
      intro _
      rw [tot_0 (n := N) (fun k _ => bl_0 (by rintro ⟨-, r, hr, -⟩; omega))]
      rfl
    | succ t ih =>
      intro ht
      rw [tot_s, ih (by omega)]
      obtain ⟨lt, Ht⟩ := hL t (by omega)
      by_cases hf : ∀ q, q < t → ¬ E (L q) (L t)
      · rw [bl_1 hf]
        obtain ⟨k0, ⟨w1, w2, w3⟩, w4⟩ := least_ex (P := fun k => H k ∧ k < N ∧ E k (L t)) (n := L t) ⟨Ht, lt, hrf _ lt⟩
        symm
        refine tot_one (k0 := k0) w2 (fun k hk hne => bl_eq ?_) ?_
        · constructor
          · rintro ⟨hF, r, hr, hE⟩
            refine ⟨hF, ?_⟩
            by_cases hrt : r = t
            · subst hrt
              exfalso
              rcases Nat.lt_trichotomy k k0 with h | h | h
              · exact w4 k h ⟨hF.1, hk, hsy _ _ lt hk hE⟩
              · exact hne h
              · exact hF.2 k0 h w1 (htr _ _ _ w2 lt hk w3 hE)
            · exact ⟨r, by omega, hE⟩
          · rintro ⟨hF, r, hr, hE⟩
            exact ⟨hF, r, by omega, hE⟩
        · rw [bl_1, bl_0]
          · rintro ⟨-, r, hr, hE⟩
            exact hf r hr (htr _ _ _ (hL r (by omega)).1 w2 lt hE w3)
          · refine ⟨⟨w1, fun j hj hHj hE => ?_⟩, t, by omega, hsy _ _ w2 lt w3⟩
            exact w4 j hj ⟨hHj, by omega, htr _ _ _ (by omega) w2 lt hE w3⟩
      · rw [bl_0 hf, Nat.add_zero]
        refine tot_congr (fun k hk => bl_eq ?_)
        constructor
        · rintro ⟨hF, r, hr, hE⟩
          exact ⟨hF, r, by omega, hE⟩
        · rintro ⟨hF, r, hr, hE⟩
          refine ⟨hF, ?_⟩
          by_cases hrt : r = t
          · subst hrt
            apply Classical.byContradiction
            intro hno
            refine hf (fun q hq hEq => hno ⟨q, hq, htr _ _ _ (hL q (by omega)).1 lt hk hEq hE⟩)
          · exact ⟨r, by omega, hE⟩
  rw [key m (Nat.le_refl m)]
  refine tot_congr (fun k hk => bl_eq ?_)
  constructor
  · exact fun h => h.1
  · intro h
    obtain ⟨r, hr, e⟩ := hH k hk h.1
    exact ⟨h, r, hr, by rw [e]; exact hrf k hk⟩
/-- a set that holds what its nodes hold, and i -/
def Cls (pt : Nat → Nat → Option Nat) (i : Nat) (T : Nat → Prop) : Prop := T i ∧ ∀ k s j, T k → pt k s = some j → T j
/-- what the program has reached -/
def RcK (M0 M1 : QM) (N i R m : Nat) (pt : Nat → Nat → Option Nat) (L : Nat → Nat) : Prop :=
  M1.1 14 4 = nI R ∧ Fr [14, 16, 17] M0 M1 ∧ M1.1 14 5 = M0.1 14 5 ∧ (∀ r, r < m → M1.1 16 r = nI (L r) ∧ L r < N) ∧ (∀ x, x < 60 → (M1.1 17 x = nI R ↔ ∃ r, r < m ∧ L r = x)) ∧ (∀ x, x < 60 → ∃ q, q ≤ R ∧ M1.1 17 x = nI q) ∧
  tot (fun x => bl (∃ r, r < m ∧ L r = x)) N = m ∧ ∀ T, Cls pt i T → ∀ r, r < m → T (L r)
section PC2
variable {M M0 M1 : QM} {N i R m : Nat} {sg : Nat → Int32} {pt : Nat → Nat → Option Nat} {nm : Nat → Option Nat} {L : Nat → Nat}
theorem RcK_le (h : RcK M0 M1 N i R m pt L) : m ≤ N := by
  have h1 := h.2.2.2.2.2.2.1
  have h2 := bl_tot_le (fun x => ∃ r, r < m ∧ L r = x) N
  omega
theorem st_also (hN : N ≤ 60) (hR : R < 2 ^ 31) (h : RcK M0 M1 N i R m pt L) {p : Option Nat} (hp : ∀ j, p = some j → j < N ∧ ∀ T, Cls pt i T → T j) :
    ∃ (m2 : Nat) (L2 : Nat → Nat) (M2 : QM), St_reachAlso (enc p) (nI m) M1 = some (nI m2, M2) ∧ RcK M0 M2 N i R m2 pt L2 ∧ m ≤ m2 ∧ (∀ r, r < m → L2 r = L r) ∧ ∀ j, p = some j → ∃ r, r < m2 ∧ L2 r = j := by
  have hle := RcK_le h
  cases p with
  | none =>
    refine ⟨m, L, M1, ?_, h, Nat.le_refl m, fun _ _ => rfl, fun j hj => by cases hj⟩
    unfold St_reachAlso
    rw [enc_none, if_pos (by decide)]
  | some j =>
    obtain ⟨hj, hT⟩ := hp j rfl
    obtain ⟨g1, g2, g3, g4, g5, g6, g7, g8⟩ := h
    unfold St_reachAlso
    rw [enc_some, if_neg (nI_pos (by omega)), if_neg (show ¬ (60 : Int32) ≤ nI j by rw [l_60, nI_leI (by omega) (by omega)]; omega), ck_in (by omega) (by omega), ix_nI (by omega), g1]
    by_cases hm : M1.1 17 j = nI R
    · rw [if_pos hm]
      exact ⟨m, L, M1, rfl, ⟨g1, g2, g3, g4, g5, g6, g7, g8⟩, Nat.le_refl m, fun _ _ => rfl, fun x hx => by cases hx; exact (g5 j (by omega)).mp hm⟩
    · have hno : ¬ ∃ r, r < m ∧ L r = j := fun z => hm ((g5 j (by omega)).mpr z)
      have hlt : m < N := by
        have := bl_tot_lt (p := fun x => ∃ r, r < m ∧ L r = x) hj hno
        omega
      rw [if_neg hm, if_neg (nI_pos (by omega)), if_pos (show nI m < 60 by rw [l_60, nI_ltI (by omega) (by omega)]; omega), ck_in (by omega) (by omega), ck_in (by omega) (by omega), ix_nI (by omega), nI_1]
      have hup : ∀ r, r < m → upf L m j r = L r := fun r hr => upf_ne (by omega)
      have hex : ∀ x, (∃ r, r < m + 1 ∧ upf L m j r = x) ↔ ((∃ r, r < m ∧ L r = x) ∨ x = j) := by
        intro x
        constructor
        · rintro ⟨r, hr, e⟩
          by_cases hrm : r = m
          · subst hrm; rw [upf_e] at e; exact Or.inr e.symm
          · rw [hup r (by omega)] at e; exact Or.inl ⟨r, by omega, e⟩
        · rintro (⟨r, hr, e⟩ | e)
          · exact ⟨r, by omega, by rw [hup r hr]; exact e⟩
          · exact ⟨m, by omega, by rw [upf_e]; exact e.symm⟩
      refine ⟨m + 1, upf L m j, _, rfl, ⟨?_, ?_, ?_, ?_, ?_, ?_, ?_, ?_⟩, by omega, hup, fun x hx => by cases hx; exact ⟨m, by omega, upf_e⟩⟩
      · exact g1
      · exact Fr.i 16 (Fr.i 17 g2 (by decide)) (by decide)
      · exact g3
      · intro r hr
        by_cases hrm : r = m
        · subst hrm
          rw [u_i_e, upf_e]
          exact ⟨rfl, hj⟩
        · rw [u_i_k hrm, hup r (by omega), u_i_o (by decide)]
          exact g4 r (by omega)
      · intro x hx
        rw [hex x, u_i_o (by decide)]
        by_cases hxj : x = j
        · subst hxj
          rw [u_i_e]
          exact ⟨fun _ => Or.inr rfl, fun _ => rfl⟩
        · rw [u_i_k hxj, g5 x hx]
          exact ⟨fun z => Or.inl z, fun z => z.elim id (fun e => absurd e hxj)⟩
      · intro x hx
        rw [u_i_o (by decide)]
        by_cases hxj : x = j
        · subst hxj
          rw [u_i_e]
          exact ⟨R, Nat.le_refl R, rfl⟩
        · rw [u_i_k hxj]
          exact g6 x hx
      · have e := tot_one (f := fun x => bl (∃ r, r < m + 1 ∧ upf L m j r = x)) (g := fun x => bl (∃ r, r < m ∧ L r = x)) (n := N) (k0 := j) hj
          (fun k hk hne => bl_eq (by rw [hex k]; exact ⟨fun z => z.elim id (fun e => absurd e hne), Or.inl⟩))
          (by
            show bl _ = bl _ + 1
            rw [bl_1 ((hex j).mpr (Or.inr rfl)), bl_0 hno])
        rw [e, g7]
      · intro T hC r hr
        by_cases hrm : r = m
        · subst hrm; rw [upf_e]; exact hT T hC
        · rw [hup r (by omega)]; exact g8 T hC r (by omega)
theorem st_reach (hW : WF N sg pt nm) (hK : NetK M N sg pt nm) (hi : i < N) {r0 : Nat} (hr0 : r0 < 1000) (h4 : M.1 14 4 = nI r0) (h17 : ∀ x, x < 60 → ∃ q, q ≤ r0 ∧ M.1 17 x = nI q) :
    ∃ (m : Nat) (L : Nat → Nat) (M2 : QM), St_reachFrom (nI i) M = some (nI m, M2) ∧ RcK M M2 N i (r0 + 1) m pt L ∧ (∃ r, r < m ∧ L r = i) ∧ ∀ r s j, r < m → pt (L r) s = some j → ∃ q, q < m ∧ L q = j := by
  have hN := hW.1
  unfold St_reachFrom
  have h0 : RcK M (u_i M 14 4 (nI (r0 + 1))) N i (r0 + 1) 0 pt (fun _ => 0) := by
    refine ⟨u_i_e, Fr.i 14 Fr.rf (by decide), u_i_k (by decide), fun r hr => by omega, fun x hx => ?_, fun x hx => ?_, ?_, fun T hC r hr => by omega⟩
    · rw [u_i_o (by decide)]
      obtain ⟨q, q1, q2⟩ := h17 x hx
      rw [q2, nI_eq (by omega) (by omega)]
      exact ⟨fun e => by omega, fun ⟨r, hr, _⟩ => by omega⟩
    · rw [u_i_o (by decide)]
      obtain ⟨q, q1, q2⟩ := h17 x hx
      exact ⟨q, by omega, q2⟩
    · exact tot_0 (fun k _ => bl_0 (by rintro ⟨r, hr, -⟩; omega))
  obtain ⟨m1, L1, M1, a1, a2, a3, a4, a5⟩ := st_also hN (by omega) h0 (p := some i) (fun j hj => by cases hj; exact ⟨hi, fun T hC => hC.1⟩)
  rw [h4, nI_1, l_0]
  rw [enc_some] at a1
  rw [a1, Option.bind_some]
  obtain ⟨e, b1, m2, L2, M2, rfl, b2, b3, b4⟩ := iter_0 (B := St_reachFrom_B19)
    (fun k v => ∃ (m : Nat) (L : Nat → Nat) (M2 : QM), v = (nI m, nI k, M2) ∧ RcK M M2 N i (r0 + 1) m pt L ∧ (∃ r, r < m ∧ L r = i) ∧ ∀ r s j, r < k → r < m → pt (L r) s = some j → ∃ q, q < m ∧ L q = j)
    (fun e => ∃ (m : Nat) (L : Nat → Nat) (M2 : QM), e = (nI m, M2) ∧ RcK M M2 N i (r0 + 1) m pt L ∧ (∃ r, r < m ∧ L r = i) ∧ ∀ r s j, r < m → pt (L r) s = some j → ∃ q, q < m ∧ L q = j)
    60 (by omega)
    (by
      rintro k v hk ⟨m, L, M3, rfl, c1, c2, c3⟩
      have hle := RcK_le c1
      unfold St_reachFrom_B19
      dsimp only
      by_cases hmk : m ≤ k
      · rw [if_pos (show nI m ≤ nI k by rw [nI_leI (by omega) (by omega)]; exact hmk)]
        exact Or.inr ⟨_, rfl, m, L, M3, rfl, c1, c2, fun r s j hr => c3 r s j (by omega) hr⟩
      · rw [if_neg (show ¬ nI m ≤ nI k by rw [nI_leI (by omega) (by omega)]; exact hmk), if_neg (show ¬ (60 : Int32) ≤ nI k by rw [l_60, nI_leI (by omega) (by omega)]; omega)]
        obtain ⟨e, d1, m4, L4, M4, rfl, d2, d3, d4, d5⟩ := iter_0 (B := St_reachFrom_B33 (nI k))
          (fun p v => ∃ (m4 : Nat) (L4 : Nat → Nat) (M4 : QM), v = (nI m4, nI p, M4) ∧ RcK M M4 N i (r0 + 1) m4 pt L4 ∧ m ≤ m4 ∧ (∀ r, r < m → L4 r = L r) ∧ ∀ s j, s < p → pt (L k) s = some j → ∃ q, q < m4 ∧ L4 q = j)
          (fun e => ∃ (m4 : Nat) (L4 : Nat → Nat) (M4 : QM), e = (nI m4, M4) ∧ RcK M M4 N i (r0 + 1) m4 pt L4 ∧ m ≤ m4 ∧ (∀ r, r < m → L4 r = L r) ∧ ∀ s j, s < 8 → pt (L k) s = some j → ∃ q, q < m4 ∧ L4 q = j)
          8 (by omega)
          (by
            rintro p v hp ⟨m4, L4, M4, rfl, d2, d3, d4, d5⟩
            refine Or.inl ?_
            have hLk := d2.2.2.2.1 k (by omega)
            rw [d4 k (by omega)] at hLk
            have hK4 : NetK M4 N sg pt nm := NetK_fr d2.2.1 (by decide) hK
            obtain ⟨m5, L5, M5, f1, f2, f3, f4, f5⟩ := st_also hN (by omega) d2 (p := pt (L k) p) (fun j hj => ⟨(hW.2.2.1 _ _ _ hLk.2 hj).1, fun T hC => hC.2 _ _ _ (by have := d2.2.2.2.2.2.2.2 T hC k (by omega); rw [d4 k (by omega)] at this; exact this) hj⟩)
            refine ⟨_, ?_, m5, L5, M5, rfl, f2, by omega, fun r hr => by rw [f4 r (by omega), d4 r hr], ?_⟩
            · unfold St_reachFrom_B33 St_reachedAt
              dsimp only
              rw [if_neg (show ¬ (8 : Int32) ≤ nI p by rw [l_8, nI_leI (by omega) (by omega)]; omega), if_neg (nI_pos (by omega)), if_neg (show ¬ (60 : Int32) ≤ nI k by rw [l_60, nI_leI (by omega) (by omega)]; omega), ck_in (by omega) (by omega), ix_nI (by omega), hLk.1, Option.bind_some, kn_part hK4 hN hLk.2 hp, Option.bind_some, f1, Option.bind_some, nI_1]
            · intro s j hs hj
              by_cases hsp : s = p
              · subst hsp; exact f5 j hj
              · obtain ⟨q, q1, q2⟩ := d5 s j (by omega) hj
                exact ⟨q, by omega, by rw [f4 q q1]; exact q2⟩)
          (by
            rintro v ⟨m4, L4, M4, rfl, d2⟩
            refine ⟨_, ?_, m4, L4, M4, rfl, d2⟩
            unfold St_reachFrom_B33
            dsimp only
            rw [if_pos (show (8 : Int32) ≤ nI 8 by decide)]) (nI m, 0, M3) ⟨m, L, M3, rfl, c1, Nat.le_refl m, fun _ _ => rfl, fun s j hs => by omega⟩
        rw [d1, Option.bind_some, nI_1]
        refine Or.inl ⟨_, rfl, m4, L4, M4, rfl, d2, ?_, ?_⟩
        · obtain ⟨r, r1, r2⟩ := c2
          exact ⟨r, by omega, by rw [d4 r r1]; exact r2⟩
        · intro r s j hr hrm hj
          by_cases hrk : r = k
          · subst hrk
            rw [d4 r (by omega)] at hj
            exact d5 s j (hW.2.2.1 _ _ _ (d2.2.2.2.1 r (by omega) |>.2 |> fun z => by rw [d4 r (by omega)] at z; exact z) hj).2 hj
          · rw [d4 r (by omega)] at hj
            obtain ⟨q, q1, q2⟩ := c3 r s j (by omega) (by omega) hj
            exact ⟨q, by omega, by rw [d4 q q1]; exact q2⟩)
    (by
      rintro v ⟨m, L, M3, rfl, c1, c2, c3⟩
      have hle := RcK_le c1
      refine ⟨_, ?_, m, L, M3, rfl, c1, c2, fun r s j hr => c3 r s j (by omega) hr⟩
      unfold St_reachFrom_B19
      dsimp only
      rw [if_pos (show nI m ≤ nI 60 by rw [nI_leI (by omega) (by omega)]; omega)]) (nI m1, 0, M1) ⟨m1, L1, M1, rfl, a2, a5 i rfl, fun r s j hr => by omega⟩
  have b1' : iter St_reachFrom_B19 FU ((nI m1, M1).fst, nI 0, (nI m1, M1).snd) = _ := b1
  rw [b1', Option.bind_some]
  exact ⟨m2, L2, M2, rfl, b2, b3, b4⟩
theorem st_earlier (hN : N ≤ 60) (hD : DokK M N sg pt) (hL : ∀ r, r < m → M.1 16 r = nI (L r) ∧ L r < N) (hm : m ≤ N) {r : Nat} (hr : r < m) :
    ((∀ q, q < r → ¬ Al sg pt (L q) (L r)) ∧ St_isAlikeEarlier (nI r) M = some 0) ∨ (¬ (∀ q, q < r → ¬ Al sg pt (L q) (L r)) ∧ St_isAlikeEarlier (nI r) M = some 1) := by
  unfold St_isAlikeEarlier
  have at_ : ∀ q, q < m → St_reachedAt (nI q) M = some (nI (L q)) := by
    intro q hq
    unfold St_reachedAt
    rw [if_neg (nI_pos (by omega)), if_neg (show ¬ (60 : Int32) ≤ nI q by rw [l_60, nI_leI (by omega) (by omega)]; omega), ck_in (by omega) (by omega), ix_nI (by omega), (hL q hq).1]
  obtain ⟨e, b1, b2⟩ := iter_0 (B := St_isAlikeEarlier_B2 (nI r) M)
    (fun k v => v = nI k ∧ ∀ q, q < k → ¬ Al sg pt (L q) (L r))
    (fun e => ((∀ q, q < r → ¬ Al sg pt (L q) (L r)) ∧ e = .inr ()) ∨ (¬ (∀ q, q < r → ¬ Al sg pt (L q) (L r)) ∧ e = .inl 1))
    r (by omega)
    (by
      rintro k v hk ⟨rfl, hv⟩
      unfold St_isAlikeEarlier_B2
      rw [if_neg (show ¬ nI r ≤ nI k by rw [nI_leI (by omega) (by omega)]; omega), at_ k (by omega), Option.bind_some, at_ r hr, Option.bind_some, nI_1]
      rcases st_alike hN hD (hL k (by omega)).2 (hL r hr).2 with ⟨c1, c2⟩ | ⟨c1, c2⟩
      · rw [c2, Option.bind_some, if_neg one_ne]
        exact Or.inr ⟨_, rfl, Or.inr ⟨fun h => h k hk c1, rfl⟩⟩
      · rw [c2, Option.bind_some, if_pos rfl]
        refine Or.inl ⟨_, rfl, rfl, fun q hq => ?_⟩
        by_cases hqk : q = k
        · subst hqk; exact c1
        · exact hv q (by omega))
    (by
      rintro v ⟨rfl, hv⟩
      refine ⟨_, ?_, Or.inl ⟨hv, rfl⟩⟩
      unfold St_isAlikeEarlier_B2
      rw [if_pos (show nI r ≤ nI r by rw [nI_leI (by omega) (by omega)]; omega)]) 0 ⟨rfl, fun q hq => by omega⟩
  rw [b1, Option.bind_some]
  rcases b2 with ⟨c1, rfl⟩ | ⟨c1, rfl⟩
  · exact Or.inl ⟨c1, rfl⟩
  · exact Or.inr ⟨c1, rfl⟩
theorem st_unlike (hN : N ≤ 60) (hD : DokK M N sg pt) (hL : ∀ r, r < m → M.1 16 r = nI (L r) ∧ L r < N) (hm : m ≤ N) : iter (St_unlikeWithin_B11 (nI m) M) FU ((0 : Int32), (0 : Int32)) = some (nI (0 + tot (fun r => bl (∀ q, q < r → ¬ Al sg pt (L q) (L r))) m)) := by
  refine iter_cnt (c := 0) (fun r => ∀ q, q < r → ¬ Al sg pt (L q) (L r)) m (by omega) (fun k hk a => ?_) (fun a => ?_)
  · unfold St_unlikeWithin_B11
    dsimp only
    rw [if_neg (show ¬ nI m ≤ nI k by rw [nI_leI (by omega) (by omega)]; omega), nI_1]
    rcases st_earlier hN hD hL hm hk with ⟨c1, c2⟩ | ⟨c1, c2⟩
    · rw [c2, Option.bind_some, if_pos rfl, a1 a c1]
    · rw [c2, Option.bind_some, if_neg one_ne, a0 a c1]
  · unfold St_unlikeWithin_B11
    dsimp only
    rw [if_pos (show nI m ≤ nI m by rw [nI_leI (by omega) (by omega)]; omega)]
/-- what the reference holds -/
def HdM (M0 M1 : QM) (N i : Nat) (pt : Nat → Nat → Option Nat) : Prop :=
  Fr [13] M0 M1 ∧ (∀ k, k < N → M1.1 13 k = 1 ∨ M1.1 13 k = 0) ∧ M1.1 13 i = 1 ∧ ∀ T, Cls pt i T → ∀ k, k < N → M1.1 13 k = 1 → T k
theorem mo_hold (hW : WF N sg pt nm) (hM : NetM M N sg pt nm) (hi : i < N) (hH : HdM M M1 N i pt) {k : Nat} (hk : k < N) (x2 : Int32) :
    ∃ M2, iter (Mo_pieces_B69 x2 (nI k)) FU ((0 : Int32), M1) = some M2 ∧ HdM M M2 N i pt ∧ (∀ x, x < N → M1.1 13 x = 1 → M2.1 13 x = 1) ∧ (M1.1 13 k = 1 → ∀ s j, s < 8 → pt k s = some j → M2.1 13 j = 1) := by
  have hN := hW.1
  rcases hH.2.1 k hk with h1 | h0
  · obtain ⟨M2, b1, b2, b3, b4⟩ := iter_0 (B := Mo_pieces_B69 x2 (nI k))
      (fun p v => ∃ M2, v = (nI p, M2) ∧ HdM M M2 N i pt ∧ (∀ x, x < N → M1.1 13 x = 1 → M2.1 13 x = 1) ∧ (∀ s j, s < p → pt k s = some j → M2.1 13 j = 1))
      (fun M2 => HdM M M2 N i pt ∧ (∀ x, x < N → M1.1 13 x = 1 → M2.1 13 x = 1) ∧ (∀ s j, s < 8 → pt k s = some j → M2.1 13 j = 1))
      8 (by omega)
      (by
        rintro p v hp ⟨M2, rfl, c1, c2, c3⟩
        unfold Mo_pieces_B69
        dsimp only
        have hp3 : M2.1 3 (8 * k + p) = enc (pt k p) := by rw [(c1.1 3 (by decide)).1]; exact mo_part hM hk hp
        have hx : (8 : Int32) * nI k + nI p = nI (8 * k + p) := by rw [l_8, nI_mul, nI_add]
        rw [if_neg (show ¬ (8 : Int32) ≤ nI p by rw [l_8, nI_leI (by omega) (by omega)]; omega), ck_in (by omega) (by omega), ix_nI (by omega), c2 k hk h1, if_neg one_ne, hx, ck_in (by omega) (by omega), ck_in (by omega) (by omega), ix_nI (by omega), hp3, nI_1]
        refine Or.inl ?_
        cases hj : pt k p with
        | none =>
          rw [enc_none, if_pos (by decide)]
          refine ⟨_, rfl, M2, rfl, c1, c2, fun s j hs h => ?_⟩
          by_cases e : s = p
          · subst e; rw [hj] at h; cases h
          · exact c3 s j (by omega) h
        | some j =>
          have hjN := (hW.2.2.1 k p j hk hj).1
          rw [enc_some, if_neg (nI_pos (by omega)), ck_in (by omega) (by omega), ix_nI (by omega)]
          have keep : ∀ x, M2.1 13 x = 1 → (u_i M2 13 j 1).1 13 x = 1 := by
            intro x hx
            by_cases e : x = j
            · subst e; exact u_i_e
            · rw [u_i_k e]; exact hx
          refine ⟨_, rfl, _, rfl, ⟨Fr.i 13 c1.1 (by decide), ?_, keep i c1.2.2.1, ?_⟩, fun x hx h => keep x (c2 x hx h), fun s y hs h => ?_⟩
          · intro x hx
            by_cases e : x = j
            · subst e; exact Or.inl u_i_e
            · rw [u_i_k e]; exact c1.2.1 x hx
          · intro T hC x hx h
            by_cases e : x = j
            · subst e; exact hC.2 k p x (c1.2.2.2 T hC k hk (c2 k hk h1)) hj
            · rw [u_i_k e] at h; exact c1.2.2.2 T hC x hx h
          · by_cases e : s = p
            · subst e; rw [hj] at h; cases h; exact u_i_e
            · exact keep y (c3 s y (by omega) h))
      (by
        rintro v ⟨M2, rfl, c⟩
        refine ⟨M2, ?_, c⟩
        unfold Mo_pieces_B69
        dsimp only
        rw [if_pos (show (8 : Int32) ≤ nI 8 by decide)]) (0, M1) ⟨M1, rfl, hH, fun _ _ h => h, fun s j hs => by omega⟩
    exact ⟨M2, b1, b2, b3, fun _ => b4⟩
  · refine ⟨M1, ?_, hH, fun _ _ h => h, fun h => ?_⟩
    · have : Mo_pieces_B69 x2 (nI k) ((0 : Int32), M1) = some (.inl M1) := by
        unfold Mo_pieces_B69
        dsimp only
        rw [if_neg (by decide), ck_in (by omega) (by omega), ix_nI (by omega), h0, if_pos rfl]
      exact iter_d this
    · rw [h0] at h; exact absurd h (by decide)
theorem mo_hround (hW : WF N sg pt nm) (hM : NetM M N sg pt nm) (hi : i < N) (hH : HdM M M1 N i pt) (x2 : Int32) :
    ∃ M2, iter (Mo_pieces_B58 x2) FU ((0 : Int32), M1) = some M2 ∧ HdM M M2 N i pt ∧ (∀ x, x < N → M1.1 13 x = 1 → M2.1 13 x = 1) ∧ (∀ k, k < N → M1.1 13 k = 1 → ∀ s j, s < 8 → pt k s = some j → M2.1 13 j = 1) := by
  have hN := hW.1
  obtain ⟨M2, b1, b2⟩ := iter_0 (B := Mo_pieces_B58 x2)
    (fun t v => ∃ M2, v = (nI t, M2) ∧ HdM M M2 N i pt ∧ (∀ x, x < N → M1.1 13 x = 1 → M2.1 13 x = 1) ∧ (∀ k, k < t → M1.1 13 k = 1 → ∀ s j, s < 8 → pt k s = some j → M2.1 13 j = 1))
    (fun M2 => HdM M M2 N i pt ∧ (∀ x, x < N → M1.1 13 x = 1 → M2.1 13 x = 1) ∧ (∀ k, k < N → M1.1 13 k = 1 → ∀ s j, s < 8 → pt k s = some j → M2.1 13 j = 1))
    N (by omega)
    (by
      rintro k v hk ⟨M2, rfl, c1, c2, c3⟩
      refine Or.inl ?_
      obtain ⟨M3, d1, d2, d3, d4⟩ := mo_hold hW hM hi c1 hk x2
      refine ⟨(nI (k + 1), M3), ?_, M3, rfl, d2, fun x hx h => d3 x hx (c2 x hx h), fun y hy h s j hs hj => ?_⟩
      · unfold Mo_pieces_B58
        dsimp only
        rw [(c1.1 0 (by decide)).1, hM.1, if_neg (show ¬ nI N ≤ nI k by rw [nI_leI (by omega) (by omega)]; omega), d1, Option.bind_some, nI_1]
      · by_cases e : y = k
        · subst e; exact d4 (c2 y hk h) s j hs hj
        · exact d3 j (hW.2.2.1 y s j (by omega) hj).1 (c3 y (by omega) h s j hs hj))
    (by
      rintro v ⟨M2, rfl, c⟩
      refine ⟨M2, ?_, c⟩
      unfold Mo_pieces_B58
      dsimp only
      rw [(c.1.1 0 (by decide)).1, hM.1, if_pos (show nI N ≤ nI N by rw [nI_leI (by omega) (by omega)]; omega)]) (0, M1) ⟨M1, rfl, hH, fun _ _ h => h, fun k hk => by omega⟩
  exact ⟨M2, b1, b2⟩
theorem mo_held (hW : WF N sg pt nm) (hM : NetM M N sg pt nm) (hi : i < N) (hH : HdM M M1 N i pt) :
    ∃ M2, iter Mo_pieces_B48 FU ((0 : Int32), M1) = some M2 ∧ HdM M M2 N i pt ∧ (∀ k, k < N → M2.1 13 k = 1 → ∀ s j, s < 8 → pt k s = some j → M2.1 13 j = 1) := by
  have hN := hW.1
  obtain ⟨M2, b1, b2, b3⟩ := iter_0 (B := Mo_pieces_B48)
    (fun t v => ∃ M2, v = (nI t, M2) ∧ HdM M M2 N i pt ∧ ((∀ k, k < N → M2.1 13 k = 1 → ∀ s j, s < 8 → pt k s = some j → M2.1 13 j = 1) ∨ t + 1 ≤ tot (fun k => bl (M2.1 13 k = 1)) N))
    (fun M2 => HdM M M2 N i pt ∧ (∀ k, k < N → M2.1 13 k = 1 → ∀ s j, s < 8 → pt k s = some j → M2.1 13 j = 1))
    N (by omega)
    (by
      rintro t v ht ⟨M2, rfl, c1, c2⟩
      refine Or.inl ?_
      obtain ⟨M3, d1, d2, d3, d4⟩ := mo_hround hW hM hi c1 (nI t)
      refine ⟨(nI (t + 1), M3), ?_, M3, rfl, d2, ?_⟩
      · unfold Mo_pieces_B48
        dsimp only
        rw [(c1.1 0 (by decide)).1, hM.1, if_neg (show ¬ nI N ≤ nI t by rw [nI_leI (by omega) (by omega)]; omega), d1, Option.bind_some, nI_1]
      · by_cases hc : ∀ k, k < N → M2.1 13 k = 1 → ∀ s j, s < 8 → pt k s = some j → M2.1 13 j = 1
        · refine Or.inl (fun k hk h s j hs hj => ?_)
          have hCl : Cls pt i (fun x => x < N ∧ M2.1 13 x = 1) := ⟨⟨hi, c1.2.2.1⟩, fun k s j ⟨q1, q2⟩ q3 => ⟨(hW.2.2.1 k s j q1 q3).1, hc k q1 q2 s j (hW.2.2.1 k s j q1 q3).2 q3⟩⟩
          exact d4 k hk (d2.2.2.2 _ hCl k hk h).2 s j hs hj
        · refine Or.inr ?_
          have hn : t + 1 ≤ tot (fun k => bl (M2.1 13 k = 1)) N := c2.elim (fun z => absurd z hc) id
          have : ∃ k, k < N ∧ M2.1 13 k = 1 ∧ ∃ s j, s < 8 ∧ pt k s = some j ∧ ¬ M2.1 13 j = 1 := by
            apply Classical.byContradiction
            intro hno
            refine hc (fun k hk h s j hs hj => Classical.byContradiction (fun hx => hno ⟨k, hk, h, s, j, hs, hj, hx⟩))
          obtain ⟨k, hk, h, s, j, hs, hj, hx⟩ := this
          have hlt := tot_lt (f := fun k => bl (M2.1 13 k = 1)) (g := fun k => bl (M3.1 13 k = 1)) (n := N) (i := j)
            (fun x hx => by
              show bl _ ≤ bl _
              by_cases q : M2.1 13 x = 1
              · rw [bl_1 q, bl_1 (d3 x hx q)]; omega
              · rw [bl_0 q]; omega)
            (hW.2.2.1 k s j hk hj).1
            (by
              show bl _ < bl _
              rw [bl_0 hx, bl_1 (d4 k hk h s j hs hj)]; omega)
          omega)
    (by
      rintro v ⟨M2, rfl, c1, c2⟩
      refine ⟨M2, ?_, c1, ?_⟩
      · unfold Mo_pieces_B48
        dsimp only
        rw [(c1.1 0 (by decide)).1, hM.1, if_pos (show nI N ≤ nI N by rw [nI_leI (by omega) (by omega)]; omega)]
      · rcases c2 with c2 | c2
        · exact c2
        · have := bl_tot_le (fun k => M2.1 13 k = 1) N
          omega) (0, M1) ⟨M1, rfl, hH, Or.inr (by
        have h0 : 0 < tot (fun k => bl (M1.1 13 k = 1)) N := by
          have hlt := tot_lt (f := fun _ => 0) (g := fun k => bl (M1.1 13 k = 1)) (n := N) (i := i) (fun _ _ => Nat.zero_le _) hi (by show 0 < bl _; rw [bl_1 hH.2.2.1]; omega)
          omega
        omega)⟩
  exact ⟨M2, b1, b2, b3⟩
theorem mo_hinit (hW : WF N sg pt nm) (hM : NetM M N sg pt nm) (hi : i < N) : ∃ M1, iter (Mo_pieces_B16 (nI i)) FU ((0 : Int32), M) = some M1 ∧ HdM M M1 N i pt := by
  have hN := hW.1
  obtain ⟨M2, b1, b2, b3⟩ := iter_0 (B := Mo_pieces_B16 (nI i))
    (fun t v => ∃ M2, v = (nI t, M2) ∧ Fr [13] M M2 ∧ ∀ k, k < t → M2.1 13 k = if k = i then 1 else 0)
    (fun M2 => Fr [13] M M2 ∧ ∀ k, k < N → M2.1 13 k = if k = i then 1 else 0)
    N (by omega)
    (by
      rintro k v hk ⟨M2, rfl, c1, c2⟩
      refine Or.inl ?_
      unfold Mo_pieces_B16 Mo_pieces_L16_J39
      dsimp only
      rw [(c1 0 (by decide)).1, hM.1, if_neg (show ¬ nI N ≤ nI k by rw [nI_leI (by omega) (by omega)]; omega)]
      have step : ∀ w : Int32, w = (if k = i then 1 else 0) → ∀ x, x < k + 1 → (u_i M2 13 k w).1 13 x = if x = i then 1 else 0 := by
        intro w hw x hx
        by_cases e : x = k
        · subst e; rw [u_i_e]; exact hw
        · rw [u_i_k e]; exact c2 x (by omega)
      by_cases e : k = i
      · rw [if_pos (by rw [e]), ck_in (by omega) (by omega), ck_t (by decide), ix_nI (by omega), nI_1]
        exact ⟨_, rfl, _, rfl, Fr.i 13 c1 (by decide), step 1 (by rw [if_pos e])⟩
      · rw [if_neg (show ¬ nI k = nI i from fun h => e ((nI_eq (by omega) (by omega)).mp h)), ck_in (by omega) (by omega), ck_t (by decide), ix_nI (by omega), nI_1]
        exact ⟨_, rfl, _, rfl, Fr.i 13 c1 (by decide), step 0 (by rw [if_neg e])⟩)
    (by
      rintro v ⟨M2, rfl, c1, c2⟩
      refine ⟨M2, ?_, c1, c2⟩
      unfold Mo_pieces_B16
      dsimp only
      rw [(c1 0 (by decide)).1, hM.1, if_pos (show nI N ≤ nI N by rw [nI_leI (by omega) (by omega)]; omega)]) (0, M) ⟨M, rfl, Fr.rf, fun k hk => by omega⟩
  refine ⟨M2, b1, b2, ?_, ?_, ?_⟩
  · intro k hk
    rw [b3 k hk]
    by_cases e : k = i
    · rw [if_pos e]; exact Or.inl rfl
    · rw [if_neg e]; exact Or.inr rfl
  · rw [b3 i hi, if_pos rfl]
  · intro T hC k hk h
    rw [b3 k hk] at h
    by_cases e : k = i
    · rw [e]; exact hC.1
    · rw [if_neg e] at h; exact absurd h (by decide)
theorem mo_first (hN : N ≤ 60) (hD : DokM M N sg pt) (hH : ∀ k, k < N → M.1 13 k = 1 ∨ M.1 13 k = 0) {k : Nat} (hk : k < N) (x2 : Int32) :
    iter (Mo_pieces_B159 x2 (nI k) M) FU (M.1 13 k, (0 : Int32)) = some (nI (bl (M.1 13 k = 1 ∧ ∀ j, j < k → M.1 13 j = 1 → ¬ Al sg pt j k))) := by
  rcases hH k hk with h1 | h0
  · obtain ⟨e, b1, b2⟩ := iter_0 (B := Mo_pieces_B159 x2 (nI k) M)
      (fun t v => v = (1, nI t) ∧ (∀ j, j < t → M.1 13 j = 1 → ¬ Al sg pt j k) ∨ v.1 = 0 ∧ ¬ (∀ j, j < k → M.1 13 j = 1 → ¬ Al sg pt j k))
      (fun e => e = nI (bl (M.1 13 k = 1 ∧ ∀ j, j < k → M.1 13 j = 1 → ¬ Al sg pt j k)))
      k (by omega)
      (by
        rintro t v ht (⟨rfl, hv⟩ | ⟨hv1, hv⟩)
        · unfold Mo_pieces_B159
          dsimp only
          rw [if_neg (show ¬ nI k ≤ nI t by rw [nI_leI (by omega) (by omega)]; omega), if_neg one_ne, ck_in (by omega) (by omega), ix_nI (by omega), nI_1]
          rcases hH t (by omega) with g1 | g0
          · rw [g1, if_neg one_ne]
            rcases mo_alike hN hD (show t < N by omega) hk with ⟨c1, c2⟩ | ⟨c1, c2⟩
            · rw [c2, Option.bind_some, if_neg one_ne]
              exact Or.inl ⟨_, rfl, Or.inr ⟨rfl, fun h => h t ht g1 c1⟩⟩
            · rw [c2, Option.bind_some, if_pos rfl]
              refine Or.inl ⟨_, rfl, Or.inl ⟨rfl, fun j hj hg => ?_⟩⟩
              by_cases e : j = t
              · subst e; exact c1
              · exact hv j (by omega) hg
          · rw [g0, if_pos rfl]
            refine Or.inl ⟨_, rfl, Or.inl ⟨rfl, fun j hj hg => ?_⟩⟩
            by_cases e : j = t
            · subst e; rw [g0] at hg; exact absurd hg (by decide)
            · exact hv j (by omega) hg
        · refine Or.inr ⟨0, ?_, ?_⟩
          · unfold Mo_pieces_B159
            rw [hv1]
            by_cases q : nI k ≤ v.2
            · rw [if_pos q]
            · rw [if_neg q, if_pos rfl]
          · rw [bl_0 (fun z => hv z.2)]; rfl)
      (by
        rintro v (⟨rfl, hv⟩ | ⟨hv1, hv⟩)
        · refine ⟨1, ?_, ?_⟩
          · unfold Mo_pieces_B159
            dsimp only
            rw [if_pos (show nI k ≤ nI k by rw [nI_leI (by omega) (by omega)]; omega)]
          · rw [bl_1 ⟨h1, hv⟩]; rfl
        · refine ⟨0, ?_, ?_⟩
          · unfold Mo_pieces_B159
            rw [hv1]
            by_cases q : nI k ≤ v.2
            · rw [if_pos q]
            · rw [if_neg q, if_pos rfl]
          · rw [bl_0 (fun z => hv z.2)]; rfl) (1, 0) (Or.inl ⟨rfl, fun j hj => by omega⟩)
    rw [h1] at b2 ⊢
    rw [b1, b2]
  · have : Mo_pieces_B159 x2 (nI k) M (M.1 13 k, (0 : Int32)) = some (.inl 0) := by
      unfold Mo_pieces_B159
      dsimp only
      rw [h0]
      by_cases q : nI k ≤ 0
      · rw [if_pos q]
      · rw [if_neg q, if_pos rfl]
    rw [bl_0 (fun z => absurd (h0 ▸ z.1) (by decide))]
    exact iter_d this
theorem mo_firsts (hN : N ≤ 60) (h02 : M.1 0 2 = nI N) (hD : DokM M N sg pt) (hH : ∀ k, k < N → M.1 13 k = 1 ∨ M.1 13 k = 0) :
    iter (Mo_pieces_B140 M) FU ((0 : Int32), (0 : Int32)) = some (nI (0 + tot (fun k => bl (M.1 13 k = 1 ∧ ∀ j, j < k → M.1 13 j = 1 → ¬ Al sg pt j k)) N)) := by
  refine iter_cnt (c := 0) (fun k => M.1 13 k = 1 ∧ ∀ j, j < k → M.1 13 j = 1 → ¬ Al sg pt j k) N (by omega) (fun k hk a => ?_) (fun a => ?_)
  · unfold Mo_pieces_B140 Mo_pieces_L140_J203
    dsimp only
    rw [h02, if_neg (show ¬ nI N ≤ nI k by rw [nI_leI (by omega) (by omega)]; omega), ck_in (by omega) (by omega), ix_nI (by omega), mo_first hN hD hH hk, Option.bind_some, nI_1]
    by_cases q : M.1 13 k = 1 ∧ ∀ j, j < k → M.1 13 j = 1 → ¬ Al sg pt j k
    · rw [bl_1 q, if_neg (show ¬ nI 1 = 0 by decide)]; rfl
    · rw [bl_0 q, if_pos (show nI 0 = 0 from rfl)]; rfl
  · unfold Mo_pieces_B140
    dsimp only
    rw [h02, if_pos (show nI N ≤ nI N by rw [nI_leI (by omega) (by omega)]; omega)]
end PC2
theorem op_pieces : Stp_pieces Rel := by
  rintro n MK MM hn ⟨N, sg, pt, nm, hb⟩ x
  have h1 := hb.1
  have h3 := hb.2.2.1
  have h4 := hb.2.2.2.1
  have hN := h1.1
  rcases nd_cases x N (by omega) with ⟨i, hi, rfl⟩ | hx
  · obtain ⟨MK1, MM1, e1, e2, hb1, d1, d2, g1, g2, g3, g4, g5, g6⟩ := catch_both hb
    have k3 := hb1.2.2.1
    have k4 := hb1.2.2.2.1
    obtain ⟨r0, r1, r2, r3⟩ := hb.2.2.2.2.2.2.1
    obtain ⟨m, L, MK2, s1, s2, s3, s4⟩ := st_reach h1 k3 hi (r0 := r0) (by omega) (by rw [g4]; exact r2) (fun x hx => by rw [(g3 17 (by decide)).1]; exact r3 x hx)
    obtain ⟨MMa, t1, t2⟩ := mo_hinit h1 k4 hi
    obtain ⟨MM2, t3, t4, t5⟩ := mo_held h1 k4 hi t2
    have dK : DokK MK2 N sg pt := fun a b ha hb => by rw [(s2.2.1 15 (by decide)).1]; exact d1 a b ha hb
    have dM : DokM MM2 N sg pt := fun a b ha hb => by rw [(t4.1 12 (by decide)).1, (t4.1 11 (by decide)).1]; exact d2 a b ha hb
    have hle := RcK_le s2
    have ku := st_unlike hN dK s2.2.2.2.1 hle
    have mu := mo_firsts hN (by rw [(t4.1 0 (by decide)).1]; exact k4.1) dM t4.2.1
    have hcnt := firsts_eq (E := Al sg pt) (N := N) (m := m) (L := L) (H := fun k => MM2.1 13 k = 1) (fun i _ => ⟨My_refl i, My_refl i⟩) (fun i k _ _ h => ⟨h.2, h.1⟩) (fun i j k hi hj hk => Al_tr h1 hi hj hk)
      (fun r hr => ⟨(s2.2.2.2.1 r hr).2, by
        have hCl : Cls pt i (fun x => x < N ∧ MM2.1 13 x = 1) := ⟨⟨hi, t4.2.2.1⟩, fun k s j ⟨q1, q2⟩ q3 => ⟨(h1.2.2.1 k s j q1 q3).1, t5 k q1 q2 s j (h1.2.2.1 k s j q1 q3).2 q3⟩⟩
        exact (s2.2.2.2.2.2.2.2 _ hCl r hr).2⟩)
      (fun k hk h => by
        have hCl : Cls pt i (fun x => ∃ r, r < m ∧ L r = x) := ⟨s3, fun k s j ⟨r, q1, q2⟩ q3 => s4 r s j q1 (by rw [q2]; exact q3)⟩
        exact t4.2.2.2 _ hCl k hk h)
    refine ⟨nI (0 + tot (fun r => bl (∀ q, q < r → ¬ Al sg pt (L q) (L r))) m), MK2, MM2, ?_, ?_, N, sg, pt, nm, h1, ?_, ?_, ?_, ?_, ?_, ?_, ?_, ?_, ?_⟩
    · unfold Kn_pieces St_unlikeWithin
      rw [kn_has h3 hN hi, Option.bind_some, if_neg one_ne, e1, Option.bind_some, s1, Option.bind_some, ku, Option.bind_some, Option.bind_some]
    · unfold Mo_pieces
      rw [mo_isNode h4 hN hi, Option.bind_some, if_neg one_ne, e2, Option.bind_some, t1, Option.bind_some, t3, Option.bind_some, mu, Option.bind_some, hcnt]
    · exact PadR_eq hb1.2.1 (s2.2.1 1 (by decide)).1 (s2.2.1 2 (by decide)).1 (by rw [(t4.1 0 (by decide)).1]) (t4.1 1 (by decide)).1
    · exact NetK_fr s2.2.1 (by decide) k3
    · exact NetM_fr t4.1 (by rw [(t4.1 0 (by decide)).1]) (by decide) k4
    · exact StK_eq hb1.2.2.2.2.1 s2.2.2.1 (s2.2.1 15 (by decide)).1
    · exact LaM_eq hb1.2.2.2.2.2.1 (by rw [(t4.1 0 (by decide)).1]) (t4.1 11 (by decide)).1 (t4.1 12 (by decide)).1
    · exact ⟨r0 + 1, by omega, s2.1, s2.2.2.2.2.2.1⟩
    · exact CoK_eq hb1.2.2.2.2.2.2.2.1 (by rw [(s2.2.1 28 (by decide)).1]) (s2.2.1 29 (by decide)).2
    · exact LeK_eq hb1.2.2.2.2.2.2.2.2.1 (by rw [(s2.2.1 31 (by decide)).1]) (s2.2.1 32 (by decide)).1
    · rw [(s2.2.1 9 (by decide)).1]; exact hb1.2.2.2.2.2.2.2.2.2
  · refine ⟨-1, MK, MM, ?_, ?_, Rel_up ⟨N, sg, pt, nm, hb⟩⟩
    · unfold Kn_pieces
      rw [kn_has_no h3 hN hx, Option.bind_some, if_pos rfl]
    · unfold Mo_pieces
      rw [mo_isNode_no h4 hN hx, Option.bind_some, if_pos rfl]
