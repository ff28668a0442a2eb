/-! THE WAY DOWN -/
theorem least_ex {P : Nat → Prop} {n : Nat} (h : P n) : ∃ m, P m ∧ ∀ k, k < m → ¬ P k := by
  induction n using Nat.strongRecOn with
  | ind n ih =>
    by_cases h2 : ∃ k, k < n ∧ P k
    · obtain ⟨k, hk, hp⟩ := h2
      exact ih k hk hp
    · exact ⟨n, h, fun k hk hp => h2 ⟨k, hk, hp⟩⟩
/-- the first slot behind which v steps are left -/
def Nx (sg : Nat → Int32) (pt : Nat → Nat → Option Nat) (i k v s a b : Nat) : Prop := s < 8 ∧ beh sg pt i k s = some (a, b) ∧ Dv sg pt a b v ∧ ∀ t x y, t < s → beh sg pt i k t = some (x, y) → ¬ Dv sg pt x y v
/-- n steps along the way -/
def Pth (sg : Nat → Int32) (pt : Nat → Nat → Option Nat) (i k v : Nat) : Nat → Nat → Nat → Prop
  | 0, a, b => a = i ∧ b = k
  | n + 1, a, b => ∃ x y s, Pth sg pt i k v n x y ∧ Nx sg pt x y (v - n - 1) s a b
section WY_
variable {M : QM} {N : Nat} {sg : Nat → Int32} {pt : Nat → Nat → Option Nat} {nm : Nat → Option Nat}
theorem Nx_ex {i k v : Nat} (h : Dv sg pt i k (v + 1)) : ∃ s a b, Nx sg pt i k v s a b := by
  obtain ⟨s, a, b, h1, h2, h3⟩ := Dv_beh h
  obtain ⟨m, ⟨a2, b2, g1, g2, g3⟩, hl⟩ := least_ex (P := fun s => ∃ a b, s < 8 ∧ beh sg pt i k s = some (a, b) ∧ Dv sg pt a b v) (n := s) ⟨a, b, h1, h2, h3⟩
  exact ⟨m, a2, b2, g1, g2, g3, fun t x y ht hb hd => hl t ht ⟨x, y, by omega, hb, hd⟩⟩
theorem Nx_uniq {i k v s a b s2 a2 b2 : Nat} (h : Nx sg pt i k v s a b) (h2 : Nx sg pt i k v s2 a2 b2) : s = s2 ∧ a = a2 ∧ b = b2 := by
  have e : s = s2 := by
    by_cases c1 : s < s2
    · exact absurd h.2.2.1 (h2.2.2.2 s a b c1 h.2.1)
    · by_cases c2 : s2 < s
      · exact absurd h2.2.2.1 (h.2.2.2 s2 a2 b2 c2 h2.2.1)
      · omega
  subst e
  have := h.2.1.symm.trans h2.2.1
  cases this
  exact ⟨rfl, rfl, rfl⟩
theorem Pth_fact (hW : WF N sg pt nm) {i k v : Nat} (hi : i < N) (hk : k < N) (hv : Dv sg pt i k v) : ∀ {n a b : Nat}, n ≤ v → Pth sg pt i k v n a b → a < N ∧ b < N ∧ Dv sg pt a b (v - n) := by
  intro n
  induction n with
  | zero => intro a b _ h; obtain ⟨rfl, rfl⟩ := h; exact ⟨hi, hk, hv⟩
  | succ n ih =>
    intro a b hn h
    obtain ⟨x, y, s, h1, h2⟩ := h
    obtain ⟨hx, hy, hd⟩ := ih (by omega) h1
    obtain ⟨ha, hb⟩ := beh_lt hW hx hy h2.2.1
    exact ⟨ha, hb, by rw [show v - (n + 1) = v - n - 1 by omega]; exact h2.2.2.1⟩
theorem Pth_uniq {i k v : Nat} : ∀ {n a b a2 b2 : Nat}, Pth sg pt i k v n a b → Pth sg pt i k v n a2 b2 → a = a2 ∧ b = b2 := by
  intro n
  induction n with
  | zero => intro a b a2 b2 h1 h2; exact ⟨h1.1.trans h2.1.symm, h1.2.trans h2.2.symm⟩
  | succ n ih =>
    intro a b a2 b2 h1 h2
    obtain ⟨x, y, s, p1, n1⟩ := h1
    obtain ⟨x2, y2, s2, p2, n2⟩ := h2
    obtain ⟨rfl, rfl⟩ := ih p1 p2
    obtain ⟨-, e1, e2⟩ := Nx_uniq n1 n2
    exact ⟨e1, e2⟩
theorem Dok_is {top i k v : Nat} {x : Int32} (h : Dok top sg pt i k x) (ht : 3600 ≤ top) (ht2 : top < 2 ^ 31) (hv : v < 3600) : x = nI v ↔ Dv sg pt i k v := by
  rcases h with ⟨u, h1, h2, h3⟩ | ⟨h1, h2⟩
  · rw [h3, nI_eq (by omega) (by omega)]
    exact ⟨fun z => z ▸ h2, fun z => Dv_uniq h2 z⟩
  · rw [h2, nI_eq (by omega) (by omega)]
    exact ⟨fun z => by omega, fun z => absurd h1 (Dv_not z)⟩
/-- the program's table is caught up -/
def DokK (M : QM) (N : Nat) (sg : Nat → Int32) (pt : Nat → Nat → Option Nat) : Prop := ∀ i k, i < N → k < N → Dok 1000000 sg pt i k (M.1 15 (60 * i + k))
theorem st_first (hW : WF N sg pt nm) (hK : NetK M N sg pt nm) (hD : DokK M N sg pt) {i k v s a b : Nat} (hi : i < N) (hk : k < N) (hv : Dv sg pt i k (v + 1)) (hx : Nx sg pt i k v s a b) : St_firstSlotDown (nI (60 * i + k)) M = some (nI s) := by
  have hN := hW.1
  have hlt := Dv_lt hW hi hk hv
  have hcur : M.1 15 (60 * i + k) = nI (v + 1) := (Dok_is (hD i k hi hk) (by omega) (by omega) hlt).mpr hv
  unfold St_firstSlotDown
  obtain ⟨e, g1, rfl⟩ := iter_0 (B := St_firstSlotDown_B2 (nI (60 * i + k)) M) (fun n a => a = nI n) (fun e => e = .inl (nI s)) s (by have := hx.1; omega) (fun n a9 hn ha => by
    subst ha
    left
    have hs8 := hx.1
    refine ⟨nI (n + 1), ?_, rfl⟩
    unfold St_firstSlotDown_B2
    rw [if_neg (show ¬ (8 : Int32) ≤ nI n by rw [l_8, nI_leI (by omega) (by omega)]; omega), st_behind hW hK hi hk (by omega), nI_1]
    simp only [Option.bind_some]
    cases hb : beh sg pt i k n with
    | none => rw [encP_none, if_pos rfl]
    | some q =>
      obtain ⟨x, y⟩ := q
      obtain ⟨hxN, hyN⟩ := beh_lt hW hi hk hb
      rw [encP_some, if_neg (nI_neg6 (by omega)), st_pair (by omega), st_pair (by omega), hcur]
      simp only [Option.bind_some]
      rw [nI_pred1 (by omega), Nat.add_sub_cancel, if_neg (fun z => hx.2.2.2 n x y hn hb ((Dok_is (hD x y hxN hyN) (by omega) (by omega) (by omega)).mp z))]) (fun a9 ha => by
    subst ha
    have hs8 := hx.1
    refine ⟨_, ?_, rfl⟩
    unfold St_firstSlotDown_B2
    obtain ⟨hxN, hyN⟩ := beh_lt hW hi hk hx.2.1
    rw [if_neg (show ¬ (8 : Int32) ≤ nI s by rw [l_8, nI_leI (by omega) (by omega)]; omega), st_behind hW hK hi hk (by omega), hx.2.1]
    simp only [Option.bind_some]
    rw [encP_some, if_neg (nI_neg6 (by omega)), st_pair (by omega), st_pair (by omega), hcur]
    simp only [Option.bind_some]
    rw [nI_pred1 (by omega), Nat.add_sub_cancel, if_pos ((Dok_is (hD a b hxN hyN) (by omega) (by omega) (by omega)).mpr hx.2.2.1)]) (0 : Int32) rfl
  rw [g1]
  rfl
theorem st_after (hW : WF N sg pt nm) (hK : NetK M N sg pt nm) (hD : DokK M N sg pt) {i k v n : Nat} (hi : i < N) (hk : k < N) (hv : Dv sg pt i k v) (hn : n ≤ v) : ∃ a b, Pth sg pt i k v n a b ∧ St_pairAfter (nI i) (nI k) (nI n) M = some (nI (60 * a + b)) := by
  have hN := hW.1
  have hlt := Dv_lt hW hi hk hv
  unfold St_pairAfter
  obtain ⟨e, g1, a, b, g2, g3⟩ := iter_0 (B := St_pairAfter_B11 (nI n) M) (fun m a => ∃ x y, a = (nI (60 * x + y), nI m) ∧ Pth sg pt i k v m x y) (fun e => ∃ a b, Pth sg pt i k v n a b ∧ e = nI (60 * a + b)) n (by omega) (fun m a9 hm ha => by
    obtain ⟨x, y, rfl, hp⟩ := ha
    left
    obtain ⟨hx, hy, hd⟩ := Pth_fact hW hi hk hv (by omega) hp
    rw [show v - m = (v - m - 1) + 1 by omega] at hd
    obtain ⟨s, a, b, hnx⟩ := Nx_ex hd
    have hs8 := hnx.1
    refine ⟨(nI (60 * a + b), nI (m + 1)), ?_, a, b, rfl, x, y, s, hp, hnx⟩
    unfold St_pairAfter_B11
    simp only
    rw [if_neg (show ¬ nI n ≤ nI m by rw [nI_leI (by omega) (by omega)]; omega), st_first hW hK hD hx hy hd hnx]
    simp only [Option.bind_some]
    rw [st_behind hW hK hx hy (by omega), hnx.2.1, encP_some]
    simp only [Option.bind_some, nI_1]) (fun a9 ha => by
    obtain ⟨x, y, rfl, hp⟩ := ha
    refine ⟨_, ?_, x, y, hp, rfl⟩
    unfold St_pairAfter_B11
    rw [if_pos (show nI n ≤ nI n by rw [nI_leI (by omega) (by omega)]; omega)]) (nI i * 60 + nI k, (0 : Int32)) ⟨i, k, by rw [l_60, nI_mul, nI_add, Nat.mul_comm i 60]; rfl, rfl, rfl⟩
  rw [g1, g3]
  exact ⟨a, b, g2, rfl⟩
theorem st_down_my (hD : DokK M N sg pt) (hN : N ≤ 60) {i k : Nat} (hi : i < N) (hk : k < N) (h : My sg pt i k) : St_stepsDown (nI i) (nI k) M = some (-6) := by
  unfold St_stepsDown
  rcases st_may (M := M) (sg := sg) (pt := pt) (show i < 60 by omega) (show k < 60 by omega) (hD i k hi hk) with ⟨-, g⟩ | ⟨g, -⟩
  · rw [g]; simp only [Option.bind_some]; rw [if_neg (by decide)]
  · exact absurd h g
theorem st_down_v (hW : WF N sg pt nm) (hD : DokK M N sg pt) {i k v : Nat} (hi : i < N) (hk : k < N) (h : Dv sg pt i k v) : St_stepsDown (nI i) (nI k) M = some (nI v) := by
  have hN := hW.1
  have hlt := Dv_lt hW hi hk h
  unfold St_stepsDown
  rcases st_may (M := M) (sg := sg) (pt := pt) (show i < 60 by omega) (show k < 60 by omega) (hD i k hi hk) with ⟨g, -⟩ | ⟨-, g⟩
  · exact absurd g (Dv_not h)
  · rw [g]
    simp only [Option.bind_some, if_true]
    rw [st_steps (by omega) (by omega), (Dok_is (hD i k hi hk) (by omega) (by omega) hlt).mpr h]
    rfl
/-- the reference's tables are laid -/
def DokM (M : QM) (N : Nat) (sg : Nat → Int32) (pt : Nat → Nat → Option Nat) : Prop := ∀ i k, i < N → k < N → Dok 100000 sg pt i k (M.1 12 (60 * i + k)) ∧ ((My sg pt i k ∧ M.1 11 (60 * i + k) = 1) ∨ (¬ My sg pt i k ∧ M.1 11 (60 * i + k) = 0))
theorem cOf_lt {x : Int32} {s t : Nat} (h : cOf x t < cOf x s) : t < s := by
  unfold cOf at h
  split at h
  · omega
  · split at h <;> omega
theorem mo_find (hW : WF N sg pt nm) (hM : NetM M N sg pt nm) (hD : DokM M N sg pt) {i k v s a b : Nat} (hi : i < N) (hk : k < N) (hv : Dv sg pt i k (v + 1)) (hx : Nx sg pt i k v s a b) (h18 : M.1 0 18 = nI (60 * i + k)) (x3 x4 x5 : Int32) :
    iter (Mo_follow_B50 x3 x4 x5 (nI i) (nI k) M) FU (0 : Int32) = some (nI (cOf (sg i) s)) ∧ Mo_stepTo (nI i) (nI k) (nI (cOf (sg i) s)) M = some (nI (60 * a + b)) := by
  have hN := hW.1
  have hlt := Dv_lt hW hi hk hv
  have hm : ¬ mis sg pt i k := fun z => hv.2 0 (by omega) z
  have hcur : M.1 12 (60 * i + k) = nI (v + 1) := (Dok_is (hD i k hi hk).1 (by omega) (by omega) hlt).mpr hv
  obtain ⟨c1, c2⟩ := cst_of_beh hW hi hk hm hx.2.1
  obtain ⟨haN, hbN⟩ := beh_lt hW hi hk hx.2.1
  have hst := mo_stepTo hW hM hi hk c2 hm
  rw [c1, encP_some] at hst
  refine ⟨?_, hst⟩
  obtain ⟨e, g1, rfl⟩ := iter_0 (B := Mo_follow_B50 x3 x4 x5 (nI i) (nI k) M) (fun n a => a = nI n) (fun e => e = nI (cOf (sg i) s)) (cOf (sg i) s) (by omega) (fun n a9 hn ha => by
    subst ha
    left
    refine ⟨nI (n + 1), ?_, rfl⟩
    unfold Mo_follow_B50
    rw [mo_stepTo hW hM hi hk (by omega) hm, nI_1]
    simp only [Option.bind_some]
    cases hq : cst sg pt i k n with
    | none => rw [encP_none, if_pos (by decide)]
    | some q =>
      obtain ⟨x, y⟩ := q
      obtain ⟨t, ht8, hb, hc⟩ := beh_of_cst hW hi hk hm hq
      obtain ⟨hxN, hyN⟩ := beh_lt hW hi hk hb
      rw [encP_some, if_neg (nI_pos (by omega)), ck_in (by omega) (by omega), h18, ck_in (by omega) (by omega), ix_nI (by omega), ix_nI (by omega), hcur, nI_pred1 (by omega), Nat.add_sub_cancel, if_neg (fun z => hx.2.2.2 t x y (cOf_lt (by rw [← hc]; exact hn)) hb ((Dok_is (hD x y hxN hyN).1 (by omega) (by omega) (by omega)).mp z))]) (fun a9 ha => by
    subst ha
    refine ⟨_, ?_, rfl⟩
    unfold Mo_follow_B50
    rw [hst]
    simp only [Option.bind_some]
    rw [if_neg (nI_pos (by omega)), ck_in (by omega) (by omega), h18, ck_in (by omega) (by omega), ix_nI (by omega), ix_nI (by omega), hcur, nI_pred1 (by omega), Nat.add_sub_cancel, if_pos ((Dok_is (hD a b haN hbN).1 (by omega) (by omega) (by omega)).mpr hx.2.2.1)]) (0 : Int32) rfl
  exact g1
/-- what the reference has found of the j-th step after n steps -/
def Own (sg : Nat → Int32) (pt : Nat → Nat → Option Nat) (i k v : Nat) (j : Int32) (n : Nat) (own : Int32) : Prop :=
  (∃ u x y s a b, u < n ∧ j = nI u ∧ Pth sg pt i k v u x y ∧ Nx sg pt x y (v - u - 1) s a b ∧ own = nI (cOf (sg x) s)) ∨ ((∀ u, u < n → j ≠ nI u) ∧ own = -6)
theorem mo_follow (hW : WF N sg pt nm) (hM : NetM M N sg pt nm) (hD : DokM M N sg pt) {i k v : Nat} (hi : i < N) (hk : k < N) (hv : Dv sg pt i k v) (j : Int32) :
    ∃ (own : Int32) (M2 : QM) (a b : Nat), Mo_follow (nI i) (nI k) j M = some (own, M2) ∧ Fr [0] M M2 ∧ (∀ x, x ≠ 18 → M2.1 0 x = M.1 0 x) ∧ M2.1 0 18 = nI (60 * a + b) ∧ Pth sg pt i k v v a b ∧ Own sg pt i k v j v own := by
  have hN := hW.1
  have hlt := Dv_lt hW hi hk hv
  unfold Mo_follow
  obtain ⟨e, g1, own, M2, a, b, rfl, g2, g3, g4, g5, g6⟩ := iter_0 (B := Mo_follow_B17 j)
    (fun n a9 => ∃ (own : Int32) (M2 : QM) (x y : Nat), a9 = (own, nI n, M2) ∧ Fr [0] M M2 ∧ (∀ z, z ≠ 18 → M2.1 0 z = M.1 0 z) ∧ M2.1 0 18 = nI (60 * x + y) ∧ Pth sg pt i k v n x y ∧ Own sg pt i k v j n own)
    (fun e => ∃ (own : Int32) (M2 : QM) (a b : Nat), e = (own, M2) ∧ Fr [0] M M2 ∧ (∀ z, z ≠ 18 → M2.1 0 z = M.1 0 z) ∧ M2.1 0 18 = nI (60 * a + b) ∧ Pth sg pt i k v v a b ∧ Own sg pt i k v j v own)
    v (by omega) (fun n a9 hn ha => by
      obtain ⟨own, M2, x, y, rfl, hF, h0, h18, hp, ho⟩ := ha
      left
      have hM2 : NetM M2 N sg pt nm := NetM_fr hF (h0 2 (by decide)) (by decide) hM
      have hD2 : DokM M2 N sg pt := fun i k hi hk => by rw [(hF 12 (by decide)).1, (hF 11 (by decide)).1]; exact hD i k hi hk
      obtain ⟨hx, hy, hd⟩ := Pth_fact hW hi hk hv (by omega) hp
      rw [show v - n = (v - n - 1) + 1 by omega] at hd
      obtain ⟨s, a, b, hnx⟩ := Nx_ex hd
      have hdl := Dv_lt hW hx hy hd
      obtain ⟨f1, f2⟩ := mo_find hW hM2 hD2 hx hy hd hnx h18 j own (nI n)
      obtain ⟨d1, d2⟩ := div_60 x y (by omega) (by omega)
      have hval : M2.1 12 (60 * x + y) = nI (v - n - 1 + 1) := (Dok_is (hD2 x y hx hy).1 (by omega) (by omega) hdl).mpr hd
      have J : ∀ o2 : Int32, Own sg pt i k v j (n + 1) o2 → ∃ a2, Mo_follow_L17_J111 j (nI n) (nI x) (nI y) (nI (cOf (sg x) s)) o2 M2 = some (.inr a2) ∧ ∃ (own : Int32) (M3 : QM) (x2 y2 : Nat), a2 = (own, nI (n + 1), M3) ∧ Fr [0] M M3 ∧ (∀ z, z ≠ 18 → M3.1 0 z = M.1 0 z) ∧ M3.1 0 18 = nI (60 * x2 + y2) ∧ Pth sg pt i k v (n + 1) x2 y2 ∧ Own sg pt i k v j (n + 1) own := by
        intro o2 ho2
        unfold Mo_follow_L17_J111
        rw [f2, nI_1]
        simp only [Option.bind_some]
        exact ⟨_, rfl, o2, _, a, b, rfl, Fr.i 0 hF (by decide), fun z hz => by rw [u_i_k hz]; exact h0 z hz, u_i_e, ⟨x, y, s, hp, hnx⟩, ho2⟩
      unfold Mo_follow_B17
      simp only [h18]
      rw [ck_in (by omega) (by omega), ix_nI (by omega), hval, if_neg (show ¬ nI (v - n - 1 + 1) ≤ 0 by rw [l_0, nI_leI (by omega) (by omega)]; omega), d2, d1, f1]
      simp only [Option.bind_some]
      by_cases hj : nI n = j
      · rw [if_pos hj]
        exact J _ (Or.inl ⟨n, x, y, s, a, b, by omega, hj.symm, hp, hnx, rfl⟩)
      · rw [if_neg hj]
        refine J own ?_
        rcases ho with ⟨u, x2, y2, s2, a2, b2, q1, q2⟩ | ⟨q1, q2⟩
        · exact Or.inl ⟨u, x2, y2, s2, a2, b2, by omega, q2⟩
        · refine Or.inr ⟨fun u hu he => ?_, q2⟩
          by_cases e : u = n
          · subst e; exact hj he.symm
          · exact q1 u (by omega) he)
    (fun a9 ha => by
      obtain ⟨own, M2, x, y, rfl, hF, h0, h18, hp, ho⟩ := ha
      obtain ⟨hx, hy, hd⟩ := Pth_fact hW hi hk hv (Nat.le_refl _) hp
      rw [Nat.sub_self] at hd
      have hval : M2.1 12 (60 * x + y) = nI 0 := by
        rw [(hF 12 (by decide)).1]
        exact (Dok_is (hD x y hx hy).1 (by omega) (by omega) (by omega)).mpr hd
      refine ⟨(own, M2), ?_, own, M2, x, y, rfl, hF, h0, h18, hp, ho⟩
      unfold Mo_follow_B17
      simp only [h18]
      rw [ck_in (by omega) (by omega), ix_nI (by omega), hval, if_pos (by decide)])
    ((-6 : Int32), (0 : Int32), u_i M 0 18 ((60 : Int32) * nI i + nI k)) ⟨-6, _, i, k, rfl, Fr.i 0 Fr.rf (by decide), fun z hz => u_i_k hz, by rw [u_i_e, l_60, nI_mul, nI_add], ⟨rfl, rfl⟩, Or.inr ⟨fun u hu => by omega, rfl⟩⟩
  rw [g1]
  exact ⟨own, M2, a, b, rfl, g2, g3, g4, g5, g6⟩
end WY_
