/-! JOIN: in the program that landed -/
theorem upg_e {f : Nat → Tq} {n : Nat} {q : Tq} : upg f n q n = q := by simp [upg]
theorem upg_ne {f : Nat → Tq} {n x : Nat} {q : Tq} (h : x ≠ n) : upg f n q x = f x := by simp [upg, h]
section JN2
variable {M M0 : QM} {N A : Nat} {sg : Nat → Int32} {pt : Nat → Nat → Option Nat} {nm : Nat → Option Nat} {f : Nat → Tq} {na nx : Nat → Nat} {D : Nat → Nat → Nat} {K : List Nat}
theorem jP_lt (hW : WF N sg pt nm) {i s j : Nat} (hn : N ≤ i → nx i ≤ 8) (h : jP N sg pt f nx D i s = some j) : s < 8 := by
  unfold jP at h
  by_cases c : i < N
  · rw [if_pos c] at h; exact (hW.2.2.1 i s j c h).2
  · rw [if_neg c] at h
    by_cases c2 : s < nx i
    · have := hn (by omega); omega
    · rw [if_neg c2] at h; cases h
theorem tq_eq {a b : Tq} (h1 : a.1 = b.1) (h2 : a.2.1 = b.2.1) (h3 : a.2.2 = b.2.2) : a = b := by
  obtain ⟨a1, a2, a3⟩ := a
  obtain ⟨b1, b2, b3⟩ := b
  simp_all
/-- looking for a made node -/
theorem jo_made (hI : ∀ n, N ≤ n → n < A → Icp N sg pt (f n)) (hNA : N ≤ A) (hA : A ≤ 60) (hJ : JK M0 M N sg pt nm A f na nx D K) {q : Tq} (hq : q.1 < N ∧ q.2.1 < N ∧ q.2.2 < 2) :
    (∃ n, N ≤ n ∧ n < A ∧ f n = q ∧ Jo_madeFor (nI q.1) (nI q.2.1) (nI q.2.2) M = some (nI n)) ∨ ((∀ n, N ≤ n → n < A → f n ≠ q) ∧ Jo_madeFor (nI q.1) (nI q.2.1) (nI q.2.2) M = some (-6)) := by
  obtain ⟨j1, j2, j3, j4, j5, j6, j7⟩ := hJ
  obtain ⟨e, b1, b2⟩ := iter_0 (B := Jo_madeFor_B10 (nI q.1) (nI q.2.1) (nI q.2.2) M)
    (fun t v => v = nI (N + t) ∧ ∀ n, N ≤ n → n < N + t → f n ≠ q)
    (fun e => (∃ n, N ≤ n ∧ n < A ∧ f n = q ∧ e = .inl (nI n)) ∨ ((∀ n, N ≤ n → n < A → f n ≠ q) ∧ e = .inr ()))
    (A - N) (by omega)
    (by
      rintro t v ht ⟨rfl, hv⟩
      obtain ⟨i1, i2, i3, -⟩ := hI (N + t) (by omega) (by omega)
      obtain ⟨k1, k2, k3, -⟩ := j6 (N + t) (by omega) (by omega)
      unfold Jo_madeFor_B10
      rw [kn_nodes j1, Option.bind_some, if_neg (show ¬ nI A ≤ nI (N + t) by rw [nI_leI (by omega) (by omega)]; omega), if_neg (show ¬ (60 : Int32) ≤ nI (N + t) by rw [l_60, nI_leI (by omega) (by omega)]; omega), ck_in (by omega) (by omega), ck_in (by omega) (by omega), ck_in (by omega) (by omega), ix_nI (by omega), k1, k2, k3, nI_1]
      by_cases c1 : (f (N + t)).1 = q.1
      · rw [if_pos (by rw [c1])]
        by_cases c2 : (f (N + t)).2.1 = q.2.1
        · rw [if_pos (by rw [c2])]
          by_cases c3 : (f (N + t)).2.2 = q.2.2
          · rw [if_pos (by rw [c3])]
            exact Or.inr ⟨_, rfl, Or.inl ⟨N + t, by omega, by omega, tq_eq c1 c2 c3, rfl⟩⟩
          · rw [if_neg (fun h => c3 ((nI_eq (by omega) (by omega)).mp h))]
            refine Or.inl ⟨_, rfl, rfl, fun n h1 h2 => ?_⟩
            by_cases en : n = N + t
            · rw [en]; exact fun h => c3 (by rw [h])
            · exact hv n h1 (by omega)
        · rw [if_neg (fun h => c2 ((nI_eq (by omega) (by omega)).mp h))]
          refine Or.inl ⟨_, rfl, rfl, fun n h1 h2 => ?_⟩
          by_cases en : n = N + t
          · rw [en]; exact fun h => c2 (by rw [h])
          · exact hv n h1 (by omega)
      · rw [if_neg (fun h => c1 ((nI_eq (by omega) (by omega)).mp h))]
        refine Or.inl ⟨_, rfl, rfl, fun n h1 h2 => ?_⟩
        by_cases en : n = N + t
        · rw [en]; exact fun h => c1 (by rw [h])
        · exact hv n h1 (by omega))
    (by
      rintro v ⟨rfl, hv⟩
      refine ⟨.inr (), ?_, Or.inr ⟨fun n h1 h2 => hv n h1 (by omega), rfl⟩⟩
      unfold Jo_madeFor_B10
      rw [kn_nodes j1, Option.bind_some, if_pos (show nI A ≤ nI (N + (A - N)) by rw [nI_leI (by omega) (by omega)]; omega)]) (nI N) ⟨rfl, fun n h1 h2 => by omega⟩
  unfold Jo_madeFor
  rw [j4, if_neg (nI_pos (by omega)), b1, Option.bind_some]
  rcases b2 with ⟨n, n1, n2, n3, rfl⟩ | ⟨n1, rfl⟩
  · exact Or.inl ⟨n, n1, n2, n3, rfl⟩
  · exact Or.inr ⟨n1, rfl⟩
theorem jS_old {i : Nat} (h : i < N) : jS N sg f i = sg i := by unfold jS; rw [if_pos h]
theorem jS_new {i : Nat} (h : N ≤ i) : jS N sg f i = jsg sg (f i) := by unfold jS; rw [if_neg (by omega)]
theorem jP_old {i s : Nat} (h : i < N) : jP N sg pt f nx D i s = pt i s := by unfold jP; rw [if_pos h]
theorem jo_sign (hJ : JK M0 M N sg pt nm A f na nx D K) (hNA : N ≤ A) (hA : A ≤ 60) {i : Nat} (hi : i < N) : Ne_signOf (nI i) M = some (sg i) := by
  rw [kn_sign hJ.1 hA (by omega), jS_old hi]
/-- a node is begun -/
theorem jo_begin (hW : WF N sg pt nm) (hI : JI N sg pt A f nx D K) (hJ : JK M0 M N sg pt nm A f na nx D K) {q : Tq} (hq : q.1 < N ∧ q.2.1 < N ∧ q.2.2 < 2) :
    (A = 60 ∧ Jo_begin (nI q.1) (nI q.2.1) (nI q.2.2) M = some (-6, u_i M 18 9 1)) ∨
    (A < 60 ∧ ∃ M2, Jo_begin (nI q.1) (nI q.2.1) (nI q.2.2) M = some (nI A, M2) ∧ JK M0 M2 N sg pt nm (A + 1) (upg f A q) (upf na A 0) (upf nx A 0) D (A :: K)) := by
  obtain ⟨i1, i2, i3, i4, i5, i6, i7, i8, i9⟩ := hI
  have hs1 := jo_sign hJ i1 i2 hq.1
  have hs2 := jo_sign hJ i1 i2 hq.2.1
  have key : Jo_begin (nI q.1) (nI q.2.1) (nI q.2.2) M = Jo_begin_J36 (nI q.1) (nI q.2.1) (nI q.2.2) (jsg sg q) M := by
    unfold Jo_begin Jo_begin_J34
    rw [hs1, hs2, Option.bind_some, Option.bind_some]
    unfold jsg
    by_cases c : sg q.1 = sg q.2.1
    · rw [if_pos c, if_pos c]
    · rw [if_neg c, if_neg c]
      by_cases c2 : q.2.2 = 0
      · rw [if_pos c2, if_pos (by rw [c2]; rfl)]
      · rw [if_neg c2, if_neg (show ¬ nI q.2.2 = 0 from fun h => c2 ((nI_eq (b := 0) (by omega) (by omega)).mp h))]
  rw [key]
  unfold Jo_begin_J36
  obtain ⟨j1, j2, j3, j4, j5, j6, j7⟩ := hJ
  by_cases hA : A = 60
  · refine Or.inl ⟨hA, ?_⟩
    subst hA
    rw [kn_add_full j1, Option.bind_some]
    rfl
  · refine Or.inr ⟨by omega, ?_⟩
    rw [kn_add j1 (by omega), Option.bind_some]
    have hnet := kn_add_net (sg2 := jS N sg (upg f A q)) (pt2 := jP N sg pt (upg f A q) (upf nx A 0) D) j1 (by omega) (jsg sg q)
      (fun i hi => by unfold jS; rw [upg_ne (by omega)])
      (by unfold jS; rw [if_neg (by omega), upg_e])
      (fun i s hi hs => by unfold jP; rw [upg_ne (by omega), upf_ne (by omega)])
      (fun s => by unfold jP; rw [if_neg (by omega), upf_e, if_neg (by omega)])
      (fun i s j hi hp => jP_lt hW (fun h => by rw [upf_ne (by omega)]; exact (i3 i h hi).2) hp)
    have hK60 : K.length < 60 := by omega
    generalize hM1 : u_i (u_i (u_i M 4 A (jsg sg q)) 5 A 0) 3 5 (nI (A + 1)) = M1 at hnet ⊢
    have fr1 : Fr [3, 4, 5, 6, 18, 19, 20, 21, 22, 23] M0 M1 := by
      rw [← hM1]
      exact Fr.i 3 (Fr.i 5 (Fr.i 4 j2 (by decide)) (by decide)) (by decide)
    have ff : Fr [3, 4, 5] M M1 := by
      rw [← hM1]
      exact Fr.i 3 (Fr.i 5 (Fr.i 4 Fr.rf (by decide)) (by decide)) (by decide)
    have e18 : M1.1 18 = M.1 18 := (ff 18 (by decide)).1
    dsimp only
    have b18 : ∀ (P : QM) (o k : Nat) (v : Int32), 18 ≠ o → (u_i P o k v).1 18 7 = P.1 18 7 := fun P o k v h => by rw [u_i_o h]
    rw [b18 _ 23 _ _ (by decide), b18 _ 22 _ _ (by decide), b18 _ 21 _ _ (by decide), b18 _ 20 _ _ (by decide), b18 _ 19 _ _ (by decide), e18, j3]
    rw [if_neg (nI_pos (by omega)), if_neg (show ¬ (60 : Int32) ≤ nI A by rw [l_60, nI_leI (by omega) (by omega)]; omega), if_neg (nI_pos (by omega)), if_pos (show nI K.length < 60 by rw [l_60, nI_ltI (by omega) (by omega)]; exact hK60), ck_in (by omega) (by omega), ck_in (by omega) (by omega), ck_in (by omega) (by omega), ck_in (by omega) (by omega), ck_in (by omega) (by omega), ix_nI (by omega), ix_nI (by omega), nI_1]
    refine ⟨_, rfl, ?_, ?_, ?_, ?_, ?_, ?_, ?_⟩
    · exact NetK_fr (T := [18, 19, 20, 21, 22, 23]) (Fr.i 18 (Fr.i 23 (Fr.i 22 (Fr.i 21 (Fr.i 20 (Fr.i 19 Fr.rf (by decide)) (by decide)) (by decide)) (by decide)) (by decide)) (by decide)) (by decide) hnet
    · exact Fr.i 18 (Fr.i 23 (Fr.i 22 (Fr.i 21 (Fr.i 20 (Fr.i 19 fr1 (by decide)) (by decide)) (by decide)) (by decide)) (by decide)) (by decide)
    · rw [u_i_e]; rfl
    · rw [u_i_k (by decide), u_i_o (by decide), u_i_o (by decide), u_i_o (by decide), u_i_o (by decide), u_i_o (by decide), e18]; exact j4
    · rw [u_i_k (by decide), u_i_o (by decide), u_i_o (by decide), u_i_o (by decide), u_i_o (by decide), u_i_o (by decide), e18]; exact j5
    · intro n h1 h2
      rw [u_i_o (by decide), u_i_o (by decide), u_i_o (by decide), u_i_o (by decide), u_i_o (by decide)]
      rw [u_i_o (o := 18) (by decide), u_i_o (o := 23) (by decide), u_i_o (o := 22) (by decide), u_i_o (o := 21) (by decide)]
      rw [u_i_o (o := 18) (by decide), u_i_o (o := 23) (by decide), u_i_o (o := 22) (by decide)]
      rw [u_i_o (o := 18) (by decide), u_i_o (o := 23) (by decide)]
      by_cases e : n = A
      · subst e
        rw [u_i_e, u_i_e, u_i_e, u_i_e, upg_e, upf_e]
        exact ⟨rfl, rfl, rfl, rfl⟩
      · rw [u_i_k e, u_i_k e, u_i_k e, u_i_k e, upg_ne e, upf_ne e]
        rw [u_i_o (by decide), u_i_o (by decide), u_i_o (by decide), u_i_o (by decide), u_i_o (by decide), u_i_o (by decide)]
        rw [(ff 19 (by decide)).1, (ff 20 (by decide)).1, (ff 21 (by decide)).1, (ff 22 (by decide)).1]
        exact j6 n h1 (by omega)
    · refine ⟨?_, StkK_eq j7 (fun x hx => ?_)⟩
      · rw [u_i_o (by decide), u_i_e]
      · rw [u_i_o (by decide), u_i_k (by omega), u_i_o (by decide), u_i_o (by decide), u_i_o (by decide), u_i_o (by decide), (ff 23 (by decide)).1]
theorem jo_node (hW : WF N sg pt nm) (hI : JI N sg pt A f nx D K) (hJ : JK M0 M N sg pt nm A f na nx D K) (hD : DokK M N sg pt) {q : Tq} (hq : q.1 < N ∧ q.2.1 < N ∧ q.2.2 < 2) :
    (∃ j, jPl sg pt q j ∧ Jo_nodeFor (nI q.1) (nI q.2.1) (nI q.2.2) M = some (nI j, M)) ∨
    (Icp N sg pt q ∧ ((∃ n, N ≤ n ∧ n < A ∧ f n = q ∧ Jo_nodeFor (nI q.1) (nI q.2.1) (nI q.2.2) M = some (nI n, M)) ∨ ((∀ n, N ≤ n → n < A → f n ≠ q) ∧ ((A = 60 ∧ Jo_nodeFor (nI q.1) (nI q.2.1) (nI q.2.2) M = some (-6, u_i M 18 9 1)) ∨
      (A < 60 ∧ ∃ M2, Jo_nodeFor (nI q.1) (nI q.2.1) (nI q.2.2) M = some (nI A, M2) ∧ JK M0 M2 N sg pt nm (A + 1) (upg f A q) (upf na A 0) (upf nx A 0) D (A :: K)))))) := by
  have hN := hW.1
  have hI' := hI
  obtain ⟨i1, i2, i3, i4, i5, i6, i7, i8, i9⟩ := hI
  have hw : q.2.2 = 0 ∨ q.2.2 = 1 := by omega
  unfold Jo_nodeFor Jo_nodeFor_J32 Jo_nodeFor_J42 Jo_nodeFor_J54 Jo_nodeFor_J57 Jo_nodeFor_J62
  rcases st_may (by omega) (by omega) (hD q.1 q.2.1 hq.1 hq.2.1) with ⟨a1, a2⟩ | ⟨a1, a2⟩
  · rcases st_may (by omega) (by omega) (hD q.2.1 q.1 hq.2.1 hq.1) with ⟨b1, b2⟩ | ⟨b1, b2⟩
    · refine Or.inl ⟨q.1, Or.inl ⟨a1, b1, rfl⟩, ?_⟩
      rw [a2, b2]
      rfl
    · refine Or.inl ⟨_, Or.inr (Or.inl ⟨a1, b1, rfl⟩), ?_⟩
      rw [a2, b2]
      rcases hw with h | h <;> rw [h] <;> rfl
  · rcases st_may (by omega) (by omega) (hD q.2.1 q.1 hq.2.1 hq.1) with ⟨b1, b2⟩ | ⟨b1, b2⟩
    · refine Or.inl ⟨_, Or.inr (Or.inr ⟨a1, b1, rfl⟩), ?_⟩
      rw [a2, b2]
      rcases hw with h | h <;> rw [h] <;> rfl
    · refine Or.inr ⟨⟨hq.1, hq.2.1, hq.2.2, a1, b1⟩, ?_⟩
      rw [a2, b2, Option.bind_some, Option.bind_some, if_pos rfl, if_pos rfl]
      rcases jo_made (fun n h1 h2 => (i3 n h1 h2).1) i1 i2 hJ hq with ⟨n, n1, n2, n3, n4⟩ | ⟨n1, n2⟩
      · refine Or.inl ⟨n, n1, n2, n3, ?_⟩
        rw [n4, Option.bind_some, if_neg (nI_neg6 (by omega))]
      · refine Or.inr ⟨n1, ?_⟩
        rw [n2, Option.bind_some, if_pos rfl]
        rcases jo_begin hW hI' hJ hq with ⟨c1, c2⟩ | ⟨c1, M2, c2, c3⟩
        · exact Or.inl ⟨c1, by rw [c2]; rfl⟩
        · exact Or.inr ⟨c1, M2, by rw [c2]; rfl, c3⟩
end JN2
