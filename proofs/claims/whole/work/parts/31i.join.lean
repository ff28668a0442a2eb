/-! JOIN: the whole run -/
section JN9
variable {MK0 MM0 : QM} {N : Nat} {sg : Nat → Int32} {pt : Nat → Nat → Option Nat} {nm : Nat → Option Nat}
def FulK (MK0 M : QM) (N : Nat) (sg : Nat → Int32) (pt : Nat → Nat → Option Nat) (nm : Nat → Option Nat) : Prop :=
  M.1 18 9 = 1 ∧ M.1 18 8 = nI N ∧ Fr [3, 4, 5, 6, 18, 19, 20, 21, 22, 23] MK0 M ∧ ∃ A f nx D, NetK M A (jS N sg f) (jP N sg pt f nx D) nm ∧ N ≤ A ∧ A ≤ 60
def FulM (MM0 M : QM) (N : Nat) (sg : Nat → Int32) (pt : Nat → Nat → Option Nat) : Prop :=
  ∃ A f P T, JM MM0 M N sg A f P T ∧ N ≤ A ∧ ∀ i s, i < N → P i s = pt i s
theorem jo_out {x4 : Int32} {M : QM} {look n : Nat} (h : M.1 18 9 = 1) : iter (Jo_joined_B45 x4 540) (n + 1) (nI look, M) = some M := by
  refine iter_d ?_
  unfold Jo_joined_B45
  dsimp only
  rw [h, if_neg one_ne]
  by_cases c1 : (540 : Int32) ≤ nI look
  · rw [if_pos c1]
  · rw [if_neg c1]
    by_cases c2 : M.1 18 7 ≤ 0
    · rw [if_pos c2]
    · rw [if_neg c2]
theorem jo_run (hW : WF N sg pt nm) (hDK : DokK MK0 N sg pt) (hDM : DokM MM0 N sg pt) (x4 : Int32) : ∀ (m A : Nat) (f : Nat → Tq) (nx : Nat → Nat) (D : Nat → Nat → Nat) (K : List Nat) (MK MM : QM) (look nK nM : Nat) (fi : Int32),
    JI N sg pt A f nx D K → JK MK0 MK N sg pt nm A f nx nx D K → JM MM0 MM N sg A f (jQ N sg pt f nx D) (jT sg pt f nx K) → 9 * (60 - A) + mu nx K ≤ m → look + m ≤ 540 → m < nK → m < nM →
    (∃ MK2 MM2, iter (Jo_joined_B45 x4 540) nK (nI look, MK) = some MK2 ∧ iter Mo_join_B76 nM (nI A, fi, MM) = some (.inl (-4, MM2)) ∧ FulK MK0 MK2 N sg pt nm ∧ FulM MM0 MM2 N sg pt) ∨
    (∃ A2 f2 nx2 D2 MK2 MM2, iter (Jo_joined_B45 x4 540) nK (nI look, MK) = some MK2 ∧ iter Mo_join_B76 nM (nI A, fi, MM) = some (.inr (nI A2, fi, MM2)) ∧ JI N sg pt A2 f2 nx2 D2 [] ∧ JK MK0 MK2 N sg pt nm A2 f2 nx2 nx2 D2 [] ∧ JM MM0 MM2 N sg A2 f2 (jQ N sg pt f2 nx2 D2) [] ∧ A ≤ A2) := by
  intro m
  induction m with
  | zero =>
    intro A f nx D K MK MM look nK nM fi hI hJ hM hmu hlk hnK hnM
    obtain ⟨nK, rfl⟩ : ∃ n', nK = n' + 1 := ⟨nK - 1, by omega⟩
    obtain ⟨nM, rfl⟩ : ∃ n', nM = n' + 1 := ⟨nM - 1, by omega⟩
    cases K with
    | nil =>
      refine Or.inr ⟨A, f, nx, D, MK, MM, iter_d ?_, iter_d ?_, hI, hJ, hM, Nat.le_refl A⟩
      · unfold Jo_joined_B45
        dsimp only
        rw [hJ.2.2.1, if_pos (show nI [].length ≤ 0 by decide)]
        by_cases c1 : (540 : Int32) ≤ nI look
        · rw [if_pos c1]
        · rw [if_neg c1]
      · unfold Mo_join_B76
        dsimp only
        rw [hM.2.2.2.2.2.1, if_pos (show nI (jT sg pt f nx []).length ≤ 0 by rw [jT]; decide)]
    | cons n K =>
      have := (hI.2.2.1 n (hI.2.2.2.2.1 n List.mem_cons_self).1 (hI.2.2.2.2.1 n List.mem_cons_self).2).2
      rw [mu] at hmu
      omega
  | succ m ih =>
    intro A f nx D K MK MM look nK nM fi hI hJ hM hmu hlk hnK hnM
    obtain ⟨nK, rfl⟩ : ∃ n', nK = n' + 1 := ⟨nK - 1, by omega⟩
    cases K with
    | nil =>
      obtain ⟨nM, rfl⟩ : ∃ n', nM = n' + 1 := ⟨nM - 1, by omega⟩
      refine Or.inr ⟨A, f, nx, D, MK, MM, iter_d ?_, iter_d ?_, hI, hJ, hM, Nat.le_refl A⟩
      · unfold Jo_joined_B45
        dsimp only
        rw [hJ.2.2.1, if_pos (show nI [].length ≤ 0 by decide)]
        by_cases c1 : (540 : Int32) ≤ nI look
        · rw [if_pos c1]
        · rw [if_neg c1]
      · unfold Mo_join_B76
        dsimp only
        rw [hM.2.2.2.2.2.1, if_pos (show nI (jT sg pt f nx []).length ≤ 0 by rw [jT]; decide)]
    | cons n K =>
      have hN := hW.1
      have hI' := hI
      obtain ⟨i1, i2, i3, i4, i5, i6, i7, i8, i9⟩ := hI
      obtain ⟨n1, n2⟩ := i5 n List.mem_cons_self
      have hn8 := (i3 n n1 n2).2
      have hlow : ∀ k, k ∈ K → k ≠ n := fun k hk => by have := (List.pairwise_cons.mp i6).1 k hk; omega
      have hlowA : ∀ k, k ∈ K → k ≠ A := fun k hk => by have := (i5 k (List.mem_cons_of_mem _ hk)).2; omega
      rw [List.length_cons] at i7
      have hb45 : ∀ MK2, Jo_goOn MK = some MK2 → iter (Jo_joined_B45 x4 540) (nK + 1) (nI look, MK) = iter (Jo_joined_B45 x4 540) nK (nI (look + 1), MK2) := by
        intro MK2 hg
        refine iter_s ?_
        unfold Jo_joined_B45
        dsimp only
        rw [if_neg (show ¬ (540 : Int32) ≤ nI look by rw [show (540 : Int32) = nI 540 from rfl, nI_leI (by omega) (by omega)]; omega), hJ.2.2.1, if_neg (show ¬ nI (n :: K).length ≤ 0 by rw [List.length_cons, l_0, nI_leI (by omega) (by omega)]; omega), hJ.2.2.2.2.1, if_pos rfl, hg, Option.bind_some, nI_1]
      rw [mu] at hmu
      by_cases h8 : nx n = 8
      · obtain ⟨MK2, g1, g2⟩ := jo_pop hI' hJ h8
        rw [hb45 MK2 g1]
        have hT : jT sg pt f nx (n :: K) = jT sg pt f nx K := by rw [jT, h8]; rfl
        rw [hT] at hM
        exact ih A f nx D K MK2 MM (look + 1) nK nM fi (JI_pop hI' h8) g2 hM (by omega) (by omega) (by omega) (by omega)
      · have hs8 : nx n < 8 := by omega
        have hmu2 : mu (upf nx n (nx n + 1)) (n :: K) + 1 = (9 - nx n) + mu nx K := by
          rw [mu, upf_e, mu_cg (nx := nx) (nx2 := upf nx n (nx n + 1)) (fun k hk => upf_ne (hlow k hk))]
          omega
        have hr : 8 - nx n = (7 - nx n) + 1 := by omega
        have h7 : 7 - (7 - nx n) = nx n := by omega
        rcases jo_look hW hI' hJ hDK rfl hs8 with ⟨t0, MK2, g1, g2⟩ | ⟨t, t0, hcase⟩
        · rw [hb45 MK2 g1]
          have hT : jT sg pt f nx (n :: K) = jT sg pt f (upf nx n (nx n + 1)) (n :: K) := by
            rw [jT, jT, upf_e, hr, tks_none (by rw [h7]; exact t0), jT_cg (f := f) (f2 := f) (nx := nx) (nx2 := upf nx n (nx n + 1)) (fun k hk => ⟨rfl, upf_ne (hlow k hk)⟩)]
            congr 2
            omega
          rw [hT] at hM
          exact ih A f _ D (n :: K) MK2 MM (look + 1) nK nM fi (JI_set hI' List.mem_cons_self rfl hs8 (fun _ _ _ => rfl) (fun t ht => by rw [t0] at ht; cases ht)) g2 (JM_cg hM (fun i b _ _ => jQ_skip n1 rfl t0 i b)) (by omega) (by omega) (by omega) (by omega)
        · have htv := jtk_v hW (i3 n n1 n2).1.1 (i3 n n1 n2).1.2.1 (i3 n n1 n2).1.2.2.1 t0
          have hT : jT sg pt f nx (n :: K) = (t, some (8 * n + nx n)) :: (tks sg pt (f n) n (7 - nx n) ++ jT sg pt f nx K) := by
            rw [jT, hr, tks_some (by rw [h7]; exact t0), h7]
            rfl
          have hT2 : jT sg pt f (upf nx n (nx n + 1)) (n :: K) = tks sg pt (f n) n (7 - nx n) ++ jT sg pt f nx K := by
            rw [jT, upf_e, jT_cg (f := f) (f2 := f) (nx := nx) (nx2 := upf nx n (nx n + 1)) (fun k hk => ⟨rfl, upf_ne (hlow k hk)⟩)]
            congr 2
            omega
          have hTl : (tks sg pt (f n) n (7 - nx n) ++ jT sg pt f nx K).length + 8 ≤ 600 := by
            rw [List.length_append]
            have a1 := tks_len (sg := sg) (pt := pt) (q := f n) (n := n) (7 - nx n)
            have a2 := jT_len (sg := sg) (pt := pt) (f := f) (nx := nx) (K := K)
            omega
          rw [hT] at hM
          obtain ⟨nM, rfl⟩ : ∃ n', nM = n' + 1 := ⟨nM - 1, by omega⟩
          have val : ∀ v MK2 MM2, v < A → Jo_goOn MK = some MK2 → JK MK0 MK2 N sg pt nm A f (upf nx n (nx n + 1)) (upf nx n (nx n + 1)) (upd2 D n (nx n) v) (n :: K) → Mo_join_B76 (nI A, fi, MM) = some (.inr (nI A, fiv fi (some (8 * n + nx n)) (nI v), MM2)) → JM MM0 MM2 N sg A f (updP (jQ N sg pt f nx D) (some (8 * n + nx n)) v) (tks sg pt (f n) n (7 - nx n) ++ jT sg pt f nx K) →
              (∃ MK2 MM2, iter (Jo_joined_B45 x4 540) (nK + 1) (nI look, MK) = some MK2 ∧ iter Mo_join_B76 (nM + 1) (nI A, fi, MM) = some (.inl (-4, MM2)) ∧ FulK MK0 MK2 N sg pt nm ∧ FulM MM0 MM2 N sg pt) ∨
              (∃ A2 f2 nx2 D2 MK2 MM2, iter (Jo_joined_B45 x4 540) (nK + 1) (nI look, MK) = some MK2 ∧ iter Mo_join_B76 (nM + 1) (nI A, fi, MM) = some (.inr (nI A2, fi, MM2)) ∧ JI N sg pt A2 f2 nx2 D2 [] ∧ JK MK0 MK2 N sg pt nm A2 f2 nx2 nx2 D2 [] ∧ JM MM0 MM2 N sg A2 f2 (jQ N sg pt f2 nx2 D2) [] ∧ A ≤ A2) := by
            intro v MK2 MM2 hv g1 g2 g3 g4
            rw [hb45 MK2 g1, iter_s g3]
            rw [← hT2] at g4
            exact ih A f _ _ (n :: K) MK2 MM2 (look + 1) nK nM fi (JI_set hI' List.mem_cons_self rfl hs8 (fun _ _ h => upd2_ne h) (fun _ _ => by rw [upd2_e]; exact hv)) g2 (JM_cg g4 (fun i b _ hb => jQ_up n1 rfl hs8 t0 i b hb)) (by omega) (by omega) (by omega) (by omega)
          rcases mo_jstep (fi := fi) hW i1 i2 hDM (fun i b hi => jQ_old hi) hM htv.1 htv.2.1 htv.2.2 (fun y hy => by cases hy; omega) hTl with ⟨j, p1, MM2, p2, p3⟩ | ⟨p0, hm⟩
          · rcases hcase with ⟨j2, c1, MK2, c2, c3⟩ | ⟨c0, -⟩
            · have e := jPl_uniq c1 p1
              subst e
              have := jPl_lt p1 htv.1 htv.2.1
              exact val _ _ _ (by omega) c2 c3 p2 p3
            · exact (jPl_icp p1 c0).elim
          · rcases hcase with ⟨j2, c1, -⟩ | ⟨c0, hc⟩
            · exact (jPl_icp c1 p0).elim
            · rcases hm with ⟨k, k1, k2, k3, MM2, k4, k5⟩ | ⟨k1, hm⟩
              · rcases hc with ⟨l, l1, l2, l3, MK2, l4, l5⟩ | ⟨l1, -⟩
                · have e := i4 l k l1 l2 k1 k2 (by rw [l3, k3])
                  subst e
                  exact val _ _ _ k2 l4 l5 k4 k5
                · exact absurd k3 (l1 k k1 k2)
              · rcases hc with ⟨l, l1, l2, l3, -⟩ | ⟨l1, hc⟩
                · exact absurd l3 (k1 l l1 l2)
                · rcases hm with ⟨a60, MM2, m1, m2⟩ | ⟨a60, MM2, m1, m2⟩
                  · rcases hc with ⟨-, MK2, q1, q2, q3, q4, q5⟩ | ⟨b60, -⟩
                    · refine Or.inl ⟨MK2, MM2, ?_, iter_d m1, ⟨q2, q3, q5, A, f, nx, D, q4, i1, i2⟩, ⟨A, f, _, _, m2, i1, fun i b hi => jQ_old hi⟩⟩
                      obtain ⟨nK, rfl⟩ : ∃ n', nK = n' + 1 := ⟨nK - 1, by omega⟩
                      rw [hb45 MK2 q1]
                      exact jo_out q2
                    · omega
                  · rcases hc with ⟨b60, -⟩ | ⟨-, MK2, q1, q2⟩
                    · omega
                    · rw [hb45 MK2 q1, iter_s m1]
                      have hne : n ≠ A := by omega
                      have hnT : jT sg pt (upg f A t) (upf (upf nx A 0) n (nx n + 1)) (A :: n :: K) = tks sg pt t A 8 ++ (tks sg pt (f n) n (7 - nx n) ++ jT sg pt f nx K) := by
                        rw [jT, upg_e, upf_ne (fun z => hne z.symm), upf_e, jT, upg_ne hne, upf_e, jT_cg (f := f) (f2 := upg f A t) (nx := nx) (nx2 := upf (upf nx A 0) n (nx n + 1)) (fun k hk => ⟨upg_ne (hlowA k hk), by rw [upf_ne (hlow k hk), upf_ne (hlowA k hk)]⟩)]
                        congr 3
                        omega
                      rw [← hnT] at m2
                      have hI2 := JI_set (n := n) (s := nx n) (D2 := upd2 D n (nx n) A) (JI_push hI' a60 p0 k1) (List.mem_cons_of_mem _ List.mem_cons_self) (by rw [upf_ne hne]) hs8 (fun _ _ h => upd2_ne h) (fun _ _ => by rw [upd2_e]; omega)
                      have hmu3 : mu (upf (upf nx A 0) n (nx n + 1)) (A :: n :: K) = 9 + (9 - (nx n + 1)) + mu nx K := by
                        rw [mu, upf_ne (fun z => hne z.symm), upf_e, mu, upf_e, mu_cg (nx := nx) (nx2 := upf (upf nx A 0) n (nx n + 1)) (fun k hk => by rw [upf_ne (hlow k hk), upf_ne (hlowA k hk)])]
                        omega
                      rcases ih (A + 1) (upg f A t) _ _ (A :: n :: K) MK2 MM2 (look + 1) nK nM fi hI2 q2 (JM_cg m2 (fun i b hi hb => by
                        rw [jQ_up (nx := upf nx A 0) (t := t) n1 (by rw [upf_ne hne]) hs8 (by rw [upg_ne hne]; exact t0) i b hb]
                        unfold updP
                        rw [jQ_new i1 i b])) (by omega) (by omega) (by omega) (by omega) with h | ⟨A2, f2, nx2, D2, MK3, MM3, z1, z2, z3, z4, z5, z6⟩
                      · exact Or.inl h
                      · exact Or.inr ⟨A2, f2, nx2, D2, MK3, MM3, z1, z2, z3, z4, z5, by omega⟩
end JN9
