/-! JOIN: the call, in both -/
theorem mo_mk {M : QM} (x1 x2 x3 x4 : Int32) : ∃ M2, iter (Mo_join_B36 x1 x2 x3 x4) FU ((0 : Int32), M) = some M2 ∧ Fr [14] M M2 ∧ ∀ c, c < 7200 → M2.1 14 c = -6 := by
  obtain ⟨M2, b1, b2⟩ := iter_0 (B := Mo_join_B36 x1 x2 x3 x4)
    (fun t v => ∃ M2, v = (nI t, M2) ∧ Fr [14] M M2 ∧ ∀ c, c < t → M2.1 14 c = -6)
    (fun M2 => Fr [14] M M2 ∧ ∀ c, c < 7200 → M2.1 14 c = -6)
    7200 (by omega)
    (by
      rintro t v ht ⟨M2, rfl, c1, c2⟩
      refine Or.inl ⟨_, ?_, u_i M2 14 t (-6), rfl, Fr.i 14 c1 (by decide), fun c hc => ?_⟩
      · unfold Mo_join_B36
        dsimp only
        rw [if_neg (show ¬ (7200 : Int32) ≤ nI t by rw [show (7200 : Int32) = nI 7200 from rfl, nI_leI (by omega) (by omega)]; omega), ck_in (by omega) (by omega), ix_nI (by omega), nI_1]
      · by_cases e : c = t
        · subst e; exact u_i_e
        · rw [u_i_k e]; exact c2 c (by omega))
    (by
      rintro v ⟨M2, rfl, c⟩
      refine ⟨M2, ?_, c⟩
      unfold Mo_join_B36
      dsimp only
      rw [if_pos (show (7200 : Int32) ≤ nI 7200 by decide)]) (0, M) ⟨M, rfl, Fr.rf, fun c hc => by omega⟩
  exact ⟨M2, b1, b2⟩
section JNB
variable {MK MM MK1 MM1 MK2 MM2 : QM} {N n : Nat} {sg : Nat → Int32} {pt : Nat → Nat → Option Nat} {nm : Nat → Option Nat}
/-- nothing was made -/
theorem Rel_same (hb : RelB n MK1 MM1 N sg pt nm) (fK : Fr [3, 4, 5, 6, 18, 19, 20, 21, 22, 23] MK1 MK2) (hK : NetK MK2 N sg pt nm) (fM : Fr [0, 2, 3, 14, 15, 16] MM1 MM2) (oM : Fo [21] MM1 MM2) (h2 : ∀ i, i < N → MM2.1 2 i = sg i) (h3 : ∀ i s, i < N → s < 8 → MM2.1 3 (8 * i + s) = enc (pt i s)) : RelB n MK2 MM2 N sg pt nm := by
  obtain ⟨g1, g2, g3, g4, g5, g6, g7, g8, g9, g10⟩ := hb
  refine ⟨g1, ?_, hK, ?_, ?_, ?_, ?_, ?_, ?_, ?_⟩
  · exact PadR_eq g2 (fK 1 (by decide)).1 (fK 2 (by decide)).1 (oM 0 (by decide)) (fM 1 (by decide)).1
  · exact ⟨by rw [oM 2 (by decide)]; exact g4.1, h2, h3, fun k hk => by rw [(fM 4 (by decide)).1]; exact g4.2.2.2 k hk⟩
  · exact StK_eq g5 (by rw [(fK 14 (by decide)).1]) (fK 15 (by decide)).1
  · exact LaM_eq g6 (oM 15 (by decide)) (fM 11 (by decide)).1 (fM 12 (by decide)).1
  · obtain ⟨r, a1, a2, a3⟩ := g7
    exact ⟨r, a1, by rw [(fK 14 (by decide)).1]; exact a2, fun i hi => by rw [(fK 17 (by decide)).1]; exact a3 i hi⟩
  · exact CoK_eq g8 (by rw [(fK 28 (by decide)).1]) (fK 29 (by decide)).2
  · exact LeK_eq g9 (by rw [(fK 31 (by decide)).1]) (fK 32 (by decide)).1
  · rw [(fK 9 (by decide)).1]; exact g10
/-- what was made is dropped -/
theorem ful_K (hW : WF N sg pt nm) (h : FulK MK1 MK2 N sg pt nm) (x : Int32) : ∃ MK3, Jo_joined_J76 x MK2 = some (-4, MK3) ∧ NetK MK3 N sg pt nm ∧ Fr [3, 4, 5, 6, 18, 19, 20, 21, 22, 23] MK1 MK3 := by
  have hN := hW.1
  obtain ⟨h1, h2, h3, A, f, nx, D, h4, h5, h6⟩ := h
  obtain ⟨a0, a1, a2, a3, a4, a5⟩ := h4
  have hnet : ∀ M : QM, M.1 3 0 = 60 → M.1 3 5 = nI N → M.1 4 = MK2.1 4 → M.1 5 = MK2.1 5 → M.1 6 = MK2.1 6 → M.1 7 = MK2.1 7 → NetK M N sg pt nm := by
    intro M e0 e5 e1 e2 e3 e4
    refine ⟨e0, e5, fun i hi => ?_, fun i hi => ?_, fun i s j hi hp => ?_, fun k hk => ?_⟩
    · rw [e1, a2 i (by omega), jS_old hi]
    · rw [e2]
      obtain ⟨m, m1, m2, m3⟩ := a3 i (by omega)
      exact ⟨m, m1, m2, fun s hs => by rw [m3 s hs, jP_old hi]⟩
    · rw [e3]
      exact a4 i s j (by omega) (by rw [jP_old hi]; exact hp)
    · rw [e4]; exact a5 k hk
  unfold Jo_joined_J76 Ne_dropFrom
  rw [h1, h2, a1, if_neg one_ne, if_neg (nI_pos (by omega))]
  by_cases c : A ≤ N
  · have : A = N := by omega
    subst this
    rw [if_pos (show nI A ≤ nI A by rw [nI_leI (by omega) (by omega)]; omega), Option.bind_some]
    exact ⟨MK2, rfl, hnet MK2 a0 a1 rfl rfl rfl rfl, h3⟩
  · rw [if_neg (show ¬ nI A ≤ nI N by rw [nI_leI (by omega) (by omega)]; omega), Option.bind_some]
    refine ⟨_, rfl, hnet _ ?_ u_i_e ?_ ?_ ?_ ?_, Fr.i 3 h3 (by decide)⟩
    · rw [u_i_k (by decide)]; exact a0
    · rw [u_i_o (by decide)]
    · rw [u_i_o (by decide)]
    · rw [u_i_o (by decide)]
    · rw [u_i_o (by decide)]
theorem join_both (hb : RelB n MK MM N sg pt nm) {i k w : Nat} (hi : i < N) (hk : k < N) (hw : w < 2) :
    ∃ (r : Int32) (MK2 MM2 : QM), Jo_joined (nI i) (nI k) (nI w) MK = some (r, MK2) ∧ Mo_join (nI i) (nI k) (nI w) MM = some (r, MM2) ∧ Rel (n + 1) MK2 MM2 := by
  have h1 := hb.1
  have h4 := hb.2.2.2.1
  have hN := h1.1
  obtain ⟨MK1, MM1, e1, e2, hb1, d1, d2, e3, e4, -⟩ := catch_both hb
  have k3 := hb1.2.2.1
  have k4 := hb1.2.2.2.1
  let q : Tq := (i, k, w)
  let f0 : Nat → Tq := fun _ => (0, 0, 0)
  let nx0 : Nat → Nat := fun _ => 8
  let D0 : Nat → Nat → Nat := fun _ _ => 0
  obtain ⟨MMa, m1, m2, m3⟩ := mo_mk (M := MM1) (nI i) (nI k) (nI w) (nI N)
  have fa : Fr [0, 14] MM1 (u_i MMa 0 21 0) := Fr.i 0 (Fr.sub m2 (by decide)) (by decide)
  have oa : Fo [21] MM1 (u_i MMa 0 21 0) := Fo.i 21 (fun x _ => by rw [(m2 0 (by decide)).1]) (by decide)
  obtain ⟨MMb, w1, w2, w3, w4, w5⟩ := mo_wait (M := u_i MMa 0 21 0) (T := []) (by rw [u_i_e]; rfl) trivial (by decide) i k w none
  have fb : Fr [0, 14, 15, 16] MM1 MMb := Fr.tr (Fr.sub fa (by decide)) (Fr.sub w4 (by decide))
  have hJM : JM MM1 MMb N sg N f0 pt [(q, none)] := by
    refine ⟨Fr.sub fb (by decide), Fo.tr oa w5, fun a ha => ?_, fun a s ha hs => ?_, fun t t1 t2 t3 => Or.inr ⟨fun n h1 h2 => by omega, ?_⟩, w2, w3⟩
    · rw [(fb 2 (by decide)).1, k4.2.1 a ha, jS_old ha]
    · rw [(fb 3 (by decide)).1]; exact mo_part k4 ha hs
    · rw [(w4 14 (by decide)).1, u_i_o (by decide)]
      exact m3 _ (by unfold cdq; omega)
  have mo : ∀ e14, iter Mo_join_B76 FU (nI N, (-6 : Int32), MMb) = some e14 → Mo_join (nI i) (nI k) (nI w) MM = Sum.elim (fun r14 => some r14) (fun (y14 : Int32 × Int32 × QM) => (if y14.1 ≤ (y14.2.2.1 0 2) then some (y14.2.1, y14.2.2) else some (y14.2.1, u_i (u_i y14.2.2 0 2 y14.1) 0 15 (0 : Int32)))) e14 := by
    intro e14 he
    unfold Mo_join
    have hin : Mo_in (nI w) (0 : Int32) (1 : Int32) MM = some 1 := by
      have := mo_in_1 (M := MM) (c := w) (a := 0) (b := 1) (by omega) (by decide) (by decide)
      rw [if_pos (show 0 ≤ w ∧ w ≤ 1 by omega)] at this
      exact this
    rw [mo_areNodes h4 hN hi hk, Option.bind_some, if_neg one_ne, hin, Option.bind_some, if_neg one_ne, e2, Option.bind_some, k4.1]
    rw [m1, Option.bind_some, show (-1 : Int32) = enA none from rfl, w1, Option.bind_some, he, Option.bind_some]
  let MKa := u_i (u_i (u_i MK1 18 8 (nI N)) 18 7 (0 : Int32)) 18 9 (0 : Int32)
  have fKa : Fr [18] MK1 MKa := Fr.i 18 (Fr.i 18 (Fr.i 18 Fr.rf (by decide)) (by decide)) (by decide)
  have hJI : JI N sg pt N f0 nx0 D0 [] := ⟨Nat.le_refl N, hN, fun n h1 h2 => by omega, fun n m h1 h2 => by omega, fun n h => absurd h List.not_mem_nil, List.Pairwise.nil, by rw [List.length_nil]; omega, fun _ _ _ _ => rfl, fun n s q h1 h2 => by omega⟩
  have hnetA : NetK MKa N sg pt nm := NetK_fr fKa (by decide) k3
  have hJK : JK MK1 MKa N sg pt nm N f0 nx0 nx0 D0 [] := by
    refine ⟨NetK_cg hnetA (fun a ha => jS_old ha) (fun a s ha _ => jP_old ha) (fun a s j ha h => ?_), Fr.sub fKa (by decide), ?_, ?_, ?_, fun n h1 h2 => by omega, trivial⟩
    · rw [jP_old ha] at h; exact (h1.2.2.1 a s j ha h).2
    · show (u_i (u_i (u_i MK1 18 8 (nI N)) 18 7 (0 : Int32)) 18 9 (0 : Int32)).1 18 7 = _
      rw [u_i_k (by decide), u_i_e]; rfl
    · show (u_i (u_i (u_i MK1 18 8 (nI N)) 18 7 (0 : Int32)) 18 9 (0 : Int32)).1 18 8 = _
      rw [u_i_k (by decide), u_i_k (by decide), u_i_e]
    · exact u_i_e
  have ko : ∀ v Mb Mc, Jo_nodeFor (nI i) (nI k) (nI w) MKa = some (v, Mb) → iter (Jo_joined_B45 v 540) FU ((0 : Int32), Mb) = some Mc → Jo_joined (nI i) (nI k) (nI w) MK = Jo_joined_J76 v Mc := by
    intro v Mb Mc g1 g2
    unfold Jo_joined
    rw [e1, Option.bind_some, kn_nodes k3, Option.bind_some, g1, Option.bind_some]
    dsimp only
    rw [g2, Option.bind_some]
  have hDa : DokK MKa N sg pt := fun a b ha hb => by rw [(fKa 15 (by decide)).1]; exact d1 a b ha hb
  have hFU : FU = (FU - 1) + 1 := by decide
  rcases mo_jstep (fi := -6) (x := none) (q := q) h1 (Nat.le_refl N) hN d2 (fun _ _ _ => rfl) hJM hi hk hw (fun y hy => by cases hy) (by rw [List.length_nil]; omega) with ⟨j, p1, MM2, p2, p3⟩ | ⟨p0, ⟨z, z1, z2, -⟩ | ⟨z1, hm⟩⟩
  · rcases jo_node (q := q) h1 hJI hJK hDa ⟨hi, hk, hw⟩ with ⟨j2, c1, c2⟩ | ⟨c0, -⟩
    · have e := jPl_uniq c1 p1
      subst e
      have hj := jPl_lt p1 hi hk
      refine ⟨nI j2, MKa, MM2, ?_, ?_, N, sg, pt, nm, Rel_same hb1 (Fr.sub fKa (by decide)) hnetA p3.1 p3.2.1 (fun a ha => ?_) (fun a s ha hs => ?_)⟩
      · rw [ko _ _ MKa c2 (by
          rw [hFU]
          refine iter_d ?_
          unfold Jo_joined_B45
          dsimp only
          rw [hJK.2.2.1, if_neg (by decide), if_pos (show nI [].length ≤ 0 by decide)])]
        unfold Jo_joined_J76
        rw [hJK.2.2.2.2.1, if_pos rfl]
      · rw [mo (.inr (nI N, nI j2, MM2)) (by
          rw [hFU, iter_s p2]
          rw [show FU - 1 = (FU - 2) + 1 by decide]
          refine iter_d ?_
          unfold Mo_join_B76
          dsimp only
          rw [p3.2.2.2.2.2.1, if_pos (show nI [].length ≤ 0 by decide)]
          rfl)]
        show (if nI N ≤ (MM2.1 0 2) then some (nI j2, MM2) else some (nI j2, u_i (u_i MM2 0 2 (nI N)) 0 15 (0 : Int32))) = some (nI j2, MM2)
        rw [p3.2.1 2 (by decide), k4.1, if_pos (show nI N ≤ nI N by rw [nI_leI (by omega) (by omega)]; omega)]
      · rw [p3.2.2.1 a ha, jS_old ha]
      · rw [p3.2.2.2.1 a s ha hs]
        unfold updP
        rw [if_neg (fun z => by cases z.1)]
    · exact (jPl_icp p1 c0).elim
  · omega
  · rcases jo_node (q := q) h1 hJI hJK hDa ⟨hi, hk, hw⟩ with ⟨j2, c1, -⟩ | ⟨c0, ⟨z, y1, y2, -⟩ | ⟨y1, hc⟩⟩
    · exact (jPl_icp c1 p0).elim
    · omega
    · rcases hm with ⟨a60, MM2, p2, p3⟩ | ⟨a60, MM2, p2, p3⟩
      · rcases hc with ⟨-, c2⟩ | ⟨b60, -⟩
        · have hf : FulK MK1 (u_i MKa 18 9 1) N sg pt nm := by
            refine ⟨u_i_e, by rw [u_i_k (by decide)]; exact hJK.2.2.2.1, Fr.i 18 hJK.2.1 (by decide), N, f0, nx0, D0, NetK_fr (T := [18]) (Fr.i 18 Fr.rf (by decide)) (by decide) hJK.1, Nat.le_refl N, hN⟩
          obtain ⟨MK3, g1, g2, g3⟩ := ful_K h1 hf (-6)
          refine ⟨-4, MK3, MM2, ?_, ?_, N, sg, pt, nm, Rel_same hb1 g3 g2 p3.1 p3.2.1 (fun a ha => by rw [p3.2.2.1 a ha, jS_old ha]) (fun a s ha hs => p3.2.2.2.1 a s ha hs)⟩
          · rw [ko _ _ (u_i MKa 18 9 1) c2 (by
              rw [hFU]
              exact jo_out (look := 0) u_i_e), g1]
          · rw [mo (.inl (-4, MM2)) (by rw [hFU]; exact iter_d p2)]
            rfl
        · omega
      · rcases hc with ⟨b60, -⟩ | ⟨-, MKb, c2, c3⟩
        · omega
        · have hI2 := JI_push hJI a60 p0 y1
          have hT : tks sg pt q N 8 ++ [] = jT sg pt (upg f0 N q) (upf nx0 N 0) [N] := by
            rw [jT, jT, upg_e, upf_e]
          rw [hT] at p3
          have hQ : ∀ a s, a < N + 1 → s < 8 → jQ N sg pt (upg f0 N q) (upf nx0 N 0) D0 a s = updP (addP sg pt pt q N) none N a s := by
            intro a s ha hs
            unfold updP
            rw [if_neg (fun z => by cases z.1), jQ_new (Nat.le_refl N)]
            unfold addP
            by_cases e : a = N
            · rw [if_pos e, if_pos e]
            · rw [if_neg e, if_neg e, jQ_old (by omega)]
          have hf1 : 9 * (60 - N) < FU := by
            have : FU = 10000000 := rfl
            omega
          have hf2 : 9 * (60 - N) < FU - 1 := by
            have : FU = 10000000 := rfl
            omega
          rcases jo_run (x4 := nI N) h1 d1 d2 (9 * (60 - N)) (N + 1) (upg f0 N q) (upf nx0 N 0) D0 [N] MKb MM2 0 FU (FU - 1) (nI N) hI2 c3 (JM_cg p3 hQ) (by rw [mu, mu, upf_e]; omega) (by omega) hf1 hf2 with ⟨MKc, MMc, g1, g2, g3, g4⟩ | ⟨A2, f2, nx2, D2, MKc, MMc, g1, g2, g3, g4, g5, g6⟩
          · obtain ⟨MK3, r1, r2, r3⟩ := ful_K h1 g3 (nI N)
            obtain ⟨A, f, P, T, s1, s2, s3⟩ := g4
            refine ⟨-4, MK3, MMc, ?_, ?_, N, sg, pt, nm, Rel_same hb1 r3 r2 s1.1 s1.2.1 (fun a ha => by rw [s1.2.2.1 a (by omega), jS_old ha]) (fun a s ha hs => by rw [s1.2.2.2.1 a s (by omega) hs, s3 a s ha])⟩
            · rw [ko _ _ MKc c2 g1, r1]
            · rw [mo (.inl (-4, MMc)) (by rw [hFU, iter_s p2]; exact g2)]
              rfl
          · have hA2 := g3.2.1
            have h8 : ∀ a, N ≤ a → a < A2 → nx2 a = 8 := fun a x1 x2 => g3.2.2.2.2.2.2.2.1 a x1 x2 List.not_mem_nil
            have s1 : ∀ a, a < N → sg a = jS N sg f2 a := fun a ha => (jS_old ha).symm
            have s2 : ∀ a, a < N → pt a = jP N sg pt f2 nx2 D2 a := fun a ha => jP_oldf ha
            have oMM : Fo [2, 15, 21] MM1 (u_i (u_i MMc 0 2 (nI A2)) 0 15 0) := Fo.i 15 (Fo.i 2 (Fo.sub g5.2.1 (by decide)) (by decide)) (by decide)
            have fMM : Fr [0, 2, 3, 14, 15, 16] MM1 (u_i (u_i MMc 0 2 (nI A2)) 0 15 0) := Fr.i 0 (Fr.i 0 g5.1 (by decide)) (by decide)
            obtain ⟨q1, q2, q3, q4, q5, q6, q7, q8, q9, q10⟩ := hb1
            refine ⟨nI N, MKc, u_i (u_i MMc 0 2 (nI A2)) 0 15 0, ?_, ?_, A2, jS N sg f2, jP N sg pt f2 nx2 D2, nm, j_WF h1 g3, ?_, g4.1, ?_, ?_, ?_, ?_, ?_, ?_, ?_⟩
            · rw [ko _ _ MKc c2 g1]
              unfold Jo_joined_J76
              rw [g4.2.2.2.2.1, if_pos rfl]
            · rw [mo (.inr (nI A2, nI N, MMc)) (by rw [hFU, iter_s p2]; exact g2)]
              show (if nI A2 ≤ (MMc.1 0 2) then some (nI N, MMc) else some (nI N, u_i (u_i MMc 0 2 (nI A2)) 0 15 (0 : Int32))) = _
              rw [g5.2.1 2 (by decide), k4.1, if_neg (show ¬ nI A2 ≤ nI N by rw [nI_leI (by omega) (by omega)]; omega)]
            · exact PadR_eq q2 (g4.2.1 1 (by decide)).1 (g4.2.1 2 (by decide)).1 (oMM 0 (by decide)) (fMM 1 (by decide)).1
            · refine ⟨?_, fun a ha => ?_, fun a s ha hs => ?_, fun c hc => ?_⟩
              · rw [u_i_k (by decide), u_i_e]
              · rw [u_i_o (by decide), u_i_o (by decide)]; exact g5.2.2.1 a ha
              · rw [u_i_o (by decide), u_i_o (by decide), g5.2.2.2.1 a s ha hs]
                by_cases z : a < N
                · rw [jQ_old z, jP_old z]
                · rw [jQ_full (by omega) (h8 a (by omega) ha) hs]
              · rw [(fMM 4 (by decide)).1]; exact q4.2.2.2 c hc
            · exact StK_ext (StK_eq q5 (by rw [(g4.2.1 14 (by decide)).1]) (g4.2.1 15 (by decide)).1) s1 s2 (by omega)
            · exact Or.inl u_i_e
            · obtain ⟨r, a1, a2, a3⟩ := q7
              exact ⟨r, a1, by rw [(g4.2.1 14 (by decide)).1]; exact a2, fun i hi => by rw [(g4.2.1 17 (by decide)).1]; exact a3 i hi⟩
            · exact CoK_ext (CoK_eq q8 (by rw [(g4.2.1 28 (by decide)).1]) (g4.2.1 29 (by decide)).2) s1 s2 (by omega)
            · exact LeK_ext (LeK_eq q9 (by rw [(g4.2.1 31 (by decide)).1]) (g4.2.1 32 (by decide)).1) s1 s2 (by omega)
            · rw [(g4.2.1 9 (by decide)).1]; exact q10
end JNB
theorem op_join : Stp_join Rel := by
  rintro n MK MM - ⟨N, sg, pt, nm, hb⟩ x y z
  have h1 := hb.1
  have h3 := hb.2.2.1
  have h4 := hb.2.2.2.1
  have hN := h1.1
  rcases nd2 x y N hN with ⟨i, k, hi, hk, rfl, rfl⟩ | hno
  · have ka : Kn_join (nI i) (nI k) z MK = if z = 0 then Jo_joined (nI i) (nI k) z MK else if z = 1 then Jo_joined (nI i) (nI k) z MK else some (-2, MK) := by
      unfold Kn_join Kn_join_J36
      rw [kn_has h3 hN hi, Option.bind_some, if_neg one_ne, kn_has h3 hN hk, Option.bind_some, if_neg one_ne, bind_eta]
    rcases nd_cases z 2 (by omega) with ⟨w, hw, rfl⟩ | hz
    · obtain ⟨r, MK2, MM2, g1, g2, g3⟩ := join_both hb hi hk hw
      refine ⟨r, MK2, MM2, ?_, g2, g3⟩
      rw [ka, g1]
      have : w = 0 ∨ w = 1 := by omega
      rcases this with rfl | rfl <;> rfl
    · have e0 : (0 : Int32).toInt = 0 := by decide
      have e1 : (1 : Int32).toInt = 1 := by decide
      refine ⟨-2, MK, MM, ?_, ?_, Rel_up ⟨N, sg, pt, nm, hb⟩⟩
      · rw [ka, if_neg (fun h => by rw [h, e0] at hz; omega), if_neg (fun h => by rw [h, e1] at hz; omega)]
      · unfold Mo_join Mo_in
        rw [mo_areNodes h4 hN hi hk, Option.bind_some, if_neg one_ne]
        by_cases c : z < 0
        · rw [if_pos c, Option.bind_some, if_pos rfl]
        · rw [if_neg c, if_pos (show (1 : Int32) < z by rw [i_lt, e1]; rw [i_lt, e0] at c; omega), Option.bind_some, if_pos rfl]
  · obtain ⟨e1, e2⟩ := no_join (z := z) h3 h4 hN hno
    exact ⟨_, _, _, e1, e2, Rel_up ⟨N, sg, pt, nm, hb⟩⟩
