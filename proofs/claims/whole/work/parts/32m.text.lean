/-! TEXT: fault, take -/
section TXA
variable {MK MM MK2 MM2 : QM} {N n : Nat} {sg : Nat → Int32} {pt : Nat → Nat → Option Nat} {nm : Nat → Option Nat}
theorem Rel_text (hb : RelB n MK MM N sg pt nm) (fK : Fr [8, 9, 10, 11, 12, 13] MK MK2) (h9 : MK2.1 9 0 = 100) (fM : Fr [0, 5, 6, 7, 8, 9, 10] MM MM2) (oM : Fo [6, 10, 14] MM MM2) : RelB n MK2 MM2 N sg pt nm := by
  obtain ⟨g1, g2, g3, g4, g5, g6, g7, g8, g9, g10⟩ := hb
  refine ⟨g1, ?_, NetK_fr fK (by decide) g3, ?_, ?_, ?_, ?_, ?_, ?_, h9⟩
  · exact PadR_eq g2 (fK 1 (by decide)).1 (fK 2 (by decide)).1 (oM 0 (by decide)) (fM 1 (by decide)).1
  · exact NetM_eq g4 (oM 2 (by decide)) (fM 2 (by decide)).1 (fM 3 (by decide)).1 (fM 4 (by decide)).1
  · exact StK_eq g5 (by rw [(fK 14 (by decide)).1]) (fK 15 (by decide)).1
  · exact LaM_eq g6 (oM 15 (by decide)) (fM 11 (by decide)).1 (fM 12 (by decide)).1
  · obtain ⟨r, a1, a2, a3⟩ := g7
    exact ⟨r, a1, by rw [(fK 14 (by decide)).1]; exact a2, fun i hi => by rw [(fK 17 (by decide)).1]; exact a3 i hi⟩
  · exact CoK_eq g8 (by rw [(fK 28 (by decide)).1]) (fK 29 (by decide)).2
  · exact LeK_eq g9 (by rw [(fK 31 (by decide)).1]) (fK 32 (by decide)).1
theorem Rel_ex (h : RelB n MK MM N sg pt nm) : Rel n MK MM := ⟨N, sg, pt, nm, h⟩
end TXA
/-- both answer the same place of a text -/
theorem op_fault : Stp_fault Rel := by
  rintro n MK MM - ⟨N, sg, pt, nm, hb⟩
  obtain ⟨rK, rM, MK2, MM2, a1, a2, a3, a4⟩ := text_both hb.2.1 hb.2.2.2.2.2.2.2.2.2
  have f1 := F_Te_read a1
  have f2 := F_Mo_faultOf a2
  have f3 := F0_Mo_faultOf a2
  have he : rM = rK := by
    rcases a4 with ⟨p, -, h1, h2⟩ | ⟨h1, h2, -⟩
    · rw [h1, h2]
    · rw [h1, h2]
  subst he
  refine ⟨rM, MK2, MM2, ?_, ?_, Rel_up (Rel_ex (Rel_text hb f1 a3 f2 f3))⟩
  · unfold Kn_fault
    rw [a1]; rfl
  · unfold Mo_fault
    rw [a2]; rfl
theorem op_take : Stp_take Rel := by
  rintro n MK MM - ⟨N, sg, pt, nm, hb⟩
  obtain ⟨rK, rM, MK2, MM2, a1, a2, a3, a4⟩ := text_both hb.2.1 hb.2.2.2.2.2.2.2.2.2
  have f1 := F_Te_read a1
  have f2 := F_Mo_faultOf a2
  have f3 := F0_Mo_faultOf a2
  have hb2 := Rel_text hb f1 a3 f2 f3
  have hup : Rel (n + 1) MK2 MM2 := Rel_up (Rel_ex hb2)
  unfold Kn_take Mo_take
  rw [a1, a2, Option.bind_some, Option.bind_some]
  dsimp only
  rcases a4 with ⟨p, h1, rfl, rfl⟩ | ⟨rfl, rfl, pn, R, q, hpn, t1, t2, t3, t4, t5, t6⟩
  · rw [if_neg (nI_neg6 (by omega)), if_neg (nI_pos (by omega))]
    exact ⟨-5, MK2, MM2, rfl, rfl, hup⟩
  · rw [if_pos rfl, if_pos (show (-6 : Int32) < 0 by decide)]
    let q' : Nat → Option Nat := fun c => if c < 8 then q c else none
    have e8 : ∀ c, c < 8 → q' c = q c := fun c hc => by show (if c < 8 then q c else none) = q c; rw [if_pos hc]
    have e9 : ∀ c, 8 ≤ c → q' c = none := fun c hc => by show (if c < 8 then q c else none) = none; rw [if_neg (by omega)]
    have h7 : ∀ c, c < 8 → MM2.1 7 c = enc (q' c) := fun c hc => by rw [e8 c hc]; exact (t5 c hc).1
    have h13 : ∀ c, c < 8 → MK2.1 13 c = enKo (q' c) := fun c hc => by rw [e8 c hc]; exact (t5 c hc).2.1
    have hq : ∀ c v, c < 8 → q' c = some v → VOk R v := fun c v hc hv => by rw [e8 c hc] at hv; exact (t5 c hc).2.2 v hv
    obtain ⟨dp, hD⟩ : ∃ dp, Drf MK2 MM2 R dp := by
      have hch : ∀ i : Nat, ∃ p : Nat → Option Nat, i < R → NOk MK2 MM2 R i p ∧ Shq (MM2.1 5 i) p := fun i => by
        by_cases hi : i < R
        · obtain ⟨p, h⟩ := t6 i hi
          exact ⟨p, fun _ => h⟩
        · exact ⟨fun _ => none, fun h => absurd h hi⟩
      obtain ⟨dp, hdp⟩ := Classical.axiomOfChoice hch
      exact ⟨dp, fun i hi => hdp i hi⟩
    rcases te_all h13 hq (by omega) t1 t2 hD with ⟨hA, b1⟩ | ⟨hA, b1⟩
    · rcases mo_all h7 hq (by omega) t3 hD with ⟨-, c1, c2⟩ | ⟨z, -⟩
      · rw [b1, Option.bind_some, if_neg one_ne, c1, Option.bind_some]
        unfold Te_nodesRead Dr_nodes
        rw [t2, Option.bind_some, Option.bind_some]
        by_cases h40 : R ≤ 40
        · rw [if_pos (show nI R ≤ 40 by rw [l_40, nI_leI (by omega) (by omega)]; exact h40)]
          obtain ⟨M4, d1, d2, d3⟩ := te_copy h13 hq h40 t1 t2 hD hA hb2.2.2.1.1
          obtain ⟨e12, e17, e22, g1, g2, g3, g4, g5, g6⟩ := mo_copy h7 hq h40 t3 hD
          rw [d1, Option.bind_some]
          unfold Pa_clear St_forget Co_forget Le_forget Ne_nodes
          rw [Option.bind_some, Option.bind_some, Option.bind_some, Option.bind_some, Option.bind_some]
          have fK : Fr [1, 14, 28, 31] M4 (u_i (u_i (u_i (u_i M4 1 1 0) 14 5 0) 28 3 0) 31 2 0) := Fr.i 31 (Fr.i 28 (Fr.i 14 (Fr.i 1 Fr.rf (by decide)) (by decide)) (by decide)) (by decide)
          have hnet := NetK_fr fK (by decide) d2
          have hMM : Mo_take_B119 = Mo_take_B119 := rfl
          refine ⟨nI R, u_i (u_i (u_i (u_i M4 1 1 0) 14 5 0) 28 3 0) 31 2 0, u_i (u_i e22 0 0 0) 0 15 0, by rw [hnet.2.1], ?_, R, MM2.1 5, dPT q' dp, dNM q', t_WF hq e9 h40 hD hA, ?_, hnet, ?_, ?_, ?_, ?_, ?_, ?_, ?_⟩
          · show Option.bind (iter (Mo_take_B53 MM2) FU (0 : Int32)) _ = _
            rw [c2, Option.bind_some]
            show (if MM2.1 0 6 ≤ (40 : Int32) then _ else _) = _
            rw [t3, if_pos (show nI R ≤ 40 by rw [l_40, nI_leI (by omega) (by omega)]; exact h40), g1, Option.bind_some, g2, Option.bind_some, g3, Option.bind_some, u_i_k (by decide), u_i_k (by decide), g4.1]
          · refine ⟨0, by omega, ?_, ?_, fun k hk => by omega⟩
            · rw [u_i_o (by decide), u_i_o (by decide), u_i_o (by decide), u_i_e]; rfl
            · rw [u_i_k (by decide), u_i_e]; rfl
          · refine NetM_eq g4 ?_ ?_ ?_ ?_
            · rw [u_i_k (by decide), u_i_k (by decide)]
            · rw [u_i_o (by decide), u_i_o (by decide)]
            · rw [u_i_o (by decide), u_i_o (by decide)]
            · rw [u_i_o (by decide), u_i_o (by decide)]
          · refine ⟨0, by omega, ?_, fun i s j hi => by omega, fun i k hi => by omega⟩
            rw [u_i_o (by decide), u_i_o (by decide), u_i_e]; rfl
          · exact Or.inl u_i_e
          · refine ReK_eq hb2.2.2.2.2.2.2.1 ?_ ?_
            · rw [u_i_o (by decide), u_i_o (by decide), u_i_k (by decide), u_i_o (by decide), (d3 14 (by decide)).1]
            · rw [(fK 17 (by decide)).1, (d3 17 (by decide)).1]
          · refine ⟨0, by omega, ?_, fun i s j hi => by omega, fun i s hi => by omega⟩
            rw [u_i_o (by decide), u_i_e]; rfl
          · refine ⟨0, fun _ => 0, by omega, u_i_e, fun i s j hi => by omega, fun i hi => by omega, fun i hi => by omega⟩
          · rw [(fK 9 (by decide)).1, (d3 9 (by decide)).1]; exact a3
        · rw [if_neg (show ¬ nI R ≤ 40 by rw [l_40, nI_leI (by omega) (by omega)]; exact h40)]
          refine ⟨-4, MK2, MM2, rfl, ?_, hup⟩
          show Option.bind (iter (Mo_take_B53 MM2) FU (0 : Int32)) _ = _
          rw [c2, Option.bind_some]
          show (if MM2.1 0 6 ≤ (40 : Int32) then _ else _) = _
          rw [t3, if_neg (show ¬ nI R ≤ 40 by rw [l_40, nI_leI (by omega) (by omega)]; exact h40)]
      · exact absurd hA z
    · rcases mo_all h7 hq (by omega) t3 hD with ⟨z, -⟩ | ⟨-, c⟩
      · exact absurd z hA
      · rw [b1, Option.bind_some, if_pos rfl]
        refine ⟨-5, MK2, MM2, rfl, ?_, hup⟩
        rcases c with c1 | ⟨c1, c2⟩
        · rw [c1, Option.bind_some]; rfl
        · rw [c1, Option.bind_some]
          show Option.bind (iter (Mo_take_B53 MM2) FU (0 : Int32)) _ = _
          rw [c2, Option.bind_some]; rfl
