/-! TEXT: the copy -/
section TX9
variable {M MK MM : QM} {R : Nat} {q : Nat → Option Nat} {dp : Nat → Nat → Option Nat}
noncomputable def dPT (q : Nat → Option Nat) (dp : Nat → Nat → Option Nat) : Nat → Nat → Option Nat := fun i s => rsv q (dp i s)
noncomputable def dNM (q : Nat → Option Nat) : Nat → Option Nat := fun c => rsv q (q c)
theorem fill_7 (v : Int32) : ∃ M2, Fi_7 v M = some M2 ∧ Fr [7] M M2 ∧ ∀ x, x < 8 → M2.1 7 x = v := by
  obtain ⟨M2, b1, b2⟩ := iter_0 (B := Fi_7_B5 v (Nat.toInt32 8))
    (fun t w => ∃ M2, w = (nI t, M2) ∧ Fr [7] M M2 ∧ ∀ c, c < t → M2.1 7 c = v)
    (fun M2 => Fr [7] M M2 ∧ ∀ c, c < 8 → M2.1 7 c = v)
    8 (by omega)
    (by
      rintro t w ht ⟨M2, rfl, c1, c2⟩
      refine Or.inl ⟨_, ?_, u_i M2 7 t v, rfl, Fr.i 7 c1 (by decide), fun c hc => ?_⟩
      · unfold Fi_7_B5
        dsimp only
        rw [if_neg (show ¬ (Nat.toInt32 8) ≤ nI t by rw [show Nat.toInt32 8 = nI 8 from rfl, nI_leI (by omega) (by omega)]; omega), ck_in ht (by omega), ix_nI (by omega), nI_1]
      · by_cases e : c = t
        · subst e; exact u_i_e
        · rw [u_i_k e]; exact c2 c (by omega))
    (by
      rintro w ⟨M2, rfl, c⟩
      refine ⟨M2, ?_, c⟩
      unfold Fi_7_B5
      dsimp only
      rw [if_pos (show Nat.toInt32 8 ≤ nI 8 by decide)]) (0, M) ⟨M, rfl, Fr.rf, fun c hc => by omega⟩
  refine ⟨M2, ?_, b2⟩
  unfold Fi_7
  rw [b1]; rfl
theorem dPT_lt (hD : Drf MK MM R dp) {i s j : Nat} (hi : i < R) (h : dPT q dp i s = some j) : s < 8 := by
  unfold dPT at h
  cases e : dp i s with
  | none => rw [e, rsv_none] at h; cases h
  | some v => exact ((hD i hi).1.2.2.2.1 s v e).1
theorem te_copy (h13 : ∀ c, c < 8 → MK.1 13 c = enKo (q c)) (hq : ∀ c v, c < 8 → q c = some v → VOk R v) (hR : R ≤ 40) (h0 : MK.1 9 0 = 100) (h5 : MK.1 9 5 = nI R) (hD : Drf MK MM R dp) (hA : AllC R q dp) (h3 : MK.1 3 0 = 60) :
    ∃ M2, Te_copyInto MK = some M2 ∧ NetK M2 R (MM.1 5) (dPT q dp) (dNM q) ∧ Fr [3, 4, 5, 6, 7] MK M2 := by
  have dv : ∀ i s, i < R → ∀ v, dp i s = some v → VOk R v := fun i s hi v hv => ((hD i hi).1.2.2.2.1 s v hv).2.1
  have hO : ∀ (P : QM) i, Fr [3, 4, 5, 6, 7] MK P → i < R → NOk P MM R i (dp i) := fun P i f hi => NOk_keep (hD i hi).1 (Nat.le_refl R) (by rw [(f 10 (by decide)).1]) (by rw [(f 11 (by decide)).1]) (fun s _ => by rw [(f 12 (by decide)).1]) rfl (fun _ _ => rfl)
  have h13' : ∀ (P : QM), Fr [3, 4, 5, 6, 7] MK P → ∀ c, c < 8 → P.1 13 c = enKo (q c) := fun P f c hc => by rw [(f 13 (by decide)).1]; exact h13 c hc
  obtain ⟨M1, a1, a2, a3⟩ := fill_7 (M := u_i MK 3 5 0) (-6)
  have f1 : Fr [3, 4, 5, 6, 7] MK M1 := Fr.tr (Fr.i 3 Fr.rf (by decide)) (Fr.sub a2 (by decide))
  have n1 : NetK M1 0 (MM.1 5) (dPT q dp) (fun _ => none) := by
    refine ⟨?_, ?_, fun i hi => by omega, fun i hi => by omega, fun i s j hi => by omega, fun c hc => a3 c hc⟩
    · rw [(a2 3 (by decide)).1, u_i_k (by decide)]; exact h3
    · rw [(a2 3 (by decide)).1, u_i_e]; rfl
  have inner : ∀ (t : Nat) (P : QM), t < R → Fr [3, 4, 5, 6, 7] MK P → NetK P (t + 1) (MM.1 5) (fun a s => if a = t then none else dPT q dp a s) (fun _ => none) → ∃ P2, iter (Te_copyInto_B33 (nI t) (nI t)) FU ((0 : Int32), P) = some P2 ∧ NetK P2 (t + 1) (MM.1 5) (dPT q dp) (fun _ => none) ∧ Fr [3, 4, 5, 6, 7] MK P2 := by
    intro t P ht fP nP
    obtain ⟨P2, b1, b2, b3⟩ := iter_0 (B := Te_copyInto_B33 (nI t) (nI t))
      (fun u v => ∃ P2, v = (nI u, P2) ∧ NetK P2 (t + 1) (MM.1 5) (fun a s => if a = t then (if s < u then dPT q dp t s else none) else dPT q dp a s) (fun _ => none) ∧ Fr [3, 4, 5, 6, 7] MK P2)
      (fun P2 => NetK P2 (t + 1) (MM.1 5) (dPT q dp) (fun _ => none) ∧ Fr [3, 4, 5, 6, 7] MK P2)
      8 (by omega)
      (by
        rintro u v hu ⟨P2, rfl, c1, c2⟩
        refine Or.inl ?_
        have vd : ∀ v, dp t u = some v → v < 1000 := fun v hv => by rcases dv t u ht v hv with z | z <;> omega
        have lt8 : ∀ a b c, a < t + 1 → (fun a s => if a = t then (if s < u + 1 then dPT q dp t s else none) else dPT q dp a s) a b = some c → b < 8 := by
          intro a b c ha h
          dsimp only at h
          by_cases e : a = t
          · rw [if_pos e] at h
            by_cases e2 : b < u + 1
            · omega
            · rw [if_neg e2] at h; cases h
          · rw [if_neg e] at h; exact dPT_lt hD (by omega) h
        unfold Te_copyInto_B33
        dsimp only
        rw [if_neg (show ¬ (8 : Int32) ≤ nI u by rw [l_8, nI_leI (by omega) (by omega)]; omega), dr_part (MM := MM) (by rw [(c2 9 (by decide)).1]; exact h0) (by rw [(c2 9 (by decide)).1]; exact h5) (by omega) ht hu (hO P2 t c2 ht), Option.bind_some, nI_1]
        by_cases c : dp t u = none
        · rw [if_pos ((enKo_none vd).mpr c)]
          refine ⟨_, rfl, P2, rfl, NetK_cg c1 (fun _ _ => rfl) (fun a b ha hb => ?_) lt8, c2⟩
          by_cases e : a = t
          · rw [if_pos e, if_pos e]
            by_cases e2 : b < u
            · rw [if_pos e2, if_pos (by omega)]
            · rw [if_neg e2]
              by_cases e3 : b < u + 1
              · have : b = u := by omega
                rw [if_pos e3, this]
                unfold dPT
                rw [c, rsv_none]
              · rw [if_neg e3]
          · rw [if_neg e, if_neg e]
        · rw [if_neg (fun z => c ((enKo_none vd).mp z)), te_nodeOf (h13' P2 c2) hq (by omega) (dv t u ht), Option.bind_some]
          have hne := hA.2 t u ht hu c
          obtain ⟨j, hj⟩ : ∃ j, rsv q (dp t u) = some j := by
            cases e : rsv q (dp t u) with
            | none => exact absurd e hne
            | some j => exact ⟨j, rfl⟩
          obtain ⟨P3, d1, d2, d3⟩ := kn_set (pt2 := fun a s => if a = t then (if s < u + 1 then dPT q dp t s else none) else dPT q dp a s) c1 (by omega) (i := t) (s := u) (j := j) (by omega) hu
            (fun a b ha hb => by
              by_cases e : a = t
              · by_cases e2 : b = u
                · rw [if_pos e, if_pos (by omega), if_pos ⟨e, e2⟩, e2]
                  exact hj
                · rw [if_pos e, if_neg (show ¬ (a = t ∧ b = u) from fun z => e2 z.2), if_pos e]
                  by_cases e3 : b < u
                  · rw [if_pos e3, if_pos (by omega)]
                  · rw [if_neg e3, if_neg (by omega)]
              · rw [if_neg e, if_neg (show ¬ (a = t ∧ b = u) from fun z => e z.1), if_neg e]) lt8
          rw [hj, enc_some, d1, Option.bind_some]
          exact ⟨_, rfl, P3, rfl, d2, Fr.tr c2 (Fr.sub d3 (by decide))⟩)
      (by
        rintro v ⟨P2, rfl, c1, c2⟩
        refine ⟨P2, ?_, NetK_cg c1 (fun _ _ => rfl) (fun a b ha hb => ?_) (fun a b c ha h => dPT_lt hD (by omega) h), c2⟩
        · unfold Te_copyInto_B33
          dsimp only
          rw [if_pos (show (8 : Int32) ≤ nI 8 by decide)]
        · by_cases e : a = t
          · rw [if_pos e, if_pos hb, e]
          · rw [if_neg e]) (0, P) ⟨P, rfl, NetK_cg nP (fun _ _ => rfl) (fun a b ha hb => by
            by_cases e : a = t
            · rw [if_pos e, if_pos e, if_neg (by omega)]
            · rw [if_neg e, if_neg e]) (fun a b c ha h => by
            by_cases e : a = t
            · rw [if_pos e, if_neg (by omega)] at h; cases h
            · rw [if_neg e] at h; exact dPT_lt hD (by omega) h), fP⟩
    exact ⟨P2, b1, b2, b3⟩
  obtain ⟨M2, b1, b2, b3⟩ := iter_0 (B := Te_copyInto_B6)
    (fun t v => ∃ P, v = (nI t, P) ∧ NetK P t (MM.1 5) (dPT q dp) (fun _ => none) ∧ Fr [3, 4, 5, 6, 7] MK P)
    (fun P => NetK P R (MM.1 5) (dPT q dp) (fun _ => none) ∧ Fr [3, 4, 5, 6, 7] MK P)
    R (by omega)
    (by
      rintro t v ht ⟨P, rfl, c1, c2⟩
      refine Or.inl ?_
      have sgn : Dr_signOf (nI t) P = some (MM.1 5 t) := by
        unfold Dr_signOf
        rw [(c2 9 (by decide)).1, h5, h0, if_neg (nI_pos (by omega)), if_neg (show ¬ nI R ≤ nI t by rw [nI_leI (by omega) (by omega)]; omega), if_neg (show ¬ (100 : Int32) ≤ nI t by rw [l_100, nI_leI (by omega) (by omega)]; omega), ck_in (by omega) (by omega), ix_nI (by omega), (c2 10 (by decide)).1, (hD t ht).1.1]
      have net2 := kn_add_net (sg2 := MM.1 5) (pt2 := fun a s => if a = t then none else dPT q dp a s) c1 (by omega) (MM.1 5 t) (fun _ _ => rfl) rfl (fun a s ha _ => by rw [if_neg (by omega)]) (fun s => by rw [if_pos rfl]) (fun a s j ha h => by rw [if_neg (by omega)] at h; exact dPT_lt hD (by omega) h)
      obtain ⟨P2, d1, d2, d3⟩ := inner t _ ht (Fr.tr c2 (Fr.i 3 (Fr.i 5 (Fr.i 4 Fr.rf (by decide)) (by decide)) (by decide))) net2
      refine ⟨_, ?_, P2, rfl, d2, d3⟩
      unfold Te_copyInto_B6 Dr_nodes
      dsimp only
      rw [(c2 9 (by decide)).1, h5, Option.bind_some, if_neg (show ¬ nI R ≤ nI t by rw [nI_leI (by omega) (by omega)]; omega), sgn, Option.bind_some, kn_add c1 (by omega), Option.bind_some, d1, Option.bind_some, nI_1])
    (by
      rintro v ⟨P, rfl, c1, c2⟩
      refine ⟨P, ?_, c1, c2⟩
      unfold Te_copyInto_B6 Dr_nodes
      dsimp only
      rw [(c2 9 (by decide)).1, h5, Option.bind_some, if_pos (show nI R ≤ nI R by rw [nI_leI (by omega) (by omega)]; omega)]) (0, M1) ⟨M1, rfl, n1, f1⟩
  obtain ⟨M3, d1, d2, d3⟩ := iter_0 (B := Te_copyInto_B86)
    (fun t v => ∃ P, v = (nI t, P) ∧ NetK P R (MM.1 5) (dPT q dp) (fun c => if c < t then dNM q c else none) ∧ Fr [3, 4, 5, 6, 7] MK P)
    (fun P => NetK P R (MM.1 5) (dPT q dp) (dNM q) ∧ Fr [3, 4, 5, 6, 7] MK P)
    8 (by omega)
    (by
      rintro t v ht ⟨P, rfl, c1, c2⟩
      refine Or.inl ⟨_, ?_, u_i P 7 t (enc (dNM q t)), rfl, ?_, Fr.i 7 c2 (by decide)⟩
      · unfold Te_copyInto_B86
        dsimp only
        rw [if_neg (show ¬ (8 : Int32) ≤ nI t by rw [l_8, nI_leI (by omega) (by omega)]; omega), dr_name ht, Option.bind_some, h13' P c2 t ht, te_nodeOf (h13' P c2) hq (by omega) (fun v hv => hq t v ht hv), Option.bind_some, nI_1]
        unfold Ne_setName
        rw [if_neg (nI_pos (by omega)), if_neg (show ¬ (8 : Int32) ≤ nI t by rw [l_8, nI_leI (by omega) (by omega)]; omega), ck_in ht (by omega), ix_nI (by omega), Option.bind_some]
        rfl
      · obtain ⟨g0, g1, g2, g3, g4, g5⟩ := c1
        refine ⟨by rw [u_i_o (by decide)]; exact g0, by rw [u_i_o (by decide)]; exact g1, fun i hi => by rw [u_i_o (by decide)]; exact g2 i hi, fun i hi => by rw [u_i_o (by decide)]; exact g3 i hi, fun i s j hi h => by rw [u_i_o (by decide)]; exact g4 i s j hi h, fun c hc => ?_⟩
        by_cases e : c = t
        · subst e
          rw [u_i_e]
          show _ = enc (if c < c + 1 then dNM q c else none)
          rw [if_pos (by omega)]
        · rw [u_i_k e, g5 c hc]
          show enc (if c < t then dNM q c else none) = enc (if c < t + 1 then dNM q c else none)
          by_cases e2 : c < t
          · rw [if_pos e2, if_pos (by omega)]
          · rw [if_neg e2, if_neg (by omega)])
    (by
      rintro v ⟨P, rfl, c1, c2⟩
      refine ⟨P, ?_, ?_, c2⟩
      · unfold Te_copyInto_B86
        dsimp only
        rw [if_pos (show (8 : Int32) ≤ nI 8 by decide)]
      · obtain ⟨g0, g1, g2, g3, g4, g5⟩ := c1
        exact ⟨g0, g1, g2, g3, g4, fun c hc => by rw [g5 c hc]; show enc (if c < 8 then dNM q c else none) = _; rw [if_pos hc]⟩) (0, M2) ⟨M2, rfl, by
        obtain ⟨g0, g1, g2, g3, g4, g5⟩ := b2
        exact ⟨g0, g1, g2, g3, g4, fun c hc => by rw [g5 c hc]; show _ = enc (if c < 0 then dNM q c else none); rw [if_neg (by omega)]⟩, b3⟩
  refine ⟨M3, ?_, d2, d3⟩
  unfold Te_copyInto Ne_clear
  rw [a1, Option.bind_some, Option.bind_some, b1, Option.bind_some, d1, Option.bind_some]
theorem mo_copy (h7 : ∀ c, c < 8 → MM.1 7 c = enc (q c)) (hq : ∀ c v, c < 8 → q c = some v → VOk R v) (hR : R ≤ 40) (h6 : MM.1 0 6 = nI R) (hD : Drf MK MM R dp) :
    ∃ e12 e17 e22, iter Mo_take_B119 FU ((0 : Int32), u_i MM 0 2 (nI R)) = some e12 ∧ iter Mo_take_B147 FU ((0 : Int32), e12) = some e17 ∧ iter Mo_take_B198 FU ((0 : Int32), e17) = some e22 ∧ NetM e22 R (MM.1 5) (dPT q dp) (dNM q) ∧ Fr [0, 2, 3, 4] MM e22 ∧ Fo [2] MM e22 := by
  have dv : ∀ i s, i < R → ∀ v, dp i s = some v → VOk R v := fun i s hi v hv => ((hD i hi).1.2.2.2.1 s v hv).2.1
  have vq : ∀ c, c < 8 → ∀ v, q c = some v → v < 2 ^ 31 := fun c hc v hv => by rcases hq c v hc hv with z | z <;> omega
  obtain ⟨e12, a1, a2, a3⟩ := iter_0 (B := Mo_take_B119)
    (fun t v => ∃ P, v = (nI t, P) ∧ Fr [2] (u_i MM 0 2 (nI R)) P ∧ ∀ i, i < t → P.1 2 i = MM.1 5 i)
    (fun P => Fr [2] (u_i MM 0 2 (nI R)) P ∧ ∀ i, i < R → P.1 2 i = MM.1 5 i)
    R (by omega)
    (by
      rintro t v ht ⟨P, rfl, c1, c2⟩
      refine Or.inl ⟨_, ?_, u_i P 2 t (MM.1 5 t), rfl, Fr.i 2 c1 (by decide), fun i hi => ?_⟩
      · unfold Mo_take_B119
        dsimp only
        rw [(c1 0 (by decide)).1, u_i_k (by decide), h6, if_neg (show ¬ nI R ≤ nI t by rw [nI_leI (by omega) (by omega)]; omega), ck_in (by omega) (by omega), ck_in (by omega) (by omega), ix_nI (by omega), (c1 5 (by decide)).1, u_i_o (by decide), nI_1]
      · by_cases e : i = t
        · subst e; exact u_i_e
        · rw [u_i_k e]; exact c2 i (by omega))
    (by
      rintro v ⟨P, rfl, c1, c2⟩
      refine ⟨P, ?_, c1, c2⟩
      unfold Mo_take_B119
      dsimp only
      rw [(c1 0 (by decide)).1, u_i_k (by decide), h6, if_pos (show nI R ≤ nI R by rw [nI_leI (by omega) (by omega)]; omega)]) (0, u_i MM 0 2 (nI R)) ⟨_, rfl, Fr.rf, fun i hi => by omega⟩
  have f12 : Fr [0, 2] MM e12 := Fr.tr (Fr.i 0 Fr.rf (by decide)) (Fr.sub a2 (by decide))
  have g6 : e12.1 0 6 = nI R := by rw [(a2 0 (by decide)).1, u_i_k (by decide)]; exact h6
  obtain ⟨e17, b1, b2, b3⟩ := iter_0 (B := Mo_take_B147)
    (fun t v => ∃ P, v = (nI t, P) ∧ Fr [3] e12 P ∧ ∀ i s, 8 * i + s < t → s < 8 → P.1 3 (8 * i + s) = enc (dPT q dp i s))
    (fun P => Fr [3] e12 P ∧ ∀ i s, i < R → s < 8 → P.1 3 (8 * i + s) = enc (dPT q dp i s))
    (8 * R) (by omega)
    (by
      rintro t v ht ⟨P, rfl, c1, c2⟩
      refine Or.inl ?_
      obtain ⟨i, s, hs, rfl⟩ : ∃ i s, s < 8 ∧ t = 8 * i + s := ⟨t / 8, t % 8, by omega, by omega⟩
      have hi : i < R := by omega
      have vd : ∀ v, dp i s = some v → v < 2 ^ 31 := fun v hv => by rcases dv i s hi v hv with z | z <;> omega
      have h7' : ∀ c, c < 8 → P.1 7 c = enc (q c) := fun c hc => by rw [(c1 7 (by decide)).1, (f12 7 (by decide)).1]; exact h7 c hc
      refine ⟨_, ?_, u_i P 3 (8 * i + s) (enc (dPT q dp i s)), rfl, Fr.i 3 c1 (by decide), fun a b hab hb => ?_⟩
      · unfold Mo_take_B147 Mo_take_L147_J189
        dsimp only
        rw [(c1 0 (by decide)).1, g6, l_8, nI_mul, if_neg (show ¬ nI (8 * R) ≤ nI (8 * i + s) by rw [nI_leI (by omega) (by omega)]; omega), ck_in (by omega) (by omega), ck_in (by omega) (by omega), ck_in (by omega) (by omega), ix_nI (by omega), (c1 6 (by decide)).1, (f12 6 (by decide)).1, (hD i hi).1.2.2.2.2 s hs, nI_1]
        by_cases c : dp i s = none
        · rw [if_pos ((enc_none_iff vd).mpr c)]
          unfold dPT
          rw [c, rsv_none]
          rfl
        · rw [if_neg (fun z => c ((enc_none_iff vd).mp z)), mo_comes h7' hq (by omega) (dv i s hi), Option.bind_some, ck_in (by omega) (by omega)]
          rfl
      · by_cases e : 8 * a + b = 8 * i + s
        · have e1 : a = i := by omega
          have e2 : b = s := by omega
          subst e1 e2
          exact u_i_e
        · rw [u_i_k e]; exact c2 a b (by omega) hb)
    (by
      rintro v ⟨P, rfl, c1, c2⟩
      refine ⟨P, ?_, c1, fun i s hi hs => c2 i s (by omega) hs⟩
      unfold Mo_take_B147
      dsimp only
      rw [(c1 0 (by decide)).1, g6, l_8, nI_mul, if_pos (show nI (8 * R) ≤ nI (8 * R) by rw [nI_leI (by omega) (by omega)]; omega)]) (0, e12) ⟨_, rfl, Fr.rf, fun i s hc => by omega⟩
  have f17 : Fr [0, 2, 3] MM e17 := Fr.tr (Fr.sub f12 (by decide)) (Fr.sub b2 (by decide))
  obtain ⟨e22, d1, d2, d3⟩ := iter_0 (B := Mo_take_B198)
    (fun t v => ∃ P, v = (nI t, P) ∧ Fr [4] e17 P ∧ ∀ c, c < t → P.1 4 c = enc (dNM q c))
    (fun P => Fr [4] e17 P ∧ ∀ c, c < 8 → P.1 4 c = enc (dNM q c))
    8 (by omega)
    (by
      rintro t v ht ⟨P, rfl, c1, c2⟩
      refine Or.inl ?_
      have h7' : ∀ c, c < 8 → P.1 7 c = enc (q c) := fun c hc => by rw [(c1 7 (by decide)).1, (f17 7 (by decide)).1]; exact h7 c hc
      refine ⟨_, ?_, u_i P 4 t (enc (dNM q t)), rfl, Fr.i 4 c1 (by decide), fun c hc => ?_⟩
      · unfold Mo_take_B198 Mo_take_L198_J235
        dsimp only
        rw [if_neg (show ¬ (8 : Int32) ≤ nI t by rw [l_8, nI_leI (by omega) (by omega)]; omega), ck_in ht (by omega), ck_in ht (by omega), ck_in ht (by omega), ix_nI (by omega), h7' t ht, nI_1]
        by_cases c : q t = none
        · rw [if_pos ((enc_none_iff (vq t ht)).mpr c)]
          unfold dNM
          rw [c, rsv_none]
          rfl
        · rw [if_neg (fun z => c ((enc_none_iff (vq t ht)).mp z)), mo_comes h7' hq (by omega) (fun v hv => hq t v ht hv), Option.bind_some, ck_in ht (by omega)]
          rfl
      · by_cases e : c = t
        · subst e; exact u_i_e
        · rw [u_i_k e]; exact c2 c (by omega))
    (by
      rintro v ⟨P, rfl, c1, c2⟩
      refine ⟨P, ?_, c1, c2⟩
      unfold Mo_take_B198
      dsimp only
      rw [if_pos (show (8 : Int32) ≤ nI 8 by decide)]) (0, e17) ⟨_, rfl, Fr.rf, fun c hc => by omega⟩
  refine ⟨e12, e17, e22, a1, b1, d1, ⟨?_, fun i hi => ?_, fun i s hi hs => ?_, d3⟩, Fr.tr (Fr.sub f17 (by decide)) (Fr.sub d2 (by decide)), fun x hx => ?_⟩
  · rw [(d2 0 (by decide)).1, (b2 0 (by decide)).1, (a2 0 (by decide)).1, u_i_e]
  · rw [(d2 2 (by decide)).1, (b2 2 (by decide)).1]; exact a3 i hi
  · rw [(d2 3 (by decide)).1]; exact b3 i s hi hs
  · rw [(d2 0 (by decide)).1, (b2 0 (by decide)).1, (a2 0 (by decide)).1]
    exact Fo.i 2 Fo.rf (by decide) x hx
theorem t_WF (hq : ∀ c v, c < 8 → q c = some v → VOk R v) (hq8 : ∀ c, 8 ≤ c → q c = none) (hR : R ≤ 40) (hD : Drf MK MM R dp) (hA : AllC R q dp) : WF R (MM.1 5) (dPT q dp) (dNM q) := by
  have dv : ∀ i s, i < R → ∀ v, dp i s = some v → VOk R v := fun i s hi v hv => ((hD i hi).1.2.2.2.1 s v hv).2.1
  have non : ∀ i s, dp i s = none → dPT q dp i s = none := fun i s h => by unfold dPT; rw [h, rsv_none]
  have som : ∀ i s, i < R → s < 8 → (dp i s).isSome = true → (dPT q dp i s).isSome = true := fun i s hi hs h => by
    have := hA.2 i s hi hs (fun z => by rw [z] at h; cases h)
    unfold dPT
    cases e : rsv q (dp i s) with
    | none => exact absurd e this
    | some j => rfl
  refine ⟨by omega, fun i hi => (hD i hi).1.2.1, fun i s j hi h => ⟨?_, dPT_lt hD hi h⟩, fun c j h => ?_, fun i hi h => ?_, fun i hi h => ?_, fun i hi g1 g2 g3 g4 s => non i s ((hD i hi).2.2.2 g1 g2 g3 g4 s)⟩
  · exact rsv_lt hq (by omega) (dv i s hi) h
  · unfold dNM at h
    by_cases hc : c < 8
    · exact rsv_lt hq (by omega) (fun v hv => hq c v hc hv) h
    · rw [hq8 c (by omega), rsv_none] at h; cases h
  · obtain ⟨z1, z2⟩ := (hD i hi).2.1 h
    exact ⟨som i 0 hi (by omega) z1, fun s hs => non i s (z2 s hs)⟩
  · obtain ⟨z1, z2, z3⟩ := (hD i hi).2.2.1 h
    exact ⟨som i 0 hi (by omega) z1, som i 1 hi (by omega) z2, fun s hs => non i s (z3 s hs)⟩
end TX9
