/-! TEXT: whether all names come to nodes -/
def Drf (MK MM : QM) (R : Nat) (dp : Nat → Nat → Option Nat) : Prop := ∀ i, i < R → NOk MK MM R i (dp i) ∧ Shq (MM.1 5 i) (dp i)
def AllC (R : Nat) (q : Nat → Option Nat) (dp : Nat → Nat → Option Nat) : Prop := (∀ c, c < 8 → q c ≠ none → rsv q (q c) ≠ none) ∧ (∀ i s, i < R → s < 8 → dp i s ≠ none → rsv q (dp i s) ≠ none)
section TX8
variable {M MK MM : QM} {R : Nat} {q : Nat → Option Nat} {dp : Nat → Nat → Option Nat}
theorem dr_part (h0 : MK.1 9 0 = 100) (h5 : MK.1 9 5 = nI R) (hR : R ≤ 100) {i s : Nat} (hi : i < R) (hs : s < 8) {p : Nat → Option Nat} (hO : NOk MK MM R i p) : Dr_partAt (nI i) (nI s) MK = some (enKo (p s)) := by
  obtain ⟨-, -, ⟨m, hm, hm2, hm3⟩, h4, -⟩ := hO
  unfold Dr_partAt
  rw [h5, h0, if_neg (nI_pos (by omega)), if_neg (show ¬ nI R ≤ nI i by rw [nI_leI (by omega) (by omega)]; omega), if_neg (show ¬ (100 : Int32) ≤ nI i by rw [l_100, nI_leI (by omega) (by omega)]; omega), if_neg (nI_pos (by omega)), if_pos (show nI s < 8 by rw [l_8, nI_ltI (by omega) (by omega)]; exact hs), ck_in (by omega) (by omega), ix_nI (by omega), hm2, l_8, nI_mul, nI_add, ck_in (by omega) (by omega), ix_nI (by omega), l_1]
  by_cases hb : m.testBit s = true
  · rw [if_pos ((bit_and m s hm hs).mpr hb)]
    cases hp : p s with
    | none => rw [hm3 s hs, hp] at hb; cases hb
    | some v => rw [Nat.mul_comm i 8, (h4 s v hp).2.2]; rfl
  · rw [if_neg (fun z => hb ((bit_and m s hm hs).mp z))]
    cases hp : p s with
    | none => rfl
    | some v => rw [hm3 s hs, hp] at hb; exact absurd rfl hb
theorem enc_ge {x : Option Nat} (h : ∀ v, x = some v → v < 2 ^ 31) : 0 ≤ enc x ↔ x ≠ none := by
  cases x with
  | none => exact ⟨fun z => absurd z (by decide), fun z => absurd rfl z⟩
  | some v => exact ⟨(fun _ z => by cases z), fun _ => nI_pos' (h v rfl)⟩
theorem te_all (h13 : ∀ c, c < 8 → MK.1 13 c = enKo (q c)) (hq : ∀ c v, c < 8 → q c = some v → VOk R v) (hR : R ≤ 100) (h0 : MK.1 9 0 = 100) (h5 : MK.1 9 5 = nI R) (hD : Drf MK MM R dp) :
    (AllC R q dp ∧ Te_allNamesComeToNodes MK = some 1) ∨ (¬ AllC R q dp ∧ Te_allNamesComeToNodes MK = some 0) := by
  have vq : ∀ c, c < 8 → ∀ v, q c = some v → v < 1000 := fun c hc v hv => by rcases hq c v hc hv with z | z <;> omega
  have dv : ∀ i s, i < R → ∀ v, dp i s = some v → VOk R v := fun i s hi v hv => ((hD i hi).1.2.2.2.1 s v hv).2.1
  have rlt : ∀ x : Option Nat, (∀ v, x = some v → VOk R v) → ∀ j, rsv q x = some j → j < 2 ^ 31 := fun x hx j hj => by have := rsv_lt hq hR hx hj; omega
  obtain ⟨e, b1, b2⟩ := iter_0 (B := Te_allNamesComeToNodes_B2 MK)
    (fun t v => v = nI t ∧ ∀ c, c < t → q c ≠ none → rsv q (q c) ≠ none)
    (fun e => (e = .inr () ∧ ∀ c, c < 8 → q c ≠ none → rsv q (q c) ≠ none) ∨ (e = .inl 0 ∧ ¬ AllC R q dp))
    8 (by omega)
    (by
      rintro t v ht ⟨rfl, hv⟩
      unfold Te_allNamesComeToNodes_B2
      rw [if_neg (show ¬ (8 : Int32) ≤ nI t by rw [l_8, nI_leI (by omega) (by omega)]; omega), dr_name ht, Option.bind_some, Option.bind_some, h13 t ht, nI_1]
      by_cases c : q t = none
      · rw [if_pos ((enKo_none (vq t ht)).mpr c)]
        refine Or.inl ⟨_, rfl, rfl, fun y hy hne => ?_⟩
        by_cases e : y = t
        · subst e; exact absurd c hne
        · exact hv y (by omega) hne
      · rw [if_neg (fun z => c ((enKo_none (vq t ht)).mp z)), te_nodeOf h13 hq hR (fun v hv => hq t v ht hv), Option.bind_some]
        by_cases c2 : rsv q (q t) = none
        · rw [if_pos ((enc_none_iff (rlt _ (fun v hv => hq t v ht hv))).mpr c2)]
          exact Or.inr ⟨_, rfl, Or.inr ⟨rfl, fun z => z.1 t ht c c2⟩⟩
        · rw [if_neg (fun z => c2 ((enc_none_iff (rlt _ (fun v hv => hq t v ht hv))).mp z))]
          refine Or.inl ⟨_, rfl, rfl, fun y hy hne => ?_⟩
          by_cases e : y = t
          · subst e; exact c2
          · exact hv y (by omega) hne)
    (by
      rintro v ⟨rfl, hv⟩
      refine ⟨.inr (), ?_, Or.inl ⟨rfl, hv⟩⟩
      unfold Te_allNamesComeToNodes_B2
      rw [if_pos (show (8 : Int32) ≤ nI 8 by decide)]) 0 ⟨rfl, fun c hc => by omega⟩
  have inner : ∀ i, i < R → ∃ e, iter (Te_allNamesComeToNodes_B61 (nI i) MK) FU (0 : Int32) = some e ∧ ((e = .inr () ∧ ∀ s, s < 8 → dp i s ≠ none → rsv q (dp i s) ≠ none) ∨ (e = .inl 0 ∧ ¬ AllC R q dp)) := by
    intro i hi
    refine iter_0 (B := Te_allNamesComeToNodes_B61 (nI i) MK)
      (fun t v => v = nI t ∧ ∀ s, s < t → dp i s ≠ none → rsv q (dp i s) ≠ none)
      (fun e => (e = .inr () ∧ ∀ s, s < 8 → dp i s ≠ none → rsv q (dp i s) ≠ none) ∨ (e = .inl 0 ∧ ¬ AllC R q dp))
      8 (by omega) ?_ ?_ 0 ⟨rfl, fun c hc => by omega⟩
    · rintro t v ht ⟨rfl, hv⟩
      unfold Te_allNamesComeToNodes_B61
      have vd : ∀ v, dp i t = some v → v < 1000 := fun v hv => by rcases dv i t hi v hv with z | z <;> omega
      rw [if_neg (show ¬ (8 : Int32) ≤ nI t by rw [l_8, nI_leI (by omega) (by omega)]; omega), dr_part h0 h5 hR hi ht (hD i hi).1, Option.bind_some, nI_1]
      by_cases c : dp i t = none
      · rw [if_pos ((enKo_none vd).mpr c)]
        refine Or.inl ⟨_, rfl, rfl, fun y hy hne => ?_⟩
        by_cases e : y = t
        · subst e; exact absurd c hne
        · exact hv y (by omega) hne
      · rw [if_neg (fun z => c ((enKo_none vd).mp z)), te_nodeOf h13 hq hR (dv i t hi), Option.bind_some]
        by_cases c2 : rsv q (dp i t) = none
        · rw [if_pos ((enc_none_iff (rlt _ (dv i t hi))).mpr c2)]
          exact Or.inr ⟨_, rfl, Or.inr ⟨rfl, fun z => z.2 i t hi ht c c2⟩⟩
        · rw [if_neg (fun z => c2 ((enc_none_iff (rlt _ (dv i t hi))).mp z))]
          refine Or.inl ⟨_, rfl, rfl, fun y hy hne => ?_⟩
          by_cases e : y = t
          · subst e; exact c2
          · exact hv y (by omega) hne
    · rintro v ⟨rfl, hv⟩
      refine ⟨.inr (), ?_, Or.inl ⟨rfl, hv⟩⟩
      unfold Te_allNamesComeToNodes_B61
      rw [if_pos (show (8 : Int32) ≤ nI 8 by decide)]
  obtain ⟨e2, d1, d2⟩ := iter_0 (B := Te_allNamesComeToNodes_B48 MK)
    (fun t v => v = nI t ∧ ∀ i, i < t → ∀ s, s < 8 → dp i s ≠ none → rsv q (dp i s) ≠ none)
    (fun e => (e = .inr () ∧ ∀ i, i < R → ∀ s, s < 8 → dp i s ≠ none → rsv q (dp i s) ≠ none) ∨ (e = .inl 0 ∧ ¬ AllC R q dp))
    R (by omega)
    (by
      rintro t v ht ⟨rfl, hv⟩
      obtain ⟨e, g1, g2⟩ := inner t ht
      unfold Te_allNamesComeToNodes_B48 Dr_nodes
      rw [h5, Option.bind_some, if_neg (show ¬ nI R ≤ nI t by rw [nI_leI (by omega) (by omega)]; omega), g1, Option.bind_some, nI_1]
      rcases g2 with ⟨rfl, g2⟩ | ⟨rfl, g2⟩
      · refine Or.inl ⟨_, rfl, rfl, fun i hi => ?_⟩
        by_cases e : i = t
        · subst e; exact g2
        · exact hv i (by omega)
      · exact Or.inr ⟨_, rfl, Or.inr ⟨rfl, g2⟩⟩)
    (by
      rintro v ⟨rfl, hv⟩
      refine ⟨.inr (), ?_, Or.inl ⟨rfl, hv⟩⟩
      unfold Te_allNamesComeToNodes_B48 Dr_nodes
      rw [h5, Option.bind_some, if_pos (show nI R ≤ nI R by rw [nI_leI (by omega) (by omega)]; omega)]) 0 ⟨rfl, fun c hc => by omega⟩
  unfold Te_allNamesComeToNodes
  rw [b1, Option.bind_some]
  rcases b2 with ⟨rfl, b2⟩ | ⟨rfl, b2⟩
  · show (AllC R q dp ∧ Option.bind (iter (Te_allNamesComeToNodes_B48 MK) FU (0 : Int32)) _ = some 1) ∨ (¬ AllC R q dp ∧ Option.bind (iter (Te_allNamesComeToNodes_B48 MK) FU (0 : Int32)) _ = some 0)
    rw [d1, Option.bind_some]
    rcases d2 with ⟨rfl, d2⟩ | ⟨rfl, d2⟩
    · exact Or.inl ⟨⟨b2, fun i s hi hs => d2 i hi s hs⟩, rfl⟩
    · exact Or.inr ⟨d2, rfl⟩
  · exact Or.inr ⟨b2, rfl⟩
theorem mo_all (h7 : ∀ c, c < 8 → MM.1 7 c = enc (q c)) (hq : ∀ c v, c < 8 → q c = some v → VOk R v) (hR : R ≤ 100) (h6 : MM.1 0 6 = nI R) (hD : Drf MK MM R dp) :
    (AllC R q dp ∧ iter (Mo_take_B12 MM) FU (0 : Int32) = some (.inr ()) ∧ iter (Mo_take_B53 MM) FU (0 : Int32) = some (.inr ())) ∨ (¬ AllC R q dp ∧ (iter (Mo_take_B12 MM) FU (0 : Int32) = some (.inl (-5, MM)) ∨ (iter (Mo_take_B12 MM) FU (0 : Int32) = some (.inr ()) ∧ iter (Mo_take_B53 MM) FU (0 : Int32) = some (.inl (-5, MM))))) := by
  have vq : ∀ c, c < 8 → ∀ v, q c = some v → v < 2 ^ 31 := fun c hc v hv => by rcases hq c v hc hv with z | z <;> omega
  have dv : ∀ i s, i < R → ∀ v, dp i s = some v → VOk R v := fun i s hi v hv => ((hD i hi).1.2.2.2.1 s v hv).2.1
  have rlt : ∀ x : Option Nat, (∀ v, x = some v → VOk R v) → ∀ j, rsv q x = some j → j < 2 ^ 31 := fun x hx j hj => by have := rsv_lt hq hR hx hj; omega
  obtain ⟨e, b1, b2⟩ := iter_0 (B := Mo_take_B12 MM)
    (fun t v => v = nI t ∧ ∀ c, c < t → q c ≠ none → rsv q (q c) ≠ none)
    (fun e => (e = .inr () ∧ ∀ c, c < 8 → q c ≠ none → rsv q (q c) ≠ none) ∨ (e = .inl (-5, MM) ∧ ¬ AllC R q dp))
    8 (by omega)
    (by
      rintro t v ht ⟨rfl, hv⟩
      unfold Mo_take_B12
      rw [if_neg (show ¬ (8 : Int32) ≤ nI t by rw [l_8, nI_leI (by omega) (by omega)]; omega), ck_in ht (by omega), ck_in ht (by omega), ix_nI (by omega), h7 t ht, nI_1]
      by_cases c : q t = none
      · rw [if_pos ((enc_none_iff (vq t ht)).mpr c)]
        refine Or.inl ⟨_, rfl, rfl, fun y hy hne => ?_⟩
        by_cases e : y = t
        · subst e; exact absurd c hne
        · exact hv y (by omega) hne
      · rw [if_neg (fun z => c ((enc_none_iff (vq t ht)).mp z)), mo_comes h7 hq hR (fun v hv => hq t v ht hv), Option.bind_some]
        by_cases c2 : rsv q (q t) = none
        · rw [if_neg (fun z => (enc_ge (rlt _ (fun v hv => hq t v ht hv))).mp z c2)]
          exact Or.inr ⟨_, rfl, Or.inr ⟨rfl, fun z => z.1 t ht c c2⟩⟩
        · rw [if_pos ((enc_ge (rlt _ (fun v hv => hq t v ht hv))).mpr c2)]
          refine Or.inl ⟨_, rfl, rfl, fun y hy hne => ?_⟩
          by_cases e : y = t
          · subst e; exact c2
          · exact hv y (by omega) hne)
    (by
      rintro v ⟨rfl, hv⟩
      refine ⟨.inr (), ?_, Or.inl ⟨rfl, hv⟩⟩
      unfold Mo_take_B12
      rw [if_pos (show (8 : Int32) ≤ nI 8 by decide)]) 0 ⟨rfl, fun c hc => by omega⟩
  obtain ⟨e2, d1, d2⟩ := iter_0 (B := Mo_take_B53 MM)
    (fun t v => v = nI t ∧ ∀ i s, 8 * i + s < t → s < 8 → dp i s ≠ none → rsv q (dp i s) ≠ none)
    (fun e => (e = .inr () ∧ ∀ i s, i < R → s < 8 → dp i s ≠ none → rsv q (dp i s) ≠ none) ∨ (e = .inl (-5, MM) ∧ ¬ AllC R q dp))
    (8 * R) (by omega)
    (by
      rintro t v ht ⟨rfl, hv⟩
      obtain ⟨i, s, hs, rfl⟩ : ∃ i s, s < 8 ∧ t = 8 * i + s := ⟨t / 8, t % 8, by omega, by omega⟩
      have hi : i < R := by omega
      have vd : ∀ v, dp i s = some v → v < 2 ^ 31 := fun v hv => by rcases dv i s hi v hv with z | z <;> omega
      have done : ∀ (P : Prop), (dp i s ≠ none → rsv q (dp i s) ≠ none) → ∀ a b, 8 * a + b < 8 * i + s + 1 → b < 8 → dp a b ≠ none → rsv q (dp a b) ≠ none := by
        intro _ h a b hab hb
        by_cases e : 8 * a + b = 8 * i + s
        · have e1 : a = i := by omega
          have e2 : b = s := by omega
          subst e1 e2
          exact h
        · exact hv a b (by omega) hb
      unfold Mo_take_B53
      rw [h6, l_8, nI_mul, if_neg (show ¬ nI (8 * R) ≤ nI (8 * i + s) by rw [nI_leI (by omega) (by omega)]; omega), ck_in (by omega) (by omega), ck_in (by omega) (by omega), ix_nI (by omega), (hD i hi).1.2.2.2.2 s hs, nI_1]
      by_cases c : dp i s = none
      · rw [if_pos ((enc_none_iff vd).mpr c)]
        exact Or.inl ⟨_, rfl, rfl, done True (fun z => absurd c z)⟩
      · rw [if_neg (fun z => c ((enc_none_iff vd).mp z)), mo_comes h7 hq hR (dv i s hi), Option.bind_some]
        by_cases c2 : rsv q (dp i s) = none
        · rw [if_neg (fun z => (enc_ge (rlt _ (dv i s hi))).mp z c2)]
          exact Or.inr ⟨_, rfl, Or.inr ⟨rfl, fun z => z.2 i s hi hs c c2⟩⟩
        · rw [if_pos ((enc_ge (rlt _ (dv i s hi))).mpr c2)]
          exact Or.inl ⟨_, rfl, rfl, done True (fun _ => c2)⟩)
    (by
      rintro v ⟨rfl, hv⟩
      refine ⟨.inr (), ?_, Or.inl ⟨rfl, fun i s hi hs => hv i s (by omega) hs⟩⟩
      unfold Mo_take_B53
      rw [h6, l_8, nI_mul, if_pos (show nI (8 * R) ≤ nI (8 * R) by rw [nI_leI (by omega) (by omega)]; omega)]) 0 ⟨rfl, fun i s hc => by omega⟩
  rcases b2 with ⟨rfl, b2⟩ | ⟨rfl, b2⟩
  · rcases d2 with ⟨rfl, d2⟩ | ⟨rfl, d2⟩
    · exact Or.inl ⟨⟨b2, d2⟩, b1, d1⟩
    · exact Or.inr ⟨d2, Or.inr ⟨b1, d1⟩⟩
  · exact Or.inr ⟨b2, Or.inl b1⟩
end TX8
