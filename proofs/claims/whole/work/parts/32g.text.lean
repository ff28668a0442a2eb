/-! TEXT: every kind -/
section TX5
variable {pn : Nat} {sm : Nat → Nat}
theorem okN (c : Nat) (h : c ≤ 126) : okSign (nI c) ↔ (c = 110 ∨ c = 116 ∨ c = 115 ∨ c = 46 ∨ c = 33 ∨ c = 123 ∨ c = 91 ∨ c = 42 ∨ c = 62) := by
  have e : ∀ j : Nat, j < 2 ^ 31 → (nI c = nI j ↔ c = j) := fun j hj => nI_eq (by omega) hj
  unfold okSign
  rw [show (110 : Int32) = nI 110 from rfl, show (116 : Int32) = nI 116 from rfl, show (115 : Int32) = nI 115 from rfl, show (46 : Int32) = nI 46 from rfl, show (33 : Int32) = nI 33 from rfl, show (123 : Int32) = nI 123 from rfl, show (91 : Int32) = nI 91 from rfl, show (42 : Int32) = nI 42 from rfl, show (62 : Int32) = nI 62 from rfl]
  rw [e 110 (by decide), e 116 (by decide), e 115 (by decide), e 46 (by decide), e 33 (by decide), e 123 (by decide), e 91 (by decide), e 42 (by decide), e 62 (by decide)]
theorem encK_R {R : Nat} (h : R < 100) : encK R = nI R := by unfold encK; rw [if_pos h]
theorem kind_all (hp : pn ≤ 100) (hsm : ∀ k, k < pn → 33 ≤ sm k ∧ sm k ≤ 126) : ∀ (r d : Nat), d ≤ 12 → 13 ≤ r + d → KindP pn sm (Te_readKind_r r) d := by
  intro r
  induction r with
  | zero => intro d h1 h2; omega
  | succ r ih =>
    intro d hd hrd MK MM k R t h1 h2 hc h6 hT hR hRk hk
    show (∃ x MK2, Te_readKind (Te_readKind_r r) (nI d) MK = some (x, MK2) ∧ _) ∨ (∃ v k2 R2 MK2 MM2, Te_readKind (Te_readKind_r r) (nI d) MK = some (encK v, MK2) ∧ _)
    have hcm : scn pn sm k ≤ 126 := by
      unfold scn
      split
      · exact (hsm k (by assumption)).2
      · omega
    have bad : Te_readKind (Te_readKind_r r) (nI d) MK = some (-6, u_i MK 8 3 1) → Fl (It 2 k MM) k → (∃ x MK2, Te_readKind (Te_readKind_r r) (nI d) MK = some (x, MK2) ∧ Bad pn MK2 (It 2 k MM)) := by
      intro g1 g2
      exact ⟨_, _, g1, u_i_e, by rw [u_i_o (by decide)]; exact hc.2.2.1, k, hk, by rw [u_i_k (by decide)]; exact hc.1, g2⟩
    by_cases hkp : k < pn
    · have hsk : scn pn sm k = sm k := by unfold scn; rw [if_pos hkp]
      have hR100 : R < 100 := by omega
      rw [hsk] at hcm
      by_cases hn : 65 ≤ sm k ∧ sm k ≤ 72
      · right
        obtain ⟨x, hx⟩ : ∃ x, sm k = 65 + x := ⟨sm k - 65, by omega⟩
        obtain ⟨M2, a1, a2, a3⟩ := ref_name (R := R) h2 hp hkp (x := x) (by omega) (show (fun k => nI (sm k)) k = nI (65 + x) by show nI (sm k) = _; rw [hx]) hT (by omega)
        refine ⟨100 + x, k + 1, R, u_i MK 8 2 (nI (k + 1)), M2, te_name h1 hc hp (by omega) hd (by omega) (by rw [hsk]; exact hx), ⟨u_i_e, by rw [u_i_k (by decide)]; exact hc.2.1, by rw [u_i_o (by decide)]; exact hc.2.2.1, by rw [u_i_o (by decide)]; exact hc.2.2.2⟩, ⟨Fr.i 8 Fr.rf (by decide), fun i _ => ⟨by rw [u_i_o (by decide)], by rw [u_i_o (by decide)]⟩, fun y _ => by rw [u_i_o (by decide)]⟩, by omega, by omega, Nat.le_refl R, by omega, Or.inr ⟨by omega, by omega⟩, a1, by rw [a3]; exact h6, a2, fun i g1 g2 => by omega⟩
      · have h57 := te_57 (rk := Te_readKind_r r) h1 hc hp (show k < 1000 by omega) hd (by rw [hsk]; exact hcm) (by rw [hsk]; exact hn)
        rw [hsk] at h57
        by_cases hok : okSign (nI (sm k))
        · have hok' := (okN (sm k) hcm).mp hok
          by_cases hdeep : (sm k = 42 ∨ sm k = 62) ∧ d = 12
          · left
            obtain ⟨g1, g2⟩ := hdeep
            subst g2
            have g1' : nI (sm k) = 42 ∨ nI (sm k) = 62 := g1.elim (fun z => Or.inl (by rw [z]; rfl)) (fun z => Or.inr (by rw [z]; rfl))
            refine bad (by rw [h57]; exact te_deep g1') ?_
            exact it_bad (by omega) (m2_deep h2 hp hkp g1' (TgA_10 hT))
          · have hok2 : (nI (sm k) ≠ 42 ∧ nI (sm k) ≠ 62) ∨ d < 12 := by
              by_cases z : d < 12
              · exact Or.inr z
              · refine Or.inl ⟨fun y => hdeep ⟨Or.inl ((nI_eq (b := 42) (by omega) (by omega)).mp y), by omega⟩, fun y => hdeep ⟨Or.inr ((nI_eq (b := 62) (by omega) (by omega)).mp y), by omega⟩⟩
            have h85 := te_85 (rk := Te_readKind_r r) hok hok2 hd hc hR100
            have hmC := mka_CS hc (nI (sm k))
            have hmF : CFr MK (mka MK k R (nI (sm k))) R := mka_CFr (nI (sm k))
            have hmP : PdK (mka MK k R (nI (sm k))) pn sm := PdK_fr h1 hmF.1 (by decide) (by decide)
            by_cases hpl : sm k = 110 ∨ sm k = 116 ∨ sm k = 115 ∨ sm k = 46 ∨ sm k = 33
            · right
              have hpl' : nI (sm k) = 110 ∨ nI (sm k) = 116 ∨ nI (sm k) = 115 ∨ nI (sm k) = 46 ∨ nI (sm k) = 33 := by
                rcases hpl with z | z | z | z | z <;> rw [z] <;> decide
              obtain ⟨M2, a1, a2, a3, a4, a5⟩ := ref_plain h2 hp hkp hpl' hT hR (by omega) h6 hR100
              refine ⟨R, k + 1, R + 1, mka MK k R (nI (sm k)), M2, ?_, hmC, hmF, by omega, by omega, by omega, by omega, Or.inl (by omega), a1, a3, a2, fun i g1 g2 => ?_⟩
              · rw [h57, h85, encK_R hR100]
                rcases hpl with z | z | z | z | z <;> rw [z] <;> rfl
              · have : i = R := by omega
                subst this
                refine ⟨_, mka_NOk hok a4 a5, ?_⟩
                rw [a4]
                refine ⟨fun z => ?_, fun z => ?_, fun _ _ _ _ _ => rfl⟩
                · rcases hpl' with y | y | y | y | y <;> rw [y] at z <;> exact absurd z (by decide)
                · rcases hpl' with y | y | y | y | y <;> rw [y] at z <;> exact absurd z (by decide)
            · by_cases hbo : sm k = 123 ∨ sm k = 91
              · have hbo' : nI (sm k) = 123 ∨ nI (sm k) = 91 := hbo.elim (fun z => Or.inl (by rw [z]; rfl)) (fun z => Or.inr (by rw [z]; rfl))
                obtain ⟨M3, o1, o2, o3, o4, o5, o6, o7, o8, o9, o10⟩ := ref_open (nd := 100) h2 hp hkp (Or.inl ⟨rfl, hbo'⟩) hT hR (by omega) h6 hR100
                rw [if_pos rfl] at o1
                obtain ⟨cl, hcl⟩ : ∃ cl, (sm k = 123 ∧ cl = 125) ∨ (sm k = 91 ∧ cl = 93) := hbo.elim (fun z => ⟨125, Or.inl ⟨z, rfl⟩⟩) (fun z => ⟨93, Or.inr ⟨z, rfl⟩⟩)
                have hres : Te_readKind (Te_readKind_r r) (nI d) MK = Option.bind (Option.bind (iter (Te_readLetters_B6 (Te_readKind_r r) (nI R) (nI cl) (nI d)) FU (nI 0, nI 0, mka MK k R (nI (sm k)))) (fun e3 => Sum.elim (fun r3 => some r3) (fun y3 => some y3) e3)) (fun q4 => some (nI R, q4)) := by
                  rw [h57, h85]
                  rcases hcl with ⟨z1, z2⟩ | ⟨z1, z2⟩ <;> rw [z1, z2] <;> rfl
                rcases te_letters (R := R) (d := d) (rk := Te_readKind_r r) hp hsm hd (fun z => ih (d + 1) (by omega) (by omega)) hcl 8 0 0 (mka MK k R (nI (sm k))) M3 (k + 1) (R + 1) FU (fun _ => none) (by omega) (by omega) (fu_ge (by omega)) hmP o9 hmC o3 o2 o4 o5 o6 o7 (by omega) (by omega) (by omega) (mka_NOk hok o7 o8) (fun i g1 g2 => by omega) with ⟨e, MK2, c1, c2, c3⟩ | ⟨k2, S2, MK2, MM2, p2, c1, c2, c3, c4, c5, c6, c7, c8, c9, c10, c11, c12, c13, c14⟩
                · left
                  refine ⟨nI R, MK2, ?_, by rw [o1]; exact c3⟩
                  rw [hres, c1, Option.bind_some]
                  rcases c2 with z | z <;> rw [z] <;> rfl
                · right
                  refine ⟨R, k2, S2, MK2, MM2, ?_, c2, CFr_tr hmF c13, by omega, c4, by omega, c6, Or.inl (by omega), by rw [o1]; exact c7, c9, o10 MM2 c10 c8, fun i g1 g2 => ?_⟩
                  · rw [hres, c1, Option.bind_some, encK_R hR100]
                    rfl
                  · by_cases e : i = R
                    · subst e
                      refine ⟨p2, c12, ?_⟩
                      rw [c11]
                      refine ⟨fun z => ?_, fun z => ?_, fun _ _ z1 z2 => ?_⟩
                      · rcases hbo' with y | y <;> rw [y] at z <;> exact absurd z (by decide)
                      · rcases hbo' with y | y <;> rw [y] at z <;> exact absurd z (by decide)
                      · rcases hbo' with y | y
                        · exact absurd y z1
                        · exact absurd y z2
                    · exact c14 i (by omega) g2
              · have hnd : sm k = 42 ∨ sm k = 62 := by omega
                have hd12 : d < 12 := by
                  apply Classical.byContradiction
                  intro z
                  exact hdeep ⟨hnd, by omega⟩
                have hKd := ih (d + 1) (by omega) (by omega)
                rcases hnd with e42 | e62
                · have e42' : nI (sm k) = 42 := by rw [e42]; rfl
                  obtain ⟨M3, o1, o2, o3, o4, o5, o6, o7, o8, o9, o10⟩ := ref_open (nd := 1) h2 hp hkp (Or.inr ⟨hd12, Or.inl ⟨rfl, e42'⟩⟩) hT hR (by omega) h6 hR100
                  rw [if_neg (by decide)] at o1
                  have o7' : M3.1 5 R = 42 := o7.trans e42'
                  have hres : Te_readKind (Te_readKind_r r) (nI d) MK = Option.bind (Te_readPart (Te_readKind_r r) (nI R) (nI 0) (nI d) (mka MK k R (nI (sm k)))) (fun q6 => some (nI R, q6)) := by
                    rw [h57, h85, e42]
                    rfl
                  rcases te_part (p := fun _ => none) (s := 0) (nd := 0) hp hKd hmP o9 hmC o3 ⟨d, rfl, o2, o4, hR100, by omega, Or.inr (Or.inl ⟨o5, o7', rfl, rfl⟩)⟩ (by omega) (by omega) (by omega) (by omega) (mka_NOk hok o7 o8) (fun i g1 g2 => by omega) with ⟨MK2, a1, a2⟩ | ⟨v, k2, S2, MK2, MM2, a1, a2, a3, a4, a5, a6, a7, a8, a9, a10, a11, a12, a13, a14, a15, a16, a17⟩
                  · left
                    exact ⟨nI R, MK2, by rw [hres, a1, Option.bind_some], by rw [o1]; exact a2⟩
                  · right
                    have hH : Hi M3 (u_i MM2 0 10 (nI d)) d R := Hi_tr a9 (Hi_10 _)
                    refine ⟨R, k2, S2, MK2, u_i MM2 0 10 (nI d), by rw [hres, a1, Option.bind_some, encK_R hR100], a2, CFr_tr hmF a16, by omega, a4, by omega, a6, Or.inl (by omega), ?_, ?_, o10 _ hH u_i_e, fun i g1 g2 => ?_⟩
                    · rw [o1, a7, gs_pop (e := d) (by omega) a14 a10]
                    · rw [u_i_k (by decide)]; exact a8
                    · by_cases e : i = R
                      · subst e
                        refine ⟨_, NOk_keep a15 (Nat.le_refl S2) rfl rfl (fun _ _ => rfl) (by rw [u_i_o (by decide)]) (fun _ _ => by rw [u_i_o (by decide)]), ?_⟩
                        rw [u_i_o (by decide), a13, o7']
                        refine ⟨fun _ => ⟨rfl, fun s hs => if_neg (by omega)⟩, fun z => absurd z (by decide), fun z => absurd rfl z⟩
                      · exact NodeOk_keep (a17 i (by omega) g2) (Nat.le_refl S2) rfl rfl (fun _ _ => rfl) (by rw [u_i_o (by decide)]) (fun _ _ => by rw [u_i_o (by decide)])
                · have e62' : nI (sm k) = 62 := by rw [e62]; rfl
                  obtain ⟨M3, o1, o2, o3, o4, o5, o6, o7, o8, o9, o10⟩ := ref_open (nd := 2) h2 hp hkp (Or.inr ⟨hd12, Or.inr ⟨rfl, e62'⟩⟩) hT hR (by omega) h6 hR100
                  rw [if_neg (by decide)] at o1
                  have o7' : M3.1 5 R = 62 := o7.trans e62'
                  have hres : Te_readKind (Te_readKind_r r) (nI d) MK = Option.bind (Te_readPart (Te_readKind_r r) (nI R) (nI 0) (nI d) (mka MK k R (nI (sm k)))) (fun q6 => Option.bind (Te_readPart (Te_readKind_r r) (nI R) (nI 1) (nI d) q6) (fun q7 => some (nI R, q7))) := by
                    rw [h57, h85, e62]
                    rfl
                  rcases te_part (p := fun _ => none) (s := 0) (nd := 1) hp hKd hmP o9 hmC o3 ⟨d, rfl, o2, o4, hR100, by omega, Or.inr (Or.inr (Or.inl ⟨o5, o7', rfl, rfl⟩))⟩ (by omega) (by omega) (by omega) (by omega) (mka_NOk hok o7 o8) (fun i g1 g2 => by omega) with ⟨MK2, a1, a2⟩ | ⟨v, k2, S2, MK2, MM2, a1, a2, a3, a4, a5, a6, a7, a8, a9, a10, a11, a12, a13, a14, a15, a16, a17⟩
                  · left
                    refine ⟨nI R, MK2, ?_, by rw [o1]; exact a2⟩
                    rw [hres, a1, Option.bind_some]
                    unfold Te_readPart
                    rw [a2.1, if_neg one_ne, Option.bind_some]
                  · have hgs : It 2 k MM = It 2 k2 MM2 := by
                      rw [o1, a7, gs_need (e := d) (by omega) a14 (by rw [a10]; decide), a10]
                      rfl
                    have hF2 : CFr MK MK2 R := CFr_tr hmF a16
                    have p5 : MM2.1 5 R = 62 := a13.trans o7'
                    rcases te_part (s := 1) (nd := 0) hp hKd (PdK_fr h1 hF2.1 (by decide) (by decide)) (PdM_fr o9 a9.1 a9.2.1 (by decide) (by decide)) a2 a8 ⟨d, rfl, a14, by rw [a11]; exact o4, hR100, by omega, Or.inr (Or.inr (Or.inr ⟨a10, p5, rfl, rfl⟩))⟩ (by omega) (by omega) a6 a4 a15 a17 with ⟨MK3, b1, b2⟩ | ⟨v3, k3, S3, MK3, MM3, b1, b2, b3, b4, b5, b6, b7, b8, b9, b10, b11, b12, b13, b14, b15, b16, b17⟩
                    · left
                      exact ⟨nI R, MK3, by rw [hres, a1, Option.bind_some, b1, Option.bind_some], by rw [hgs]; exact b2⟩
                    · right
                      have hH : Hi M3 (u_i MM3 0 10 (nI d)) d R := Hi_tr (Hi_tr a9 b9) (Hi_10 _)
                      refine ⟨R, k3, S3, MK3, u_i MM3 0 10 (nI d), by rw [hres, a1, Option.bind_some, b1, Option.bind_some, encK_R hR100], b2, CFr_tr hF2 b16, by omega, b4, by omega, b6, Or.inl (by omega), ?_, ?_, o10 _ hH u_i_e, fun i g1 g2 => ?_⟩
                      · rw [hgs, b7, gs_pop (e := d) (by omega) b14 b10]
                      · rw [u_i_k (by decide)]; exact b8
                      · by_cases e : i = R
                        · subst e
                          refine ⟨_, NOk_keep b15 (Nat.le_refl S3) rfl rfl (fun _ _ => rfl) (by rw [u_i_o (by decide)]) (fun _ _ => by rw [u_i_o (by decide)]), ?_⟩
                          rw [u_i_o (by decide), b13, p5]
                          refine ⟨fun z => absurd z (by decide), fun _ => ⟨rfl, rfl, fun s hs => ?_⟩, fun _ z => absurd rfl z⟩
                          show (if s = 1 then some v3 else if s = 0 then some v else none) = none
                          rw [if_neg (by omega), if_neg (by omega)]
                        · exact NodeOk_keep (b17 i (by omega) g2) (Nat.le_refl S3) rfl rfl (fun _ _ => rfl) (by rw [u_i_o (by decide)]) (fun _ _ => by rw [u_i_o (by decide)])
        · left
          refine bad (by rw [h57]; exact te_bad hok) ?_
          refine it_bad (by omega) (m2_bad h2 hp hkp hok ?_)
          show ¬ (65 ≤ (nI (sm k)).toInt ∧ (nI (sm k)).toInt ≤ 72)
          rw [nI_toInt (by omega)]
          omega
    · left
      have hk' : k = pn := by omega
      subst hk'
      have hs0 : scn k sm k = 0 := by unfold scn; rw [if_neg hkp]
      have h57 := te_57 (rk := Te_readKind_r r) h1 hc hp (show k < 1000 by omega) hd (by rw [hs0]; omega) (by rw [hs0]; omega)
      rw [hs0] at h57
      refine bad (by rw [h57]; exact te_bad (fun z => by have := (okN 0 (by omega)).mp z; omega)) ?_
      exact it_endF (by omega) h2.1 (by decide)
end TX5
