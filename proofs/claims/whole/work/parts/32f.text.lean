/-! TEXT: a kind, in both -/
def Bad (pn : Nat) (M : QM) (x : Option ((Int32 × QM) ⊕ (Int32 × QM))) : Prop := M.1 8 3 = 1 ∧ M.1 9 0 = 100 ∧ ∃ p, p ≤ pn ∧ M.1 8 2 = nI p ∧ Fl x p
def KindP (pn : Nat) (sm : Nat → Nat) (rk : Int32 → QM → Option (Int32 × QM)) (d : Nat) : Prop :=
  ∀ (MK MM : QM) (k R : Nat) (t : Tgt), PdK MK pn sm → PdM MM pn (fun k => nI (sm k)) → CSt MK k R → MM.1 0 6 = nI R → TgA MM d t → (∀ own s nd, t = .inr (own, s, nd) → own < R) → R ≤ k → k ≤ pn →
    (∃ x MK2, rk (nI d) MK = some (x, MK2) ∧ Bad pn MK2 (It 2 k MM)) ∨
    (∃ v k2 R2 MK2 MM2, rk (nI d) MK = some (encK v, MK2) ∧ CSt MK2 k2 R2 ∧ CFr MK MK2 R ∧ k < k2 ∧ k2 ≤ pn ∧ R ≤ R2 ∧ R2 ≤ k2 ∧ VOk R2 v ∧ It 2 k MM = Gs k2 MM2 ∧ MM2.1 0 6 = nI R2 ∧ RF MM MM2 d R t v ∧ ∀ i, R ≤ i → i < R2 → NodeOk MK2 MM2 R2 i)
section TX4
variable {MK MM : QM} {pn k R S d s : Nat} {sm : Nat → Nat} {rk : Int32 → QM → Option (Int32 × QM)} {p : Nat → Option Nat} {nd : Int32}
/-- a part of a begun node -/
theorem te_part (hp : pn ≤ 100) (hK : KindP pn sm rk (d + 1)) (h1 : PdK MK pn sm) (h2 : PdM MM pn (fun k => nI (sm k))) (hc : CSt MK k S) (h6 : MM.1 0 6 = nI S) (hT : TgA MM (d + 1) (.inr (R, s, nd))) (hs : s < 8) (hRS : R < S) (hSk : S ≤ k) (hk : k ≤ pn) (hO : NOk MK MM S R p) (hN : ∀ i, R < i → i < S → NodeOk MK MM S i) :
    (∃ MK2, Te_readPart rk (nI R) (nI s) (nI d) MK = some MK2 ∧ Bad pn MK2 (It 2 k MM)) ∨
    (∃ v k2 S2 MK2 MM2, Te_readPart rk (nI R) (nI s) (nI d) MK = some MK2 ∧ CSt MK2 k2 S2 ∧ k < k2 ∧ k2 ≤ pn ∧ S ≤ S2 ∧ S2 ≤ k2 ∧ It 2 k MM = Gs k2 MM2 ∧ MM2.1 0 6 = nI S2 ∧ Hi MM MM2 d R ∧ MM2.1 9 d = nd ∧ MM2.1 8 d = MM.1 8 d ∧ MM2.1 10 d = MM.1 10 d ∧ MM2.1 5 R = MM.1 5 R ∧ MM2.1 0 10 = nI (d + 1) ∧
      NOk MK2 MM2 S2 R (fun x => if x = s then some v else p x) ∧ CFr MK MK2 R ∧ ∀ i, R < i → i < S2 → NodeOk MK2 MM2 S2 i) := by
  have e83 : MK.1 8 3 = 0 := hc.2.1
  unfold Te_readPart
  rw [e83, if_pos rfl, nI_1]
  rcases hK MK MM k S (.inr (R, s, nd)) h1 h2 hc h6 hT (fun own s2 nd2 he => by cases he; exact hRS) hSk hk with ⟨x, MK2, a1, a2⟩ | ⟨v, k2, S2, MK2, MM2, a1, a2, a3, a4, a5, a6, a7, a8, a9, a10, a11, a12⟩
  · left
    rw [a1, Option.bind_some]
    obtain ⟨M3, b1, b2⟩ := dr_any (M := MK2) (i := R) (s := s) (by omega) hs x
    refine ⟨M3, by rw [b1]; rfl, ?_⟩
    obtain ⟨c1, c2, q, c3, c4, c5⟩ := a2
    exact ⟨by rw [(b2 8 (by decide)).1]; exact c1, by rw [(b2 9 (by decide)).1]; exact c2, q, c3, by rw [(b2 8 (by decide)).1]; exact c4, c5⟩
  · right
    rw [a1, Option.bind_some]
    obtain ⟨r1, r2, r3, r4, r5, r6, r7, r8, r9, r10, r11⟩ := RF_part a11 hRS hs
    obtain ⟨o1, o2, o3, o4, o5⟩ := hO
    obtain ⟨g1, g2⟩ := a3.2.1 R hRS
    obtain ⟨M3, b1, b2, b3, b4, b5⟩ := dr_set (MK := MK2) (MM := MM2) (i := R) (s := s) (v := v) (S := S2) (p := p) a2.2.2.1 a2.2.2.2 (by omega) (by omega) hs a8
      (by rw [g1, r7]; exact o1) (by rw [r7]; exact o2) (by rw [g2]; exact o3)
      (fun x u hu => ⟨(o4 x u hu).1, VOk_le (o4 x u hu).2.1 a6, by rw [a3.2.2 _ (by have := (o4 x u hu).1; omega)]; exact (o4 x u hu).2.2⟩)
      (fun x hx hne => by rw [r3 x hx hne]; exact o5 x hx) r2
    refine ⟨v, k2, S2, M3, MM2, by rw [b1]; rfl, ⟨?_, ?_, ?_, ?_⟩, a4, a5, a6, a7, a9, a10, r1, r4, r5, r6, r7, r8, b2, ⟨?_, fun i hi => ?_, fun x hx => ?_⟩, fun i h1 h2 => ?_⟩
    · rw [(b3 8 (by decide)).1]; exact a2.1
    · rw [(b3 8 (by decide)).1]; exact a2.2.1
    · rw [(b3 9 (by decide)).1]; exact a2.2.2.1
    · rw [(b3 9 (by decide)).1]; exact a2.2.2.2
    · exact Fr.tr a3.1 (Fr.sub b3 (by decide))
    · rw [(b3 10 (by decide)).1, b4 i (by omega)]; exact a3.2.1 i (by omega)
    · rw [b5 x (by omega)]; exact a3.2.2 x (by omega)
    · by_cases c : i < S
      · obtain ⟨w1, w2⟩ := a3.2.1 i c
        refine NodeOk_keep (hN i h1 c) a6 (by rw [(b3 10 (by decide)).1]; exact w1) (by rw [b4 i (by omega)]; exact w2) (fun x hx => ?_) (r10 i c) (fun x hx => r11 _ (by omega) (by omega))
        rw [b5 _ (by omega)]
        exact a3.2.2 _ (by omega)
      · exact NodeOk_keep (a12 i (by omega) h2) (Nat.le_refl _) (by rw [(b3 10 (by decide)).1]) (b4 i (by omega)) (fun x hx => b5 _ (by omega)) rfl (fun _ _ => rfl)
/-- the letters of a record, a choice -/
theorem te_letters (hp : pn ≤ 100) (hsm : ∀ k, k < pn → 33 ≤ sm k ∧ sm k ≤ 126) (hd : d ≤ 12) (hK : d < 12 → KindP pn sm rk (d + 1)) {c0 cl : Nat} (hcl : (c0 = 123 ∧ cl = 125) ∨ (c0 = 91 ∧ cl = 93)) : ∀ (r low b : Nat) (MK MM : QM) (k S n : Nat) (p : Nat → Option Nat),
    low + r = 8 → b ≤ low → r + 2 ≤ n → PdK MK pn sm → PdM MM pn (fun k => nI (sm k)) → CSt MK k S → MM.1 0 6 = nI S → MM.1 0 10 = nI (d + 1) → MM.1 8 d = nI R → MM.1 9 d = 100 → MM.1 10 d = nI low - 1 → MM.1 5 R = nI c0 → R < S → S ≤ k → k ≤ pn → NOk MK MM S R p → (∀ i, R < i → i < S → NodeOk MK MM S i) →
    (∃ e MK2, iter (Te_readLetters_B6 rk (nI R) (nI cl) (nI d)) n (nI low, nI b, MK) = some e ∧ (e = .inl MK2 ∨ e = .inr MK2) ∧ Bad pn MK2 (It 3 k MM)) ∨
    (∃ k2 S2 MK2 MM2 p2, iter (Te_readLetters_B6 rk (nI R) (nI cl) (nI d)) n (nI low, nI b, MK) = some (.inl MK2) ∧ CSt MK2 k2 S2 ∧ k < k2 ∧ k2 ≤ pn ∧ S ≤ S2 ∧ S2 ≤ k2 ∧ It 3 k MM = Gs k2 MM2 ∧ MM2.1 0 10 = nI d ∧ MM2.1 0 6 = nI S2 ∧ Hi MM MM2 d R ∧ MM2.1 5 R = nI c0 ∧ NOk MK2 MM2 S2 R p2 ∧ CFr MK MK2 R ∧ ∀ i, R < i → i < S2 → NodeOk MK2 MM2 S2 i) := by
  intro r
  induction r using Nat.strongRecOn with
  | ind r ih =>
    intro low b MK MM k S n p hl hb hn h1 h2 hc h6 h10 h8 h9 hlow h5 hRS hSk hk hO hN
    obtain ⟨n, rfl⟩ : ∃ n', n = n' + 1 := ⟨n - 1, by omega⟩
    have hR100 : R < 100 := by omega
    have hcm : scn pn sm k ≤ 126 := by
      unfold scn
      split
      · exact (hsm k (by assumption)).2
      · omega
    have hB : Te_readLetters_B6 rk (nI R) (nI cl) (nI d) (nI low, nI b, MK) = (if nI (scn pn sm k) = nI cl then some (.inl (.inl (u_i MK 8 2 (nI (k + 1))))) else (if (nI (scn pn sm k) - (97 : Int32)) < nI low then Te_readLetters_L6_J77 rk MK else (if (8 : Int32) ≤ (nI (scn pn sm k) - (97 : Int32)) then Te_readLetters_L6_J77 rk MK else (if nI d < (12 : Int32) then Option.bind (Te_readPart rk (nI R) (nI (scn pn sm k) - (97 : Int32)) (nI d) (u_i MK 8 2 (nI (k + 1)))) (fun q2 => some (.inr ((nI (scn pn sm k) - (97 : Int32)) + (1 : Int32), nI (b + 1), q2))) else Te_readLetters_L6_J77 rk MK)))) := by
      unfold Te_readLetters_B6
      dsimp only
      rw [if_neg (show ¬ (8 : Int32) < nI b by rw [l_8, nI_ltI (by omega) (by omega)]; omega), hc.2.1, if_pos rfl, hc.1, te_sign h1 hp (by omega), Option.bind_some, nI_1, nI_1]
    have sub97 : (nI (scn pn sm k) - (97 : Int32)).toInt = (scn pn sm k : Int) - 97 := by
      have : ∀ m : Nat, m < 127 → (nI m - (97 : Int32)).toInt = (m : Int) - 97 := by decide
      exact this _ (by omega)
    have e8 : (8 : Int32).toInt = 8 := by decide
    by_cases cA : scn pn sm k = cl
    · right
      have hkp : k < pn := by
        apply Classical.byContradiction
        intro z
        unfold scn at cA
        rw [if_neg z] at cA
        omega
      have hsk : sm k = cl := by unfold scn at cA; rw [if_pos hkp] at cA; exact cA
      have hcc : (MM.1 5 R = 123 ∧ (fun k => nI (sm k)) k = 125) ∨ (MM.1 5 R = 91 ∧ (fun k => nI (sm k)) k = 93) := by
        rcases hcl with ⟨z1, z2⟩ | ⟨z1, z2⟩
        · left; rw [h5, z1]; refine ⟨rfl, ?_⟩; show nI (sm k) = 125; rw [hsk, z2]; rfl
        · right; rw [h5, z1]; refine ⟨rfl, ?_⟩; show nI (sm k) = 93; rw [hsk, z2]; rfl
      refine ⟨k + 1, S, u_i MK 8 2 (nI (k + 1)), u_i (u_i MM 9 d 0) 0 10 (nI d), p, iter_d (by rw [hB, if_pos (by rw [cA])]), ⟨u_i_e, by rw [u_i_k (by decide)]; exact hc.2.1, by rw [u_i_o (by decide)]; exact hc.2.2.1, by rw [u_i_o (by decide)]; exact hc.2.2.2⟩, by omega, by omega, Nat.le_refl S, by omega, ?_, u_i_e, ?_, Hi_tr (Hi_9 0 (Nat.le_refl d)) (Hi_10 _), ?_, ?_, ?_, ?_⟩
      · rw [m3_close h2 hp hkp h10 (by omega) h8 hR100 hcc, gs_pop (e := d) (by omega) (by rw [u_i_o (by decide)]; exact h10) u_i_e]
      · rw [u_i_k (by decide), u_i_o (by decide)]; exact h6
      · rw [u_i_o (by decide), u_i_o (by decide)]; exact h5
      · exact NOk_keep hO (Nat.le_refl S) (by rw [u_i_o (by decide)]) (by rw [u_i_o (by decide)]) (fun x _ => by rw [u_i_o (by decide)]) (by rw [u_i_o (by decide), u_i_o (by decide)]) (fun x _ => by rw [u_i_o (by decide), u_i_o (by decide)])
      · exact ⟨Fr.i 8 Fr.rf (by decide), fun i _ => ⟨by rw [u_i_o (by decide)], by rw [u_i_o (by decide)]⟩, fun x _ => by rw [u_i_o (by decide)]⟩
      · intro i g1 g2
        exact NodeOk_keep (hN i g1 g2) (Nat.le_refl S) (by rw [u_i_o (by decide)]) (by rw [u_i_o (by decide)]) (fun x _ => by rw [u_i_o (by decide)]) (by rw [u_i_o (by decide), u_i_o (by decide)]) (fun x _ => by rw [u_i_o (by decide), u_i_o (by decide)])
    · have cA' : ¬ nI (scn pn sm k) = nI cl := fun z => cA ((nI_eq (by omega) (by omega)).mp z)
      rw [if_neg cA'] at hB
      by_cases cB : low + 97 ≤ scn pn sm k ∧ scn pn sm k < 105 ∧ d < 12
      · obtain ⟨b1, b2, b3⟩ := cB
        obtain ⟨s, hs⟩ : ∃ s, scn pn sm k = 97 + s := ⟨scn pn sm k - 97, by omega⟩
        have hkp : k < pn := by
          apply Classical.byContradiction
          intro z
          unfold scn at hs
          rw [if_neg z] at hs
          omega
        have hsk : sm k = 97 + s := by unfold scn at hs; rw [if_pos hkp] at hs; exact hs
        have es : nI (scn pn sm k) - 97 = nI s := by
          rw [hs, show (97 : Int32) = nI 97 from rfl, nI_sub (by omega)]
          congr 1
          omega
        rw [es, if_neg (show ¬ nI s < nI low by rw [nI_ltI (by omega) (by omega)]; omega), if_neg (show ¬ (8 : Int32) ≤ nI s by rw [l_8, nI_leI (by omega) (by omega)]; omega), if_pos (show nI d < 12 by rw [l_12, nI_ltI (by omega) (by omega)]; exact b3), nI_1] at hB
        have hit := m3_letter h2 hp hkp h10 b3 h8 hR100 hlow (by omega) (by omega) (show (fun k => nI (sm k)) k = nI (97 + s) by show nI (sm k) = _; rw [hsk])
        have hKp : PdK (u_i MK 8 2 (nI (k + 1))) pn sm := PdK_fr (T := [8]) h1 (Fr.i 8 Fr.rf (by decide)) (by decide) (by decide)
        have hMp : PdM (u_i MM 10 d (nI s)) pn (fun k => nI (sm k)) := PdM_fr (T := [10]) (F := []) h2 (Fr.i 10 Fr.rf (by decide)) (Fo.o 10 Fo.rf (by decide)) (by decide) (by decide)
        have hCa : CSt (u_i MK 8 2 (nI (k + 1))) (k + 1) S := ⟨u_i_e, by rw [u_i_k (by decide)]; exact hc.2.1, by rw [u_i_o (by decide)]; exact hc.2.2.1, by rw [u_i_o (by decide)]; exact hc.2.2.2⟩
        have hTa : TgA (u_i MM 10 d (nI s)) (d + 1) (.inr (R, s, 100)) := ⟨d, rfl, by rw [u_i_o (by decide)]; exact h10, by rw [u_i_o (by decide)]; exact h8, hR100, by omega, Or.inl ⟨by rw [u_i_o (by decide)]; exact h9, u_i_e, rfl⟩⟩
        have hOa : NOk (u_i MK 8 2 (nI (k + 1))) (u_i MM 10 d (nI s)) S R p := NOk_keep hO (Nat.le_refl S) (by rw [u_i_o (by decide)]) (by rw [u_i_o (by decide)]) (fun x _ => by rw [u_i_o (by decide)]) (by rw [u_i_o (by decide)]) (fun x _ => by rw [u_i_o (by decide)])
        have hNa : ∀ i, R < i → i < S → NodeOk (u_i MK 8 2 (nI (k + 1))) (u_i MM 10 d (nI s)) S i := fun i g1 g2 => NodeOk_keep (hN i g1 g2) (Nat.le_refl S) (by rw [u_i_o (by decide)]) (by rw [u_i_o (by decide)]) (fun x _ => by rw [u_i_o (by decide)]) (by rw [u_i_o (by decide)]) (fun x _ => by rw [u_i_o (by decide)])
        rcases te_part hp (hK b3) hKp hMp hCa (by rw [u_i_o (by decide)]; exact h6) hTa (by omega) hRS (by omega) (by omega) hOa hNa with ⟨MK2, a1, a2⟩ | ⟨v, k2, S2, MK2, MM2, a1, a2, a3, a4, a5, a6, a7, a8, a9, a10, a11, a12, a13, a14, a15, a16, a17⟩
        · left
          rw [a1, Option.bind_some] at hB
          refine ⟨.inr MK2, MK2, ?_, Or.inr rfl, by rw [hit]; exact a2⟩
          rw [iter_s hB]
          obtain ⟨n, rfl⟩ : ∃ n', n = n' + 1 := ⟨n - 1, by omega⟩
          refine iter_d ?_
          unfold Te_readLetters_B6
          dsimp only
          rw [a2.1, if_neg one_ne]
          split <;> rfl
        · rw [a1, Option.bind_some] at hB
          have hgs : It 3 k MM = It 3 k2 MM2 := by
            rw [hit, a7, gs_need (e := d) (by omega) a14 (by rw [a10]; decide), a10]
            rfl
          rw [u_i_e] at a12
          rw [u_i_o (by decide)] at a11 a13
          have hH : Hi MM MM2 d R := Hi_tr (Hi_A _ (Nat.le_refl d)) a9
          have hFK : CFr MK MK2 R := CFr_tr ⟨Fr.i 8 Fr.rf (by decide), fun i _ => ⟨by rw [u_i_o (by decide)], by rw [u_i_o (by decide)]⟩, fun x _ => by rw [u_i_o (by decide)]⟩ a16
          have hl2 : MM2.1 10 d = nI (s + 1) - 1 := by rw [a12, nI_pred1 (by omega), Nat.add_sub_cancel]
          rcases ih (7 - s) (by omega) (s + 1) (b + 1) MK2 MM2 k2 S2 n _ (by omega) (by omega) (by omega) (PdK_fr h1 hFK.1 (by decide) (by decide)) (PdM_fr h2 hH.1 hH.2.1 (by decide) (by decide)) a2 a8 a14 (by rw [a11]; exact h8) a10 hl2 (by rw [a13]; exact h5) (by omega) a6 a4 a15 a17 with ⟨e, MK3, c1, c2, c3⟩ | ⟨k3, S3, MK3, MM3, p3, c1, c2, c3, c4, c5, c6, c7, c8, c9, c10, c11, c12, c13, c14⟩
          · left
            exact ⟨e, MK3, by rw [iter_s hB]; exact c1, c2, by rw [hgs]; exact c3⟩
          · right
            exact ⟨k3, S3, MK3, MM3, p3, by rw [iter_s hB]; exact c1, c2, by omega, c4, by omega, c6, by rw [hgs]; exact c7, c8, c9, Hi_tr hH c10, c11, c12, CFr_tr hFK c13, c14⟩
      · left
        have hB2 : Te_readLetters_B6 rk (nI R) (nI cl) (nI d) (nI low, nI b, MK) = Te_readLetters_L6_J77 rk MK := by
          rw [hB]
          by_cases c1 : nI (scn pn sm k) - (97 : Int32) < nI low
          · rw [if_pos c1]
          · rw [if_neg c1]
            rw [i_lt, sub97, nI_toInt (by omega)] at c1
            by_cases c2 : (8 : Int32) ≤ nI (scn pn sm k) - (97 : Int32)
            · rw [if_pos c2]
            · rw [if_neg c2]
              rw [i_le, sub97, e8] at c2
              rw [if_neg (show ¬ nI d < 12 by rw [l_12, nI_ltI (by omega) (by omega)]; omega)]
        refine ⟨.inl (u_i MK 8 3 1), u_i MK 8 3 1, iter_d (by rw [hB2]; rfl), Or.inl rfl, u_i_e, by rw [u_i_o (by decide)]; exact hc.2.2.1, k, hk, by rw [u_i_k (by decide)]; exact hc.1, ?_⟩
        by_cases hkp : k < pn
        · have hsk : scn pn sm k = sm k := by unfold scn; rw [if_pos hkp]
          rw [hsk] at cA cB
          have hm := (hsm k hkp).2
          refine m3_bad h2 hp hkp h10 hd h8 hR100 hlow (by omega) ?_ (fun s g1 g2 g3 z => cB ?_)
          · rcases hcl with ⟨z1, z2⟩ | ⟨z1, z2⟩
            · left; rw [h5, z1]; exact ⟨rfl, fun z => cA ((nI_eq (a := sm k) (b := 125) (by omega) (by omega)).mp z |>.trans z2.symm)⟩
            · right; rw [h5, z1]; exact ⟨rfl, fun z => cA ((nI_eq (a := sm k) (b := 93) (by omega) (by omega)).mp z |>.trans z2.symm)⟩
          · have := (nI_eq (a := sm k) (b := 97 + s) (by omega) (by omega)).mp z
            omega
        · have : k = pn := by omega
          subst this
          exact it_endF (by omega) h2.1 (by decide)
end TX4
