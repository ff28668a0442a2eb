/-! TEXT: a naming, in both -/
def enKo (x : Option Nat) : Int32 := match x with
  | none => -6
  | some v => encK v
def NmOk (MK MM : QM) (R : Nat) (q : Nat → Option Nat) : Prop := ∀ c, c < 8 → MM.1 7 c = enc (q c) ∧ MK.1 13 c = enKo (q c) ∧ ∀ v, q c = some v → VOk R v
section TX6
variable {M MK MM : QM} {pn k R : Nat} {sm : Nat → Nat} {sp : Nat → Int32} {q : Nat → Option Nat}
theorem b36_0 (h : PdM M pn sp) (hp : pn ≤ 100) (hk : k < pn) : Mo_faultOf_B36 (0, nI k, M) = Option.bind (Mo_in (sp k) (65 : Int32) (72 : Int32) M) (fun q20 => (if q20 = 0 then Mo_faultOf_L36_J522 (nI k) (-6 : Int32) M else ck (inb (sp k - (65 : Int32)) 8) ((if (M.1 7 (sp k - (65 : Int32)).toNatClampNeg) = (-6 : Int32) then Mo_faultOf_L36_J522 (nI k) (1 : Int32) (u_i M 0 14 (sp k - (65 : Int32))) else Mo_faultOf_L36_J522 (nI k) (-6 : Int32) M)))) := by
  unfold Mo_faultOf_B36
  dsimp only
  rw [h.1, if_neg (show ¬ nI pn ≤ nI k by rw [nI_leI (by omega) (by omega)]; omega), ck_in (by omega) (by omega), ix_nI (by omega), h.2 k hk, if_pos rfl]
theorem b36_1 (h : PdM M pn sp) (hp : pn ≤ 100) (hk : k < pn) : Mo_faultOf_B36 (1, nI k, M) = if sp k = 61 then Mo_faultOf_L36_J522 (nI k) 2 M else Mo_faultOf_L36_J522 (nI k) (-6) M := by
  unfold Mo_faultOf_B36 Mo_faultOf_L36_J115
  dsimp only
  rw [h.1, if_neg (show ¬ nI pn ≤ nI k by rw [nI_leI (by omega) (by omega)]; omega), ck_in (by omega) (by omega), ix_nI (by omega), h.2 k hk, if_neg one_ne, if_pos rfl]
theorem b36_4 (h : PdM M pn sp) (hp : pn ≤ 100) (hk : k < pn) : Mo_faultOf_B36 (4, nI k, M) = if sp k = 59 then Mo_faultOf_L36_J522 (nI k) 0 M else Mo_faultOf_L36_J522 (nI k) (-6) M := by
  unfold Mo_faultOf_B36 Mo_faultOf_L36_J520
  dsimp only
  rw [h.1, if_neg (show ¬ nI pn ≤ nI k by rw [nI_leI (by omega) (by omega)]; omega), ck_in (by omega) (by omega), ix_nI (by omega), h.2 k hk, if_neg (show ¬ (4 : Int32) = 0 by decide), if_neg (show ¬ (4 : Int32) = 1 by decide), if_neg (show ¬ (4 : Int32) = 2 by decide), if_neg (show ¬ (4 : Int32) = 3 by decide), if_pos rfl]
/-- no name to be told stands here -/
theorem m0_bad (h : PdM M pn (fun k => nI (sm k))) (hp : pn ≤ 100) (hk : k ≤ pn) (hsm : ∀ k, k < pn → 33 ≤ sm k ∧ sm k ≤ 126) (hb : ∀ x, x < 8 → k < pn → sm k = 65 + x → M.1 7 x ≠ -6) : Fl (It 0 k M) k := by
  by_cases hkp : k < pn
  · have hm := (hsm k hkp).2
    refine it_bad (by omega) ?_
    rw [b36_0 h hp hkp]
    by_cases c : 65 ≤ sm k ∧ sm k ≤ 72
    · obtain ⟨x, hx⟩ : ∃ x, sm k = 65 + x := ⟨sm k - 65, by omega⟩
      have hin := mo_in_1 (M := M) (c := sm k) (a := 65) (b := 72) (by omega) (by decide) (by decide)
      rw [if_pos c] at hin
      have es : nI (sm k) - 65 = nI x := by
        rw [hx, show (65 : Int32) = nI 65 from rfl, nI_sub (by omega)]
        congr 1
        omega
      show Option.bind (Mo_in (nI (sm k)) 65 72 M) _ = _
      rw [show Mo_in (nI (sm k)) 65 72 M = some 1 from hin, Option.bind_some, if_neg one_ne]
      show ck (inb (nI (sm k) - 65) 8) _ = _
      rw [es, ck_in (by omega) (by omega), ix_nI (by omega), if_neg (hb x (by omega) hkp hx)]
    · have hin := mo_in_1 (M := M) (c := sm k) (a := 65) (b := 72) (by omega) (by decide) (by decide)
      rw [if_neg c] at hin
      show Option.bind (Mo_in (nI (sm k)) 65 72 M) _ = _
      rw [show Mo_in (nI (sm k)) 65 72 M = some 0 from hin, Option.bind_some, if_pos rfl]
  · have : k = pn := by omega
    subst this
    exact it_endF (by omega) h.1 (by decide)
theorem m0_go (h : PdM M pn (fun k => nI (sm k))) (hp : pn ≤ 100) (hk : k < pn) {x : Nat} (hx : x < 8) (hc : sm k = 65 + x) (h7 : M.1 7 x = -6) : It 0 k M = It 1 (k + 1) (u_i M 0 14 (nI x)) := by
  refine it_go (by omega) ?_ (by decide) (by decide)
  rw [b36_0 h hp hk]
  have hin := mo_in_1 (M := M) (c := sm k) (a := 65) (b := 72) (by omega) (by decide) (by decide)
  rw [if_pos (show 65 ≤ sm k ∧ sm k ≤ 72 by omega)] at hin
  have es : nI (sm k) - 65 = nI x := by
    rw [hc, show (65 : Int32) = nI 65 from rfl, nI_sub (by omega)]
    congr 1
    omega
  show Option.bind (Mo_in (nI (sm k)) 65 72 M) _ = _
  rw [show Mo_in (nI (sm k)) 65 72 M = some 1 from hin, Option.bind_some, if_neg one_ne]
  show ck (inb (nI (sm k) - 65) 8) (if M.1 7 (nI (sm k) - 65).toNatClampNeg = -6 then Mo_faultOf_L36_J522 (nI k) 1 (u_i M 0 14 (nI (sm k) - 65)) else _) = _
  rw [es, ck_in (by omega) (by omega), ix_nI (by omega), if_pos h7]
theorem dr_name {x : Nat} (hx : x < 8) : Dr_nameAt (nI x) M = some (M.1 13 x) := by
  unfold Dr_nameAt
  rw [if_neg (nI_pos (by omega)), if_neg (show ¬ (8 : Int32) ≤ nI x by rw [l_8, nI_leI (by omega) (by omega)]; omega), ck_in hx (by omega), ix_nI (by omega)]
theorem dr_setName {x : Nat} (hx : x < 8) (v : Int32) : Dr_setName (nI x) v M = some (u_i M 13 x v) := by
  unfold Dr_setName
  rw [if_neg (nI_pos (by omega)), if_neg (show ¬ (8 : Int32) ≤ nI x by rw [l_8, nI_leI (by omega) (by omega)]; omega), ck_in hx (by omega), ix_nI (by omega)]
theorem enKo_none {x : Option Nat} (h : ∀ v, x = some v → v < 1000) : enKo x = -6 ↔ x = none := by
  cases x with
  | none => exact ⟨fun _ => rfl, fun _ => rfl⟩
  | some v =>
    have := h v rfl
    refine ⟨fun z => ?_, fun z => by cases z⟩
    have z' : encK v = -6 := z
    unfold encK at z'
    split at z'
    · exact absurd z' (nI_neg6 (by omega))
    · exact absurd z' (nI_neg6 (by omega))
theorem te_naming (hp : pn ≤ 100) (hsm : ∀ k, k < pn → 33 ≤ sm k ∧ sm k ≤ 126) (h1 : PdK MK pn sm) (h2 : PdM MM pn (fun k => nI (sm k))) (hc : CSt MK k R) (h6 : MM.1 0 6 = nI R) (h10 : MM.1 0 10 = nI 0) (hq : NmOk MK MM R q) (hN : ∀ i, i < R → NodeOk MK MM R i) (hRk : R ≤ k) (hk : k ≤ pn) :
    (∃ MK2, Te_readNaming MK = some MK2 ∧ Bad pn MK2 (It 0 k MM)) ∨
    (∃ x v k2 R2 MK2 MM2, x < 8 ∧ q x = none ∧ Te_readNaming MK = some MK2 ∧ CSt MK2 k2 R2 ∧ k < k2 ∧ k2 ≤ pn ∧ R2 ≤ k2 ∧ It 0 k MM = It 4 k2 MM2 ∧ MM2.1 0 10 = nI 0 ∧ MM2.1 0 6 = nI R2 ∧ NmOk MK2 MM2 R2 (fun c => if c = x then some v else q c) ∧ (∀ i, i < R2 → NodeOk MK2 MM2 R2 i) ∧ PdK MK2 pn sm ∧ PdM MM2 pn (fun k => nI (sm k))) := by
  have hcm : scn pn sm k ≤ 126 := by
    unfold scn
    split
    · exact (hsm k (by assumption)).2
    · omega
  have sub65 : (nI (scn pn sm k) - (65 : Int32)).toInt = (scn pn sm k : Int) - 65 := by
    have : ∀ m : Nat, m < 127 → (nI m - (65 : Int32)).toInt = (m : Int) - 65 := by decide
    exact this _ (by omega)
  have e8 : (8 : Int32).toInt = 8 := by decide
  have e0 : (0 : Int32).toInt = 0 := by decide
  have hv7 : ∀ c, c < 8 → ∀ v, q c = some v → v < 1000 := fun c hc v hv => by rcases (hq c hc).2.2 v hv with z | z <;> omega
  have stuck : Te_readNaming MK = some (u_i MK 8 3 1) → Fl (It 0 k MM) k → (∃ MK2, Te_readNaming MK = some MK2 ∧ Bad pn MK2 (It 0 k MM)) := by
    intro g1 g2
    exact ⟨_, g1, u_i_e, by rw [u_i_o (by decide)]; exact hc.2.2.1, k, hk, by rw [u_i_k (by decide)]; exact hc.1, g2⟩
  by_cases cn : 65 ≤ scn pn sm k ∧ scn pn sm k ≤ 72
  · have hkp : k < pn := by
      apply Classical.byContradiction
      intro z
      unfold scn at cn
      rw [if_neg z] at cn
      omega
    have hsk : scn pn sm k = sm k := by unfold scn; rw [if_pos hkp]
    obtain ⟨x, hx⟩ : ∃ x, sm k = 65 + x := ⟨sm k - 65, by omega⟩
    have hx8 : x < 8 := by omega
    have es : nI (scn pn sm k) - 65 = nI x := by
      rw [hsk, hx, show (65 : Int32) = nI 65 from rfl, nI_sub (by omega)]
      congr 1
      omega
    have b8 : (u_i MK 8 2 (nI (k + 1))).1 8 2 = nI (k + 1) := u_i_e
    have hMKa : PdK (u_i MK 8 2 (nI (k + 1))) pn sm := PdK_fr (T := [8]) h1 (Fr.i 8 Fr.rf (by decide)) (by decide) (by decide)
    have hrn : Te_readNaming MK = if MK.1 13 x = -6 then (if nI (scn pn sm (k + 1)) = 61 then Option.bind (Te_readKind_r 14 (nI 0) (u_i (u_i MK 8 2 (nI (k + 1))) 8 2 (nI (k + 2)))) (fun q4 => Option.bind (Dr_setName (nI x) q4.1 q4.2) (fun q5 => some q5)) else some (u_i (u_i MK 8 2 (nI (k + 1))) 8 3 1)) else some (u_i MK 8 3 1) := by
      unfold Te_readNaming Te_readNaming_J38
      rw [hc.1, te_sign h1 hp (by omega), Option.bind_some, es, if_neg (nI_pos (by omega)), if_neg (show ¬ (8 : Int32) ≤ nI x by rw [l_8, nI_leI (by omega) (by omega)]; omega), dr_name hx8, Option.bind_some, nI_1, b8, te_sign hMKa hp (by omega), Option.bind_some, nI_1]
      rfl
    by_cases ct : q x = none
    · have hk13 : MK.1 13 x = -6 := by rw [(hq x hx8).2.1, ct]; rfl
      have hm7 : MM.1 7 x = -6 := by rw [(hq x hx8).1, ct]; rfl
      rw [hk13, if_pos rfl] at hrn
      have hi1 := m0_go h2 hp hkp hx8 hx hm7
      have hMa : PdM (u_i MM 0 14 (nI x)) pn (fun k => nI (sm k)) := PdM_fr (T := [0]) (F := [14]) h2 (Fr.i 0 Fr.rf (by decide)) (Fo.i 14 Fo.rf (by decide)) (by decide) (by decide)
      by_cases ce : scn pn sm (k + 1) = 61
      · have hkp1 : k + 1 < pn := by
          apply Classical.byContradiction
          intro z
          unfold scn at ce
          rw [if_neg z] at ce
          omega
        have hs1 : sm (k + 1) = 61 := by unfold scn at ce; rw [if_pos hkp1] at ce; exact ce
        rw [if_pos (show nI (scn pn sm (k + 1)) = 61 by rw [ce]; rfl)] at hrn
        have hi2 : It 1 (k + 1) (u_i MM 0 14 (nI x)) = It 2 (k + 2) (u_i MM 0 14 (nI x)) := by
          refine it_go (by omega) ?_ (by decide) (by decide)
          rw [b36_1 hMa hp hkp1, if_pos (show nI (sm (k + 1)) = 61 by rw [hs1]; rfl)]
        have hCb : CSt (u_i (u_i MK 8 2 (nI (k + 1))) 8 2 (nI (k + 2))) (k + 2) R := ⟨u_i_e, by rw [u_i_k (by decide), u_i_k (by decide)]; exact hc.2.1, by rw [u_i_o (by decide), u_i_o (by decide)]; exact hc.2.2.1, by rw [u_i_o (by decide), u_i_o (by decide)]; exact hc.2.2.2⟩
        have fb : Fr [8] MK (u_i (u_i MK 8 2 (nI (k + 1))) 8 2 (nI (k + 2))) := Fr.i 8 (Fr.i 8 Fr.rf (by decide)) (by decide)
        rcases kind_all hp hsm 14 0 (by omega) (by omega) _ (u_i MM 0 14 (nI x)) (k + 2) R (.inl x) (PdK_fr h1 fb (by decide) (by decide)) hMa hCb (by rw [u_i_k (by decide)]; exact h6) ⟨rfl, by rw [u_i_k (by decide)]; exact h10, u_i_e, hx8⟩ (fun _ _ _ z => by cases z) (by omega) (by omega) with ⟨y, MK2, a1, a2⟩ | ⟨v, k2, R2, MK2, MM2, a1, a2, a3, a4, a5, a6, a7, a8, a9, a10, a11, a12⟩
        · left
          rw [a1, Option.bind_some, dr_setName hx8, Option.bind_some] at hrn
          refine ⟨_, hrn, ?_⟩
          obtain ⟨c1, c2, p, c3, c4, c5⟩ := a2
          exact ⟨by rw [u_i_o (by decide)]; exact c1, by rw [u_i_o (by decide)]; exact c2, p, c3, by rw [u_i_o (by decide)]; exact c4, by rw [hi1, hi2]; exact c5⟩
        · right
          rw [a1, Option.bind_some, dr_setName hx8, Option.bind_some] at hrn
          obtain ⟨r1, r2, r3, r4, r5, r6, r7⟩ := RF_name a11
          refine ⟨x, v, k2, R2, _, MM2, hx8, ct, hrn, ⟨?_, ?_, ?_, ?_⟩, by omega, a5, a7, by rw [hi1, hi2, a9, gs_0 r5], r5, a10, fun c hc8 => ?_, fun i hi => ?_, ?_, ?_⟩
          · rw [u_i_o (by decide)]; exact a2.1
          · rw [u_i_o (by decide)]; exact a2.2.1
          · rw [u_i_o (by decide)]; exact a2.2.2.1
          · rw [u_i_o (by decide)]; exact a2.2.2.2
          · dsimp only
            by_cases e : c = x
            · subst e
              rw [if_pos rfl, u_i_e]
              exact ⟨r1, rfl, fun w hw => by cases hw; exact a8⟩
            · rw [if_neg e, u_i_k e, r2 c e, u_i_o (by decide), (a3.1 13 (by decide)).1, (fb 13 (by decide)).1]
              exact ⟨(hq c hc8).1, (hq c hc8).2.1, fun w hw => VOk_le ((hq c hc8).2.2 w hw) a6⟩
          · by_cases e : i < R
            · obtain ⟨w1, w2⟩ := a3.2.1 i e
              refine NodeOk_keep (hN i e) a6 ?_ ?_ (fun s hs => ?_) ?_ (fun s hs => ?_)
              · rw [u_i_o (by decide), w1, (fb 10 (by decide)).1]
              · rw [u_i_o (by decide), w2, (fb 11 (by decide)).1]
              · rw [u_i_o (by decide), a3.2.2 _ (by omega), (fb 12 (by decide)).1]
              · rw [r3 i e, u_i_o (by decide)]
              · rw [r4 _ (by omega), u_i_o (by decide)]
            · exact NodeOk_keep (a12 i (by omega) hi) (Nat.le_refl R2) (by rw [u_i_o (by decide)]) (by rw [u_i_o (by decide)]) (fun s _ => by rw [u_i_o (by decide)]) rfl (fun _ _ => rfl)
          · exact PdK_fr (T := [8, 9, 10, 11, 12, 13]) h1 (Fr.i 13 (Fr.tr (Fr.sub fb (by decide)) (Fr.sub a3.1 (by decide))) (by decide)) (by decide) (by decide)
          · exact PdM_fr hMa r6 r7 (by decide) (by decide)
      · left
        rw [if_neg (show ¬ nI (scn pn sm (k + 1)) = 61 from fun z => ce ((nI_eq (b := 61) (by
          have : scn pn sm (k + 1) ≤ 126 := by
            unfold scn
            split
            · exact (hsm _ (by assumption)).2
            · omega
          omega) (by omega)).mp z))] at hrn
        refine ⟨_, hrn, u_i_e, by rw [u_i_o (by decide), u_i_o (by decide)]; exact hc.2.2.1, k + 1, by omega, by rw [u_i_k (by decide), u_i_e], ?_⟩
        rw [hi1]
        by_cases hkp1 : k + 1 < pn
        · refine it_bad (by omega) ?_
          have hm := (hsm _ hkp1).2
          rw [b36_1 hMa hp hkp1, if_neg (show ¬ nI (sm (k + 1)) = 61 from fun z => ce (by unfold scn; rw [if_pos hkp1]; exact (nI_eq (b := 61) (by omega) (by omega)).mp z))]
        · have : k + 1 = pn := by omega
          exact it_endF (by omega) (by rw [this]; exact hMa.1) (by decide)
    · left
      rw [if_neg (fun z => ct ((enKo_none (hv7 x hx8)).mp (by rw [← (hq x hx8).2.1]; exact z)))] at hrn
      refine stuck hrn (m0_bad h2 hp hk hsm (fun y hy _ hxy z => ct ?_))
      have : y = x := by omega
      subst this
      rw [(hq y hy).1] at z
      exact (enc_none_iff (fun j hj => by have := hv7 y hy j hj; omega)).mp z
  · left
    refine stuck ?_ (m0_bad h2 hp hk hsm (fun y hy hkp hxy => ?_))
    · unfold Te_readNaming Te_readNaming_J38
      rw [hc.1, te_sign h1 hp (by omega), Option.bind_some]
      by_cases c1 : nI (scn pn sm k) - (65 : Int32) < 0
      · rw [if_pos c1]
      · rw [if_neg c1, if_pos]
        rw [i_lt, sub65, e0] at c1
        rw [i_le, sub65, e8]
        omega
    · exfalso
      apply cn
      unfold scn
      rw [if_pos hkp]
      omega
end TX6
