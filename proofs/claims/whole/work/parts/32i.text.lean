/-! TEXT: the whole pad, in both -/
noncomputable def cnq (q : Nat → Option Nat) : Nat := tot (fun c => bl (q c ≠ none)) 8
theorem cnq_up {q : Nat → Option Nat} {x v : Nat} (hx : x < 8) (h : q x = none) : cnq (fun c => if c = x then some v else q c) = cnq q + 1 := by
  unfold cnq
  refine tot_one (k0 := x) hx (fun k hk hne => bl_eq ?_) ?_
  · dsimp only
    rw [if_neg hne]
  · dsimp only
    rw [if_pos rfl, bl_1 (by simp), bl_0 (fun z => z h)]
theorem cnq_all {q : Nat → Option Nat} (h : cnq q = 8) : ∀ c, c < 8 → q c ≠ none := by
  intro c hc z
  have := bl_tot_lt (p := fun c => q c ≠ none) (n := 8) (x := c) hc (fun y => y z)
  unfold cnq at h
  omega
/-- both read the pad through -/
def TeOk (pn : Nat) (MK MM : QM) (R : Nat) (q : Nat → Option Nat) : Prop := MK.1 9 0 = 100 ∧ MK.1 9 5 = nI R ∧ MM.1 0 6 = nI R ∧ R ≤ pn ∧ NmOk MK MM R q ∧ ∀ i, i < R → NodeOk MK MM R i
theorem te_loop {pn : Nat} {sm : Nat → Nat} (hp : pn ≤ 100) (hsm : ∀ k, k < pn → 33 ≤ sm k ∧ sm k ≤ 126) : ∀ (r b : Nat) (MK MM : QM) (k R n : Nat) (q : Nat → Option Nat),
    b + r = 8 → r + 1 ≤ n → cnq q = b → PdK MK pn sm → PdM MM pn (fun k => nI (sm k)) → CSt MK k R → MM.1 0 6 = nI R → MM.1 0 10 = nI 0 → NmOk MK MM R q → (∀ i, i < R → NodeOk MK MM R i) → R ≤ k → k ≤ pn →
    (∃ p MK2, iter Te_read_B19 n (nI b, MK) = some (.inl (nI p, MK2)) ∧ MK2.1 9 0 = 100 ∧ p ≤ pn ∧ Fl (It 0 k MM) p) ∨
    (∃ R2 q2 MK2 MM2, iter Te_read_B19 n (nI b, MK) = some (.inl (-6, MK2)) ∧ It 0 k MM = some (.inr (4, MM2)) ∧ TeOk pn MK2 MM2 R2 q2) := by
  intro r
  induction r with
  | zero =>
    intro b MK MM k R n q hb hn hcn h1 h2 hc h6 h10 hq hN hRk hk
    obtain ⟨n, rfl⟩ : ∃ n', n = n' + 1 := ⟨n - 1, by omega⟩
    have hb8 : b = 8 := by omega
    subst hb8
    rcases te_naming hp hsm h1 h2 hc h6 h10 hq hN hRk hk with ⟨MK2, a1, a2⟩ | ⟨x, v, k2, R2, MK2, MM2, a0, a1, a2⟩
    · left
      obtain ⟨c1, c2, p, c3, c4, c5⟩ := a2
      refine ⟨p, MK2, iter_d ?_, c2, c3, c5⟩
      unfold Te_read_B19
      dsimp only
      rw [if_neg (show ¬ (8 : Int32) < nI 8 by decide), a1, Option.bind_some, c1, if_neg one_ne, c4]
    · exact absurd a1 (cnq_all hcn x a0)
  | succ r ih =>
    intro b MK MM k R n q hb hn hcn h1 h2 hc h6 h10 hq hN hRk hk
    obtain ⟨n, rfl⟩ : ∃ n', n = n' + 1 := ⟨n - 1, by omega⟩
    have hb8 : ¬ (8 : Int32) < nI b := by rw [l_8, nI_ltI (by omega) (by omega)]; omega
    rcases te_naming hp hsm h1 h2 hc h6 h10 hq hN hRk hk with ⟨MK2, a1, a2⟩ | ⟨x, v, k2, R2, MK2, MM2, a0, a1, a2, a3, a4, a5, a6, a7, a8, a9, a10, a11, a12, a13⟩
    · left
      obtain ⟨c1, c2, p, c3, c4, c5⟩ := a2
      refine ⟨p, MK2, iter_d ?_, c2, c3, c5⟩
      unfold Te_read_B19
      dsimp only
      rw [if_neg hb8, a1, Option.bind_some, c1, if_neg one_ne, c4]
    · have hB : Te_read_B19 (nI b, MK) = (if nI k2 < nI pn then (if nI (scn pn sm k2) = 59 then some (.inr (nI (b + 1), u_i MK2 8 2 (nI (k2 + 1)))) else some (.inl (.inl (nI k2, MK2)))) else some (.inl (.inl (-6, MK2)))) := by
        unfold Te_read_B19 Pa_length
        dsimp only
        rw [if_neg hb8, a2, Option.bind_some, a3.2.1, if_pos rfl, Option.bind_some, a3.1, a12.1, te_sign a12 hp (by omega), Option.bind_some, nI_1, nI_1]
      by_cases hkp : k2 < pn
      · rw [if_pos (show nI k2 < nI pn by rw [nI_ltI (by omega) (by omega)]; exact hkp)] at hB
        have hm := (hsm _ hkp).2
        have hsk : scn pn sm k2 = sm k2 := by unfold scn; rw [if_pos hkp]
        rw [hsk] at hB
        by_cases ce : sm k2 = 59
        · rw [if_pos (show nI (sm k2) = 59 by rw [ce]; rfl)] at hB
          have hit : It 0 k MM = It 0 (k2 + 1) MM2 := by
            rw [a7, it_go (st2 := 0) (M2 := MM2) (by omega) (by rw [b36_4 a13 hp hkp, if_pos (show nI (sm k2) = 59 by rw [ce]; rfl)]) (by decide) (by decide)]
          rw [iter_s hB, hit]
          refine ih (b + 1) (u_i MK2 8 2 (nI (k2 + 1))) MM2 (k2 + 1) R2 n (fun c => if c = x then some v else q c) (by omega) (by omega) (by rw [cnq_up a0 a1, hcn]) (PdK_fr (T := [8]) a12 (Fr.i 8 Fr.rf (by decide)) (by decide) (by decide)) a13 ⟨u_i_e, by rw [u_i_k (by decide)]; exact a3.2.1, by rw [u_i_o (by decide)]; exact a3.2.2.1, by rw [u_i_o (by decide)]; exact a3.2.2.2⟩ a9 a8 (fun c hc => by rw [u_i_o (by decide)]; exact a10 c hc) (fun i hi => NodeOk_keep (a11 i hi) (Nat.le_refl R2) (by rw [u_i_o (by decide)]) (by rw [u_i_o (by decide)]) (fun s _ => by rw [u_i_o (by decide)]) rfl (fun _ _ => rfl)) (by omega) (by omega)
        · left
          rw [if_neg (show ¬ nI (sm k2) = 59 from fun z => ce ((nI_eq (b := 59) (by omega) (by omega)).mp z))] at hB
          refine ⟨k2, MK2, iter_d hB, a3.2.2.1, a5, ?_⟩
          rw [a7]
          refine it_bad (by omega) ?_
          rw [b36_4 a13 hp hkp, if_neg (show ¬ nI (sm k2) = 59 from fun z => ce ((nI_eq (b := 59) (by omega) (by omega)).mp z))]
      · right
        have : k2 = pn := by omega
        rw [if_neg (show ¬ nI k2 < nI pn by rw [nI_ltI (by omega) (by omega)]; omega)] at hB
        refine ⟨R2, _, MK2, MM2, iter_d hB, ?_, a3.2.2.1, a3.2.2.2, a9, by omega, a10, a11⟩
        rw [a7]
        exact it_end (by omega) (by rw [this]; exact a13.1)
theorem fill_13 {M : QM} (v : Int32) : ∃ M2, Fi_13 v M = some M2 ∧ Fr [13] M M2 ∧ ∀ x, x < 8 → M2.1 13 x = v := by
  obtain ⟨M2, b1, b2⟩ := iter_0 (B := Fi_13_B5 v (Nat.toInt32 8))
    (fun t w => ∃ M2, w = (nI t, M2) ∧ Fr [13] M M2 ∧ ∀ c, c < t → M2.1 13 c = v)
    (fun M2 => Fr [13] M M2 ∧ ∀ c, c < 8 → M2.1 13 c = v)
    8 (by omega)
    (by
      rintro t w ht ⟨M2, rfl, c1, c2⟩
      refine Or.inl ⟨_, ?_, u_i M2 13 t v, rfl, Fr.i 13 c1 (by decide), fun c hc => ?_⟩
      · unfold Fi_13_B5
        dsimp only
        rw [if_neg (show ¬ (Nat.toInt32 8) ≤ nI t by rw [show Nat.toInt32 8 = nI 8 from rfl, nI_leI (by omega) (by omega)]; omega), ck_in ht (by omega), ix_nI (by omega), nI_1]
      · by_cases e : c = t
        · subst e; exact u_i_e
        · rw [u_i_k e]; exact c2 c (by omega))
    (by
      rintro w ⟨M2, rfl, c⟩
      refine ⟨M2, ?_, c⟩
      unfold Fi_13_B5
      dsimp only
      rw [if_pos (show Nat.toInt32 8 ≤ nI 8 by decide)]) (0, M) ⟨M, rfl, Fr.rf, fun c hc => by omega⟩
  refine ⟨M2, ?_, b2⟩
  unfold Fi_13
  rw [b1]; rfl
theorem mo_names0 {M : QM} (x1 : Int32) : ∃ M2, iter (Mo_faultOf_B14 x1) FU ((0 : Int32), M) = some M2 ∧ Fr [7] M M2 ∧ ∀ x, x < 8 → M2.1 7 x = -6 := by
  obtain ⟨M2, b1, b2⟩ := iter_0 (B := Mo_faultOf_B14 x1)
    (fun t w => ∃ M2, w = (nI t, M2) ∧ Fr [7] M M2 ∧ ∀ c, c < t → M2.1 7 c = -6)
    (fun M2 => Fr [7] M M2 ∧ ∀ c, c < 8 → M2.1 7 c = -6)
    8 (by omega)
    (by
      rintro t w ht ⟨M2, rfl, c1, c2⟩
      refine Or.inl ⟨_, ?_, u_i M2 7 t (-6), rfl, Fr.i 7 c1 (by decide), fun c hc => ?_⟩
      · unfold Mo_faultOf_B14
        dsimp only
        rw [if_neg (show ¬ (8 : Int32) ≤ nI t by rw [l_8, nI_leI (by omega) (by omega)]; omega), ck_in ht (by omega), ix_nI (by omega), nI_1]
      · by_cases e : c = t
        · subst e; exact u_i_e
        · rw [u_i_k e]; exact c2 c (by omega))
    (by
      rintro w ⟨M2, rfl, c⟩
      refine ⟨M2, ?_, c⟩
      unfold Mo_faultOf_B14
      dsimp only
      rw [if_pos (show (8 : Int32) ≤ nI 8 by decide)]) (0, M) ⟨M, rfl, Fr.rf, fun c hc => by omega⟩
  exact ⟨M2, b1, b2⟩
/-- the text is read in both -/
theorem text_both {MK MM : QM} (hP : PadR MK MM) (h9 : MK.1 9 0 = 100) :
    ∃ (rK rM : Int32) (MK2 MM2 : QM), Te_read MK = some (rK, MK2) ∧ Mo_faultOf MM = some (rM, MM2) ∧ MK2.1 9 0 = 100 ∧
      ((∃ p, p ≤ 100 ∧ rK = nI p ∧ rM = nI p) ∨ (rK = -6 ∧ rM = -6 ∧ ∃ pn R q, pn ≤ 100 ∧ TeOk pn MK2 MM2 R q)) := by
  obtain ⟨pn, p1, p2, p3, p4⟩ := hP
  let sm : Nat → Nat := fun k => (MM.1 1 k).toInt.toNat
  have hsmv : ∀ k, k < pn → MM.1 1 k = nI (sm k) := fun k hk => by
    have := p4 k hk
    rw [i_eq, nI_toInt (by show ((MM.1 1 k).toInt.toNat) < 2 ^ 31; omega)]
    show _ = (((MM.1 1 k).toInt.toNat : Nat) : Int)
    omega
  have hsm : ∀ k, k < pn → 33 ≤ sm k ∧ sm k ≤ 126 := fun k hk => by
    have := p4 k hk
    show 33 ≤ (MM.1 1 k).toInt.toNat ∧ (MM.1 1 k).toInt.toNat ≤ 126
    omega
  obtain ⟨MKa, a1, a2, a3⟩ := fill_13 (M := u_i MK 9 5 0) (-6)
  obtain ⟨MMa, b1, b2, b3⟩ := mo_names0 (M := u_i (u_i MM 0 6 0) 0 10 0) 0
  have fKb : Fr [8, 9, 13] MK (u_i (u_i MKa 8 2 0) 8 3 0) := Fr.i 8 (Fr.i 8 (Fr.tr (Fr.i 9 Fr.rf (by decide)) (Fr.sub a2 (by decide))) (by decide)) (by decide)
  have fMb : Fr [0, 7] MM MMa := Fr.tr (Fr.i 0 (Fr.i 0 Fr.rf (by decide)) (by decide)) (Fr.sub b2 (by decide))
  have oMb : Fo [6, 10] MM MMa := fun x hx => by
    rw [(b2 0 (by decide)).1]
    exact Fo.i 10 (Fo.i 6 Fo.rf (by decide)) (by decide) x hx
  have e0 : (u_i (u_i MKa 8 2 0) 8 3 0).1 9 0 = 100 := by
    rw [u_i_o (by decide), u_i_o (by decide), (a2 9 (by decide)).1, u_i_k (by decide)]; exact h9
  have hK : PdK (u_i (u_i MKa 8 2 0) 8 3 0) pn sm := ⟨by rw [(fKb 1 (by decide)).1]; exact p2, fun k hk => by rw [(fKb 2 (by decide)).1, (p4 k hk).1]; exact hsmv k hk⟩
  have hM : PdM MMa pn (fun k => nI (sm k)) := ⟨by rw [oMb 0 (by decide)]; exact p3, fun k hk => by rw [(fMb 1 (by decide)).1]; exact hsmv k hk⟩
  have hC : CSt (u_i (u_i MKa 8 2 0) 8 3 0) 0 0 := ⟨by rw [u_i_k (by decide), u_i_e]; rfl, u_i_e, e0, by rw [u_i_o (by decide), u_i_o (by decide), (a2 9 (by decide)).1, u_i_e]; rfl⟩
  have h6 : MMa.1 0 6 = nI 0 := by rw [(b2 0 (by decide)).1, u_i_k (by decide), u_i_e]; rfl
  have h10 : MMa.1 0 10 = nI 0 := by rw [(b2 0 (by decide)).1, u_i_e]; rfl
  have hq : NmOk (u_i (u_i MKa 8 2 0) 8 3 0) MMa 0 (fun _ => none) := fun c hc => ⟨b3 c hc, by rw [u_i_o (by decide), u_i_o (by decide)]; exact a3 c hc, fun v hv => absurd hv (by simp)⟩
  have hT : ∀ r MK2, iter Te_read_B19 FU (nI 0, u_i (u_i MKa 8 2 0) 8 3 0) = some (.inl (r, MK2)) → Te_read MK = some (r, MK2) := by
    intro r MK2 h
    unfold Te_read Dr_clear
    have h' : iter Te_read_B19 FU ((0 : Int32), u_i (u_i MKa 8 2 0) 8 3 0) = some (.inl (r, MK2)) := h
    rw [a1, Option.bind_some, Option.bind_some, h']
    rfl
  have hF : ∀ e, It 0 0 MMa = some e → Mo_faultOf MM = some (fin_ e) := by
    intro e h
    unfold Mo_faultOf
    rw [b1, Option.bind_some]
    have h' : iter Mo_faultOf_B36 FU ((0 : Int32), (0 : Int32), MMa) = some e := h
    rw [h', Option.bind_some]
    cases e with
    | inl x => rfl
    | inr y =>
      unfold fin_
      show (if y.1 = 4 then some ((-6 : Int32), y.2) else some (y.2.1 0 0, y.2)) = some (if y.1 = 4 then ((-6 : Int32), y.2) else (y.2.1 0 0, y.2))
      split <;> rfl
  rcases te_loop p1 hsm 8 0 (u_i (u_i MKa 8 2 0) 8 3 0) MMa 0 0 FU (fun _ => none) (by omega) (fu_ge (by omega)) (tot_0 (fun c _ => bl_0 (fun z => z rfl))) hK hM hC h6 h10 hq (fun i hi => by omega) (by omega) (by omega) with ⟨p, MK2, c1, c2, c3, ⟨e, c4, c5⟩⟩ | ⟨R2, q2, MK2, MM2, c1, c2, c3⟩
  · refine ⟨nI p, (fin_ e).1, MK2, (fin_ e).2, hT _ _ c1, hF e c4, c2, Or.inl ⟨p, by omega, rfl, c5⟩⟩
  · exact ⟨-6, -6, MK2, MM2, hT _ _ c1, hF _ c2, c3.1, Or.inr ⟨rfl, rfl, pn, R2, q2, p1, c3⟩⟩
