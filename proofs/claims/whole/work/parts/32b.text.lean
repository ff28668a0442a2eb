/-! TEXT: where a kind comes to -/
abbrev Tgt : Type := Nat ⊕ (Nat × Nat × Int32)
/-- the place to which the next kind comes: a name's, or a slot's of a begun node -/
def TgA (M : QM) (d : Nat) (t : Tgt) : Prop := match t with
  | .inl ow => d = 0 ∧ M.1 0 10 = nI 0 ∧ M.1 0 14 = nI ow ∧ ow < 8
  | .inr (own, s, nd) => ∃ e, d = e + 1 ∧ M.1 0 10 = nI d ∧ M.1 8 e = nI own ∧ own < 100 ∧ s < 8 ∧ ((M.1 9 e = 100 ∧ M.1 10 e = nI s ∧ nd = 100) ∨ (M.1 9 e = 1 ∧ M.1 5 own = 42 ∧ s = 0 ∧ nd = 0) ∨ (M.1 9 e = 2 ∧ M.1 5 own = 62 ∧ s = 0 ∧ nd = 1) ∨ (M.1 9 e = 1 ∧ M.1 5 own = 62 ∧ s = 1 ∧ nd = 0))
def Came (M M2 : QM) (d : Nat) (t : Tgt) (v : Int32) : Prop := Fr [6, 7, 9] M M2 ∧ M2.2 = M.2 ∧ match t with
  | .inl ow => M2.1 6 = M.1 6 ∧ M2.1 9 = M.1 9 ∧ M2.1 7 ow = v ∧ ∀ c, c ≠ ow → M2.1 7 c = M.1 7 c
  | .inr (own, s, nd) => M2.1 7 = M.1 7 ∧ M2.1 6 (8 * own + s) = v ∧ (∀ x, x ≠ 8 * own + s → M2.1 6 x = M.1 6 x) ∧ M2.1 9 (d - 1) = nd ∧ ∀ e, e ≠ d - 1 → M2.1 9 e = M.1 9 e
theorem mo_come {M : QM} {d : Nat} {t : Tgt} (hd : d ≤ 16) (h : TgA M d t) (v : Int32) : ∃ M2, Mo_come v M = some M2 ∧ Came M M2 d t v := by
  cases t with
  | inl ow =>
    obtain ⟨h1, h2, h3, h4⟩ := h
    refine ⟨u_i M 7 ow v, ?_, Fr.i 7 Fr.rf (by decide), rfl, ?_, ?_, u_i_e, fun c hc => u_i_k hc⟩
    · unfold Mo_come
      rw [h2, h3, if_pos (show nI 0 = 0 from rfl), ck_in h4 (by omega), ix_nI (by omega)]
    · rw [u_i_o (by decide)]
    · rw [u_i_o (by decide)]
  | inr t =>
    obtain ⟨own, s, nd⟩ := t
    obtain ⟨e, h1, h2, h3, h4, h5, h6⟩ := h
    have hd1 : d - 1 = e := by omega
    have hz : ¬ nI d = 0 := fun z => by have := (nI_eq (b := 0) (by omega) (by omega)).mp z; omega
    unfold Mo_come Mo_come_J88 Mo_come_J89
    rw [h2, if_neg hz, nI_pred1 (by omega), hd1, ck_in (by omega) (by omega), ck_in (by omega) (by omega), ck_in (by omega) (by omega), ck_in (by omega) (by omega), ix_nI (by omega), h3, ck_in h4 (by omega), ix_nI (by omega), l_8, l_0, l_1, nI_mul, nI_add, nI_add]
    rcases h6 with ⟨a1, a2, a3⟩ | ⟨a1, a2, a3, a4⟩ | ⟨a1, a2, a3, a4⟩ | ⟨a1, a2, a3, a4⟩
    · rw [a1, if_pos rfl, a2, nI_add, ck_in (by omega) (by omega), ix_nI (by omega)]
      refine ⟨_, rfl, Fr.i 6 Fr.rf (by decide), rfl, ?_, u_i_e, fun x hx => u_i_k hx, ?_, fun x hx => ?_⟩
      · rw [u_i_o (by decide)]
      · rw [u_i_o (by decide), hd1, a1, a3]
      · rw [u_i_o (by decide)]
    · rw [a1, a2, if_neg (show ¬ (1 : Int32) = 100 by decide), if_neg (show ¬ (42 : Int32) = 62 by decide), ck_in (by omega) (by omega), ck_in (by omega) (by omega), ck_in (by omega) (by omega), ix_nI (by omega)]
      refine ⟨_, rfl, Fr.i 9 (Fr.i 6 Fr.rf (by decide)) (by decide), rfl, ?_, ?_, fun x hx => ?_, ?_, fun x hx => ?_⟩
      · rw [u_i_o (by decide), u_i_o (by decide)]
      · rw [u_i_o (by decide), a3, u_i_e]
      · rw [u_i_o (by decide), u_i_k (by omega)]
      · rw [hd1, u_i_e, u_i_o (by decide), a1, a4]; rfl
      · rw [u_i_k (by omega), u_i_o (by decide)]
    · rw [a1, a2, if_neg (show ¬ (2 : Int32) = 100 by decide), if_pos rfl, if_neg (show ¬ (2 : Int32) = nI 1 by decide), ck_in (by omega) (by omega), ck_in (by omega) (by omega), ck_in (by omega) (by omega), ix_nI (by omega)]
      refine ⟨_, rfl, Fr.i 9 (Fr.i 6 Fr.rf (by decide)) (by decide), rfl, ?_, ?_, fun x hx => ?_, ?_, fun x hx => ?_⟩
      · rw [u_i_o (by decide), u_i_o (by decide)]
      · rw [u_i_o (by decide), a3, u_i_e]
      · rw [u_i_o (by decide), u_i_k (by omega)]
      · rw [hd1, u_i_e, u_i_o (by decide), a1, a4]; rfl
      · rw [u_i_k (by omega), u_i_o (by decide)]
    · rw [a1, a2, if_neg (show ¬ (1 : Int32) = 100 by decide), if_pos rfl, if_pos (show (1 : Int32) = nI 1 from rfl), ck_in (by omega) (by omega), ck_in (by omega) (by omega), ck_in (by omega) (by omega), ix_nI (by omega)]
      refine ⟨_, rfl, Fr.i 9 (Fr.i 6 Fr.rf (by decide)) (by decide), rfl, ?_, ?_, fun x hx => ?_, ?_, fun x hx => ?_⟩
      · rw [u_i_o (by decide), u_i_o (by decide)]
      · rw [u_i_o (by decide), a3, u_i_e]
      · rw [u_i_o (by decide), u_i_k (by omega)]
      · rw [hd1, u_i_e, u_i_o (by decide), a1, a4]; rfl
      · rw [u_i_k (by omega), u_i_o (by decide)]
/-- nothing below is changed -/
def Hi (M M2 : QM) (d R : Nat) : Prop := Fr [0, 5, 6, 8, 9, 10] M M2 ∧ Fo [6, 10] M M2 ∧ (∀ e, e < d → M2.1 8 e = M.1 8 e ∧ M2.1 9 e = M.1 9 e ∧ M2.1 10 e = M.1 10 e) ∧ (∀ i, i < R → M2.1 5 i = M.1 5 i) ∧ (∀ x, x < 8 * R → M2.1 6 x = M.1 6 x)
theorem Hi_rf {M : QM} {d R : Nat} : Hi M M d R := ⟨Fr.rf, Fo.rf, fun _ _ => ⟨rfl, rfl, rfl⟩, fun _ _ => rfl, fun _ _ => rfl⟩
theorem Hi_tr {M M1 M2 : QM} {d R : Nat} (h1 : Hi M M1 d R) (h2 : Hi M1 M2 d R) : Hi M M2 d R :=
  ⟨Fr.tr h1.1 h2.1, Fo.tr h1.2.1 h2.2.1, fun e he => ⟨(h2.2.2.1 e he).1.trans (h1.2.2.1 e he).1, (h2.2.2.1 e he).2.1.trans (h1.2.2.1 e he).2.1, (h2.2.2.1 e he).2.2.trans (h1.2.2.1 e he).2.2⟩, fun i hi => (h2.2.2.2.1 i hi).trans (h1.2.2.2.1 i hi), fun x hx => (h2.2.2.2.2 x hx).trans (h1.2.2.2.2 x hx)⟩
theorem Hi_le {M M2 : QM} {d e R S : Nat} (h : Hi M M2 d R) (hd : e ≤ d) (hR : S ≤ R) : Hi M M2 e S :=
  ⟨h.1, h.2.1, fun x hx => h.2.2.1 x (by omega), fun i hi => h.2.2.2.1 i (by omega), fun x hx => h.2.2.2.2 x (by omega)⟩
theorem Hi_10 {M : QM} {d R : Nat} (v : Int32) : Hi M (u_i M 0 10 v) d R :=
  ⟨Fr.i 0 Fr.rf (by decide), Fo.i 10 Fo.rf (by decide), fun e _ => ⟨by rw [u_i_o (by decide)], by rw [u_i_o (by decide)], by rw [u_i_o (by decide)]⟩, fun i _ => by rw [u_i_o (by decide)], fun x _ => by rw [u_i_o (by decide)]⟩
theorem Hi_9 {M : QM} {d e R : Nat} (v : Int32) (he : d ≤ e) : Hi M (u_i M 9 e v) d R :=
  ⟨Fr.i 9 Fr.rf (by decide), Fo.o 9 Fo.rf (by decide), fun x hx => ⟨by rw [u_i_o (by decide)], by rw [u_i_k (by omega)], by rw [u_i_o (by decide)]⟩, fun i _ => by rw [u_i_o (by decide)], fun x _ => by rw [u_i_o (by decide)]⟩
theorem Hi_A {M : QM} {d e R : Nat} (v : Int32) (he : d ≤ e) : Hi M (u_i M 10 e v) d R :=
  ⟨Fr.i 10 Fr.rf (by decide), Fo.o 10 Fo.rf (by decide), fun x hx => ⟨by rw [u_i_o (by decide)], by rw [u_i_o (by decide)], by rw [u_i_k (by omega)]⟩, fun i _ => by rw [u_i_o (by decide)], fun x _ => by rw [u_i_o (by decide)]⟩
theorem Hi_8 {M : QM} {d e R : Nat} (v : Int32) (he : d ≤ e) : Hi M (u_i M 8 e v) d R :=
  ⟨Fr.i 8 Fr.rf (by decide), Fo.o 8 Fo.rf (by decide), fun x hx => ⟨by rw [u_i_k (by omega)], by rw [u_i_o (by decide)], by rw [u_i_o (by decide)]⟩, fun i _ => by rw [u_i_o (by decide)], fun x _ => by rw [u_i_o (by decide)]⟩
/-- a kind was read: what the reference changed -/
def RF (M M2 : QM) (d R : Nat) (t : Tgt) (v : Nat) : Prop := ∃ Ma Mb, Hi M Ma d R ∧ Came Ma Mb d t (nI v) ∧ Hi Mb M2 d R ∧ M2.1 0 10 = nI d
/-- the target stands in what is only changed above -/
theorem Tg_hi {M M2 : QM} {d R : Nat} {t : Tgt} (h : TgA M d t) (hR : ∀ own s nd, t = .inr (own, s, nd) → own < R) (hh : Hi M M2 d R) (h10 : M2.1 0 10 = M.1 0 10) : TgA M2 d t := by
  cases t with
  | inl ow =>
    obtain ⟨h1, h2, h3, h4⟩ := h
    exact ⟨h1, by rw [h10]; exact h2, by rw [hh.2.1 14 (by decide)]; exact h3, h4⟩
  | inr t =>
    obtain ⟨own, s, nd⟩ := t
    obtain ⟨e, h1, h2, h3, h4, h5, h6⟩ := h
    have hr := hR own s nd rfl
    obtain ⟨g1, g2, g3⟩ := hh.2.2.1 e (by omega)
    exact ⟨e, h1, by rw [h10]; exact h2, by rw [g1]; exact h3, h4, h5, by rw [g2, g3, hh.2.2.2.1 own hr]; exact h6⟩
/-- what the caller sees of a part that was read -/
theorem RF_part {M M2 : QM} {d R S s v : Nat} {nd : Int32} (h : RF M M2 (d + 1) S (.inr (R, s, nd)) v) (hS : R < S) (hs : s < 8) :
    Hi M M2 d R ∧ M2.1 6 (8 * R + s) = nI v ∧ (∀ x, x < 8 → x ≠ s → M2.1 6 (8 * R + x) = M.1 6 (8 * R + x)) ∧ M2.1 9 d = nd ∧ M2.1 8 d = M.1 8 d ∧ M2.1 10 d = M.1 10 d ∧ M2.1 5 R = M.1 5 R ∧ M2.1 0 10 = nI (d + 1) ∧ M2.1 7 = M.1 7 ∧
    (∀ i, i < S → M2.1 5 i = M.1 5 i) ∧ (∀ x, x < 8 * S → x ≠ 8 * R + s → M2.1 6 x = M.1 6 x) := by
  obtain ⟨Ma, Mb, h1, ⟨hf, hl, c1, c2, c3, c4, c5⟩, h3, h4⟩ := h
  have hd : d + 1 - 1 = d := by omega
  rw [hd] at c4 c5
  have f5 : Mb.1 5 = Ma.1 5 := (hf 5 (by decide)).1
  have f8 : Mb.1 8 = Ma.1 8 := (hf 8 (by decide)).1
  have f10 : Mb.1 10 = Ma.1 10 := (hf 10 (by decide)).1
  have f0 : Mb.1 0 = Ma.1 0 := (hf 0 (by decide)).1
  refine ⟨⟨Fr.tr (Fr.tr h1.1 (fun o ho => ?_)) h3.1, Fo.tr (Fo.tr h1.2.1 (fun x _ => by rw [f0])) h3.2.1, fun e he => ?_, fun i hi => ?_, fun x hx => ?_⟩, ?_, fun x hx hxs => ?_, ?_, ?_, ?_, ?_, h4, ?_, fun i hi => ?_, fun x hx hne => ?_⟩
  · by_cases e7 : o = 7
    · rw [e7]; exact ⟨c1, by rw [hl]⟩
    · exact hf o (fun z => by
        simp at z ho
        omega)
  · obtain ⟨a1, a2, a3⟩ := h1.2.2.1 e (by omega)
    obtain ⟨b1, b2, b3⟩ := h3.2.2.1 e (by omega)
    exact ⟨by rw [b1, f8, a1], by rw [b2, c5 e (by omega), a2], by rw [b3, f10, a3]⟩
  · rw [h3.2.2.2.1 i (by omega), f5, h1.2.2.2.1 i (by omega)]
  · rw [h3.2.2.2.2 x (by omega), c3 x (by omega), h1.2.2.2.2 x (by omega)]
  · rw [h3.2.2.2.2 _ (by omega), c2]
  · rw [h3.2.2.2.2 _ (by omega), c3 _ (by omega), h1.2.2.2.2 _ (by omega)]
  · rw [(h3.2.2.1 d (by omega)).2.1, c4]
  · rw [(h3.2.2.1 d (by omega)).1, f8, (h1.2.2.1 d (by omega)).1]
  · rw [(h3.2.2.1 d (by omega)).2.2, f10, (h1.2.2.1 d (by omega)).2.2]
  · rw [h3.2.2.2.1 R hS, f5, h1.2.2.2.1 R hS]
  · rw [(h3.1 7 (by decide)).1, c1, (h1.1 7 (by decide)).1]
  · rw [h3.2.2.2.1 i hi, f5, h1.2.2.2.1 i hi]
  · rw [h3.2.2.2.2 x hx, c3 x hne, h1.2.2.2.2 x hx]
/-- what the caller sees of a name that was read -/
theorem RF_name {M M2 : QM} {R ow v : Nat} (h : RF M M2 0 R (.inl ow) v) : M2.1 7 ow = nI v ∧ (∀ c, c ≠ ow → M2.1 7 c = M.1 7 c) ∧ (∀ i, i < R → M2.1 5 i = M.1 5 i) ∧ (∀ x, x < 8 * R → M2.1 6 x = M.1 6 x) ∧ M2.1 0 10 = nI 0 ∧ Fr [0, 5, 6, 7, 8, 9, 10] M M2 ∧ Fo [6, 10] M M2 := by
  obtain ⟨Ma, Mb, h1, ⟨hf, hl, c1, c2, c3, c4⟩, h3, h4⟩ := h
  refine ⟨by rw [(h3.1 7 (by decide)).1, c3], fun c hc => by rw [(h3.1 7 (by decide)).1, c4 c hc, (h1.1 7 (by decide)).1], fun i hi => by rw [h3.2.2.2.1 i hi, (hf 5 (by decide)).1, h1.2.2.2.1 i hi], fun x hx => by rw [h3.2.2.2.2 x hx, c1, h1.2.2.2.2 x hx], h4, Fr.tr (Fr.sub h1.1 (by decide)) (Fr.tr (Fr.sub hf (by decide)) (Fr.sub h3.1 (by decide))), Fo.tr h1.2.1 (Fo.tr (fun x _ => by rw [(hf 0 (by decide)).1]) h3.2.1)⟩
