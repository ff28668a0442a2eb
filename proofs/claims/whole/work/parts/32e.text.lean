/-! TEXT: the program that landed, a kind begun -/
/-- the sign at a place, 0 behind the last -/
def scn (pn : Nat) (sm : Nat → Nat) (k : Nat) : Nat := if k < pn then sm k else 0
def PdK (M : QM) (pn : Nat) (sm : Nat → Nat) : Prop := M.1 1 1 = nI pn ∧ ∀ k, k < pn → M.1 2 k = nI (sm k)
/-- at a place, not stuck, R nodes in the draft -/
def CSt (M : QM) (k R : Nat) : Prop := M.1 8 2 = nI k ∧ M.1 8 3 = 0 ∧ M.1 9 0 = 100 ∧ M.1 9 5 = nI R
/-- the draft's nodes below R stay -/
def CFr (M M2 : QM) (R : Nat) : Prop := Fr [8, 9, 10, 11, 12] M M2 ∧ (∀ i, i < R → M2.1 10 i = M.1 10 i ∧ M2.1 11 i = M.1 11 i) ∧ (∀ x, x < 8 * R → M2.1 12 x = M.1 12 x)
/-- a kind's code in the draft: a node, or 100 and a name -/
def encK (v : Nat) : Int32 := if v < 100 then nI v else nI (v + 900)
def VOk (R v : Nat) : Prop := v < R ∨ (100 ≤ v ∧ v < 108)
def NOk (MK MM : QM) (R i : Nat) (p : Nat → Option Nat) : Prop :=
  MK.1 10 i = MM.1 5 i ∧ okSign (MM.1 5 i) ∧ (∃ m : Nat, m < 256 ∧ MK.1 11 i = nI m ∧ ∀ s, s < 8 → m.testBit s = (p s).isSome) ∧ (∀ s v, p s = some v → s < 8 ∧ VOk R v ∧ MK.1 12 (8 * i + s) = encK v) ∧ (∀ s, s < 8 → MM.1 6 (8 * i + s) = enc (p s))
def Shq (x : Int32) (p : Nat → Option Nat) : Prop := (x = 42 → (p 0).isSome = true ∧ ∀ s, 0 < s → p s = none) ∧ (x = 62 → (p 0).isSome = true ∧ (p 1).isSome = true ∧ ∀ s, 1 < s → p s = none) ∧ (x ≠ 42 → x ≠ 62 → x ≠ 123 → x ≠ 91 → ∀ s, p s = none)
def NodeOk (MK MM : QM) (R i : Nat) : Prop := ∃ p, NOk MK MM R i p ∧ Shq (MM.1 5 i) p
section TX3
variable {M M2 MK MM MK2 MM2 : QM} {pn k R d : Nat} {sm : Nat → Nat}
theorem CFr_rf : CFr M M R := ⟨Fr.rf, fun _ _ => ⟨rfl, rfl⟩, fun _ _ => rfl⟩
theorem CFr_tr {M1 : QM} (h1 : CFr M M1 R) (h2 : CFr M1 M2 R) : CFr M M2 R :=
  ⟨Fr.tr h1.1 h2.1, fun i hi => ⟨(h2.2.1 i hi).1.trans (h1.2.1 i hi).1, (h2.2.1 i hi).2.trans (h1.2.1 i hi).2⟩, fun x hx => (h2.2.2 x hx).trans (h1.2.2 x hx)⟩
theorem CFr_le {S : Nat} (h : CFr M M2 R) (hS : S ≤ R) : CFr M M2 S := ⟨h.1, fun i hi => h.2.1 i (by omega), fun x hx => h.2.2 x (by omega)⟩
theorem PdK_fr {T : List Nat} (h : PdK M pn sm) (f : Fr T M M2) (h1 : 1 ∉ T) (h2 : 2 ∉ T) : PdK M2 pn sm := ⟨by rw [(f 1 h1).1]; exact h.1, fun k hk => by rw [(f 2 h2).1]; exact h.2 k hk⟩
theorem VOk_le {S v : Nat} (h : VOk R v) (hS : R ≤ S) : VOk S v := h.elim (fun h => Or.inl (by omega)) Or.inr
theorem NOk_keep {S i : Nat} {p : Nat → Option Nat} (h : NOk MK MM R i p) (hS : R ≤ S) (k1 : MK2.1 10 i = MK.1 10 i) (k2 : MK2.1 11 i = MK.1 11 i) (k3 : ∀ s, s < 8 → MK2.1 12 (8 * i + s) = MK.1 12 (8 * i + s)) (m1 : MM2.1 5 i = MM.1 5 i) (m2 : ∀ s, s < 8 → MM2.1 6 (8 * i + s) = MM.1 6 (8 * i + s)) : NOk MK2 MM2 S i p := by
  obtain ⟨h1, h2, h3, h4, h5⟩ := h
  refine ⟨by rw [k1, m1]; exact h1, by rw [m1]; exact h2, by rw [k2]; exact h3, fun s v hv => ?_, fun s hs => by rw [m2 s hs]; exact h5 s hs⟩
  obtain ⟨g1, g2, g3⟩ := h4 s v hv
  exact ⟨g1, VOk_le g2 hS, by rw [k3 s g1]; exact g3⟩
theorem NodeOk_keep {S i : Nat} (h : NodeOk MK MM R i) (hS : R ≤ S) (k1 : MK2.1 10 i = MK.1 10 i) (k2 : MK2.1 11 i = MK.1 11 i) (k3 : ∀ s, s < 8 → MK2.1 12 (8 * i + s) = MK.1 12 (8 * i + s)) (m1 : MM2.1 5 i = MM.1 5 i) (m2 : ∀ s, s < 8 → MM2.1 6 (8 * i + s) = MM.1 6 (8 * i + s)) : NodeOk MK2 MM2 S i := by
  obtain ⟨p, h1, h2⟩ := h
  exact ⟨p, NOk_keep h1 hS k1 k2 k3 m1 m2, by rw [m1]; exact h2⟩
theorem te_sign (h : PdK M pn sm) (hp : pn ≤ 100) (hk : k < 1000) : Pa_signAt (nI k) M = some (nI (scn pn sm k)) := by
  unfold scn
  by_cases c : k < pn
  · rw [if_pos c, pa_sign h.1 c hp, h.2 k c]
  · rw [if_neg c]
    unfold Pa_signAt
    rw [h.1, if_neg (nI_pos (by omega)), if_pos (show nI pn ≤ nI k by rw [nI_leI (by omega) (by omega)]; omega)]
    rfl
theorem dr_add (h0 : M.1 9 0 = 100) (h5 : M.1 9 5 = nI R) (hR : R < 100) (x : Int32) : Dr_addNode x M = some (nI R, u_i (u_i (u_i M 10 R x) 11 R 0) 9 5 (nI (R + 1))) := by
  unfold Dr_addNode
  have b0 : ∀ (P : QM) (k : Nat) (v : Int32), (u_i P 10 k v).1 9 5 = P.1 9 5 := fun P k v => by rw [u_i_o (by decide)]
  have b1 : ∀ (P : QM) (k : Nat) (v : Int32), (u_i P 11 k v).1 9 5 = P.1 9 5 := fun P k v => by rw [u_i_o (by decide)]
  rw [u_i_e, b1, b0, h5, h0, if_neg (nI_pos (by omega)), if_pos (show nI R < 100 by rw [l_100, nI_ltI (by omega) (by omega)]; exact hR), ck_in hR (by omega), ck_in hR (by omega), ix_nI (by omega), nI_1, nI_pred1 (by omega), Nat.add_sub_cancel]
theorem dr_any {i s : Nat} (hi : i < 100) (hs : s < 8) (x : Int32) : ∃ M2, Dr_setPart (nI i) (nI s) x M = some M2 ∧ Fr [11, 12] M M2 := by
  unfold Dr_setPart
  rw [if_neg (nI_pos (by omega))]
  by_cases c1 : M.1 9 5 ≤ nI i
  · rw [if_pos c1]; exact ⟨M, rfl, Fr.rf⟩
  · rw [if_neg c1]
    by_cases c2 : M.1 9 0 ≤ nI i
    · rw [if_pos c2]; exact ⟨M, rfl, Fr.rf⟩
    · rw [if_neg c2, if_neg (nI_pos (by omega)), if_neg (show ¬ (8 : Int32) ≤ nI s by rw [l_8, nI_leI (by omega) (by omega)]; omega), l_8, nI_mul, nI_add, ck_in hi (by omega), ck_in hi (by omega), ck_in (by omega) (by omega)]
      exact ⟨_, rfl, Fr.i 12 (Fr.i 11 Fr.rf (by decide)) (by decide)⟩
/-- a part is set in the draft -/
theorem dr_set {i s v S : Nat} {p : Nat → Option Nat} (h0 : MK.1 9 0 = 100) (h5 : MK.1 9 5 = nI S) (hi : i < S) (hS : S ≤ 100) (hs : s < 8) (hv : VOk S v) (k1 : MK.1 10 i = MM.1 5 i) (k2 : okSign (MM.1 5 i)) (k3 : ∃ m : Nat, m < 256 ∧ MK.1 11 i = nI m ∧ ∀ s, s < 8 → m.testBit s = (p s).isSome) (k4 : ∀ s v, p s = some v → s < 8 ∧ VOk S v ∧ MK.1 12 (8 * i + s) = encK v) (k5 : ∀ x, x < 8 → x ≠ s → MM.1 6 (8 * i + x) = enc (p x)) (k6 : MM.1 6 (8 * i + s) = nI v) :
    ∃ M2, Dr_setPart (nI i) (nI s) (encK v) MK = some M2 ∧ NOk M2 MM S i (fun x => if x = s then some v else p x) ∧ Fr [11, 12] MK M2 ∧ (∀ x, x ≠ i → M2.1 11 x = MK.1 11 x) ∧ (∀ x, x ≠ 8 * i + s → M2.1 12 x = MK.1 12 x) := by
  obtain ⟨m, m1, m2, m3⟩ := k3
  obtain ⟨w, w1, w2, w3⟩ := bit_or m s m1 hs
  refine ⟨u_i (u_i MK 11 i (nI w)) 12 (8 * i + s) (encK v), ?_, ⟨?_, k2, ⟨w, w1, ?_, fun x hx => ?_⟩, fun x u hu => ?_, fun x hx => ?_⟩, Fr.i 12 (Fr.i 11 Fr.rf (by decide)) (by decide), fun x hx => ?_, fun x hx => ?_⟩
  · unfold Dr_setPart
    rw [h5, h0, if_neg (nI_pos (by omega)), if_neg (show ¬ nI S ≤ nI i by rw [nI_leI (by omega) (by omega)]; omega), if_neg (show ¬ (100 : Int32) ≤ nI i by rw [l_100, nI_leI (by omega) (by omega)]; omega), if_neg (nI_pos (by omega)), if_neg (show ¬ (8 : Int32) ≤ nI s by rw [l_8, nI_leI (by omega) (by omega)]; omega), l_8, nI_mul, nI_add, ck_in (by omega) (by omega), ck_in (by omega) (by omega), ck_in (by omega) (by omega), ix_nI (by omega), ix_nI (by omega), m2, w2, Nat.mul_comm i 8]
  · rw [u_i_o (by decide), u_i_o (by decide)]; exact k1
  · rw [u_i_o (by decide), u_i_e]
  · dsimp only
    have := w3 x hx
    by_cases c : x = s
    · rw [if_pos c]
      exact this.mpr (Or.inr c)
    · rw [if_neg c, ← m3 x hx, Bool.eq_iff_iff, this]
      exact ⟨fun z => z.elim id (fun z => absurd z c), Or.inl⟩
  · dsimp only at hu
    by_cases c : x = s
    · rw [if_pos c] at hu
      cases hu
      subst c
      exact ⟨hs, hv, u_i_e⟩
    · rw [if_neg c] at hu
      obtain ⟨g1, g2, g3⟩ := k4 x u hu
      exact ⟨g1, g2, by rw [u_i_k (by omega), u_i_o (by decide)]; exact g3⟩
  · dsimp only
    by_cases c : x = s
    · rw [if_pos c, c, k6]; rfl
    · rw [if_neg c]; exact k5 x hx c
  · rw [u_i_o (by decide), u_i_k hx]
  · rw [u_i_k hx, u_i_o (by decide)]
/-- the draft after a node was added -/
def mka (M : QM) (k R : Nat) (c : Int32) : QM := u_i (u_i (u_i (u_i M 8 2 (nI (k + 1))) 10 R c) 11 R 0) 9 5 (nI (R + 1))
theorem mka_CS (h : CSt M k R) (c : Int32) : CSt (mka M k R c) (k + 1) (R + 1) := by
  obtain ⟨h1, h2, h3, h4⟩ := h
  unfold mka
  refine ⟨?_, ?_, ?_, u_i_e⟩
  · rw [u_i_o (by decide), u_i_o (by decide), u_i_o (by decide), u_i_e]
  · rw [u_i_o (by decide), u_i_o (by decide), u_i_o (by decide), u_i_k (by decide)]; exact h2
  · rw [u_i_k (by decide), u_i_o (by decide), u_i_o (by decide), u_i_o (by decide)]; exact h3
theorem mka_CFr (c : Int32) : CFr M (mka M k R c) R := by
  unfold mka
  refine ⟨Fr.i 9 (Fr.i 11 (Fr.i 10 (Fr.i 8 Fr.rf (by decide)) (by decide)) (by decide)) (by decide), fun i hi => ⟨?_, ?_⟩, fun x _ => ?_⟩
  · rw [u_i_o (by decide), u_i_o (by decide), u_i_k (by omega), u_i_o (by decide)]
  · rw [u_i_o (by decide), u_i_k (by omega), u_i_o (by decide), u_i_o (by decide)]
  · rw [u_i_o (by decide), u_i_o (by decide), u_i_o (by decide), u_i_o (by decide)]
theorem mka_NOk {c : Int32} (hc : okSign c) (h5 : MM.1 5 R = c) (h6 : ∀ s, s < 8 → MM.1 6 (8 * R + s) = -6) : NOk (mka M k R c) MM (R + 1) R (fun _ => none) := by
  unfold mka
  refine ⟨?_, by rw [h5]; exact hc, ⟨0, by omega, ?_, fun s _ => by simp⟩, (fun s v hv => absurd hv (by simp)), fun s hs => h6 s hs⟩
  · rw [u_i_o (by decide), u_i_o (by decide), u_i_e, h5]
  · rw [u_i_o (by decide), u_i_e]; rfl
theorem te_is {c : Int32} : (okSign c ∧ Te_isKindSign c M = some 1) ∨ (¬ okSign c ∧ Te_isKindSign c M = some 0) := by
  by_cases h : okSign c
  · refine Or.inl ⟨h, ?_⟩
    rcases h with e | e | e | e | e | e | e | e | e <;> rw [e] <;> rfl
  · refine Or.inr ⟨h, ?_⟩
    unfold okSign at h
    simp only [not_or] at h
    obtain ⟨c1, c2, c3, c4, c5, c6, c7, c8, c9⟩ := h
    unfold Te_isKindSign
    rw [if_neg c5, if_neg c8, if_neg c4, if_neg c9, if_neg c7, if_neg c1, if_neg c3, if_neg c2, if_neg c6]
variable {rk : Int32 → QM → Option (Int32 × QM)}
theorem te_pre (h : PdK M pn sm) (hs : CSt M k R) (hp : pn ≤ 100) (hk : k < 1000) (hd : d ≤ 12) : Te_readKind rk (nI d) M = if nI (scn pn sm k) < (65 : Int32) then Te_readKind_J57 rk (nI d) (nI (scn pn sm k)) M else (if (73 : Int32) ≤ nI (scn pn sm k) then Te_readKind_J57 rk (nI d) (nI (scn pn sm k)) M else some ((1000 : Int32) + (nI (scn pn sm k) - (65 : Int32)), u_i M 8 2 (nI (k + 1)))) := by
  unfold Te_readKind
  rw [hs.1, te_sign h hp hk, Option.bind_some, if_pos (show nI d ≤ 12 by rw [l_12, nI_leI (by omega) (by omega)]; exact hd), nI_1]
theorem te_name (h : PdK M pn sm) (hs : CSt M k R) (hp : pn ≤ 100) (hk : k < 1000) (hd : d ≤ 12) {x : Nat} (hx : x < 8) (hc : scn pn sm k = 65 + x) : Te_readKind rk (nI d) M = some (encK (100 + x), u_i M 8 2 (nI (k + 1))) := by
  rw [te_pre h hs hp hk hd, hc, if_neg (show ¬ nI (65 + x) < 65 by rw [show (65 : Int32) = nI 65 from rfl, nI_ltI (by omega) (by omega)]; omega), if_neg (show ¬ (73 : Int32) ≤ nI (65 + x) by rw [show (73 : Int32) = nI 73 from rfl, nI_leI (by omega) (by omega)]; omega)]
  have e : (1000 : Int32) + (nI (65 + x) - 65) = encK (100 + x) := by
    unfold encK
    rw [if_neg (by omega), show (65 : Int32) = nI 65 from rfl, nI_sub (by omega), show (1000 : Int32) = nI 1000 from rfl, nI_add]
    congr 1
    omega
  rw [e]
theorem te_57 (h : PdK M pn sm) (hs : CSt M k R) (hp : pn ≤ 100) (hk : k < 1000) (hd : d ≤ 12) (hm : scn pn sm k ≤ 126) (hc : ¬ (65 ≤ scn pn sm k ∧ scn pn sm k ≤ 72)) : Te_readKind rk (nI d) M = Te_readKind_J57 rk (nI d) (nI (scn pn sm k)) M := by
  rw [te_pre h hs hp hk hd]
  by_cases c : scn pn sm k < 65
  · rw [if_pos (show nI (scn pn sm k) < 65 by rw [show (65 : Int32) = nI 65 from rfl, nI_ltI (by omega) (by omega)]; exact c)]
  · rw [if_neg (show ¬ nI (scn pn sm k) < 65 by rw [show (65 : Int32) = nI 65 from rfl, nI_ltI (by omega) (by omega)]; exact c), if_pos (show (73 : Int32) ≤ nI (scn pn sm k) by rw [show (73 : Int32) = nI 73 from rfl, nI_leI (by omega) (by omega)]; omega)]
theorem te_bad {c : Int32} (hc : ¬ okSign c) : Te_readKind_J57 rk (nI d) c M = some (-6, u_i M 8 3 1) := by
  unfold Te_readKind_J57 Te_readKind_J77
  rcases te_is (M := M) (c := c) with ⟨h, -⟩ | ⟨-, h⟩
  · exact absurd h hc
  · rw [h, Option.bind_some, if_pos rfl]
theorem te_deep {c : Int32} (hc : c = 42 ∨ c = 62) : Te_readKind_J57 rk (nI 12) c M = some (-6, u_i M 8 3 1) := by
  rcases hc with e | e <;> rw [e] <;> rfl
theorem te_85 {c : Int32} (hc : okSign c) (h : (c ≠ 42 ∧ c ≠ 62) ∨ d < 12) (hd : d ≤ 12) (hs : CSt M k R) (hR : R < 100) : Te_readKind_J57 rk (nI d) c M = (if c = (123 : Int32) then Te_readKind_J116 rk (nI d) c (nI R) (mka M k R c) else (if c = (91 : Int32) then Te_readKind_J116 rk (nI d) c (nI R) (mka M k R c) else Option.bind (Te_needsParts c (mka M k R c)) (fun q5 => (if q5 = 0 then some (nI R, mka M k R c) else Option.bind (Te_readPart rk (nI R) (0 : Int32) (nI d) (mka M k R c)) (fun q6 => (if c = (62 : Int32) then Option.bind (Te_readPart rk (nI R) (1 : Int32) (nI d) q6) (fun q7 => some (nI R, q7)) else some (nI R, q6))))))) := by
  have h85 : Te_readKind_J57 rk (nI d) c M = Te_readKind_J85 rk (nI d) c M := by
    unfold Te_readKind_J57
    rcases te_is (M := M) (c := c) with ⟨-, z⟩ | ⟨z, -⟩
    · rw [z, Option.bind_some, if_neg one_ne]
      by_cases e : d = 12
      · rw [if_pos (show nI d = 12 by rw [e]; rfl)]
        rcases h with ⟨c1, c2⟩ | h
        · unfold Te_needsParts
          rw [if_neg c1, if_neg c2, Option.bind_some, if_pos rfl]
        · omega
      · rw [if_neg (show ¬ nI d = 12 from fun y => e ((nI_eq (b := 12) (by omega) (by omega)).mp y))]
    · exact absurd hc z
  obtain ⟨s1, s2, s3, s4⟩ := hs
  rw [h85]
  unfold Te_readKind_J85
  rw [s1, nI_1, dr_add (R := R) (by rw [u_i_o (by decide)]; exact s3) (by rw [u_i_o (by decide)]; exact s4) hR, Option.bind_some]
  rfl
end TX3
