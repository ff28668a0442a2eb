/-! the relation between program and reference -/
def RelB (n : Nat) (MK MM : QM) (N : Nat) (sg : Nat → Int32) (pt : Nat → Nat → Option Nat) (nm : Nat → Option Nat) : Prop :=
  WF N sg pt nm ∧ PadR MK MM ∧ NetK MK N sg pt nm ∧ NetM MM N sg pt nm ∧ StK MK N sg pt ∧ LaM MM N sg pt ∧ ReK n MK ∧ CoK MK N sg pt ∧ LeK MK N sg pt ∧ MK.1 9 0 = 100
def Rel (n : Nat) (MK MM : QM) : Prop := ∃ N sg pt nm, RelB n MK MM N sg pt nm
section RL_
variable {n : Nat} {MK MM MK2 MM2 : QM} {N : Nat} {sg : Nat → Int32} {pt : Nat → Nat → Option Nat} {nm : Nat → Option Nat}
theorem PadR_eq (h : PadR MK MM) (e1 : MK2.1 1 = MK.1 1) (e2 : MK2.1 2 = MK.1 2) (e3 : MM2.1 0 0 = MM.1 0 0) (e4 : MM2.1 1 = MM.1 1) : PadR MK2 MM2 := by
  unfold PadR at *
  rw [e1, e2, e3, e4]
  exact h
theorem StK_eq (h : StK MK N sg pt) (e1 : MK2.1 14 5 = MK.1 14 5) (e2 : MK2.1 15 = MK.1 15) : StK MK2 N sg pt := by
  unfold StK at *
  rw [e1, e2]
  exact h
theorem LaM_eq (h : LaM MM N sg pt) (e1 : MM2.1 0 15 = MM.1 0 15) (e2 : MM2.1 11 = MM.1 11) (e3 : MM2.1 12 = MM.1 12) : LaM MM2 N sg pt := by
  unfold LaM at *
  rw [e1, e2, e3]
  exact h
theorem ReK_eq (h : ReK n MK) (e1 : MK2.1 14 4 = MK.1 14 4) (e2 : MK2.1 17 = MK.1 17) : ReK (n + 1) MK2 := by
  obtain ⟨r, h1, h2, h3⟩ := h
  exact ⟨r, by omega, by rw [e1]; exact h2, fun i hi => by rw [e2]; exact h3 i hi⟩
theorem CoK_eq (h : CoK MK N sg pt) (e1 : MK2.1 28 3 = MK.1 28 3) (e2 : MK2.2 29 = MK.2 29) : CoK MK2 N sg pt := by
  unfold CoK at *
  rw [e1, e2]
  exact h
theorem LeK_eq (h : LeK MK N sg pt) (e1 : MK2.1 31 2 = MK.1 31 2) (e2 : MK2.1 32 = MK.1 32) : LeK MK2 N sg pt := by
  unfold LeK at *
  rw [e1, e2]
  exact h
theorem NetM_eq (h : NetM MM N sg pt nm) (e0 : MM2.1 0 2 = MM.1 0 2) (e1 : MM2.1 2 = MM.1 2) (e2 : MM2.1 3 = MM.1 3) (e3 : MM2.1 4 = MM.1 4) : NetM MM2 N sg pt nm := by
  unfold NetM at *
  rw [e0, e1, e2, e3]
  exact h
/-- nothing that matters is changed -/
theorem Rel_keep {TK TM F : List Nat} (h : RelB n MK MM N sg pt nm) (fK : Fr TK MK MK2) (fM : Fr TM MM MM2) (fO : Fo F MM MM2) (hK : ∀ o, o ∈ [1, 2, 3, 4, 5, 6, 7, 9, 14, 15, 17, 28, 29, 31, 32] → o ∉ TK) (hM : ∀ o, o ∈ [1, 2, 3, 4, 11, 12] → o ∉ TM) (hF : ∀ o, o ∈ [0, 2, 15] → o ∉ F) : Rel (n + 1) MK2 MM2 := by
  obtain ⟨h1, h2, h3, h4, h5, h6, h7, h8, h9, h10⟩ := h
  refine ⟨N, sg, pt, nm, h1, ?_, ?_, ?_, ?_, ?_, ?_, ?_, ?_, ?_⟩
  · exact PadR_eq h2 (fK 1 (hK 1 (by decide))).1 (fK 2 (hK 2 (by decide))).1 (fO 0 (hF 0 (by decide))) (fM 1 (hM 1 (by decide))).1
  · exact NetK_fr fK ⟨hK 3 (by decide), hK 4 (by decide), hK 5 (by decide), hK 6 (by decide), hK 7 (by decide)⟩ h3
  · exact NetM_eq h4 (fO 2 (hF 2 (by decide))) (fM 2 (hM 2 (by decide))).1 (fM 3 (hM 3 (by decide))).1 (fM 4 (hM 4 (by decide))).1
  · exact StK_eq h5 (by rw [(fK 14 (hK 14 (by decide))).1]) (fK 15 (hK 15 (by decide))).1
  · exact LaM_eq h6 (fO 15 (hF 15 (by decide))) (fM 11 (hM 11 (by decide))).1 (fM 12 (hM 12 (by decide))).1
  · exact ReK_eq h7 (by rw [(fK 14 (hK 14 (by decide))).1]) (fK 17 (hK 17 (by decide))).1
  · exact CoK_eq h8 (by rw [(fK 28 (hK 28 (by decide))).1]) (fK 29 (hK 29 (by decide))).2
  · exact LeK_eq h9 (by rw [(fK 31 (hK 31 (by decide))).1]) (fK 32 (hK 32 (by decide))).1
  · rw [(fK 9 (hK 9 (by decide))).1]; exact h10
theorem Rel_up (h : Rel n MK MM) : Rel (n + 1) MK MM := by
  obtain ⟨N, sg, pt, nm, hb⟩ := h
  exact Rel_keep (TK := []) (TM := []) (F := []) hb Fr.rf Fr.rf Fo.rf (fun _ _ => List.not_mem_nil) (fun _ _ => List.not_mem_nil) (fun _ _ => List.not_mem_nil)
/-- the standing was caught up in both -/
theorem Rel_stand {TK TM F : List Nat} (h : RelB n MK MM N sg pt nm) (fK : Fr TK MK MK2) (fM : Fr TM MM MM2) (fO : Fo F MM MM2) (hK : ∀ o, o ∈ [1, 2, 3, 4, 5, 6, 7, 9, 28, 29, 31, 32] → o ∉ TK) (hM : ∀ o, o ∈ [1, 2, 3, 4] → o ∉ TM) (hF : ∀ o, o ∈ [0, 2] → o ∉ F)
    (hR : ReK (n + 1) MK2) (kD : DokK MK2 N sg pt) (k15 : MK2.1 14 5 = nI N) (m15 : MM2.1 0 15 = 1) (mD : DokM MM2 N sg pt) : Rel (n + 1) MK2 MM2 := by
  obtain ⟨h1, h2, h3, h4, h5, h6, h7, h8, h9, h10⟩ := h
  refine ⟨N, sg, pt, nm, h1, ?_, ?_, ?_, ?_, ?_, hR, ?_, ?_, ?_⟩
  · exact PadR_eq h2 (fK 1 (hK 1 (by decide))).1 (fK 2 (hK 2 (by decide))).1 (fO 0 (hF 0 (by decide))) (fM 1 (hM 1 (by decide))).1
  · exact NetK_fr fK ⟨hK 3 (by decide), hK 4 (by decide), hK 5 (by decide), hK 6 (by decide), hK 7 (by decide)⟩ h3
  · exact NetM_eq h4 (fO 2 (hF 2 (by decide))) (fM 2 (hM 2 (by decide))).1 (fM 3 (hM 3 (by decide))).1 (fM 4 (hM 4 (by decide))).1
  · exact ⟨N, Nat.le_refl N, k15, fun i s j hi hj => (h1.2.2.1 i s j hi hj).1, kD⟩
  · exact Or.inr ⟨m15, mD⟩
  · exact CoK_eq h8 (by rw [(fK 28 (hK 28 (by decide))).1]) (fK 29 (hK 29 (by decide))).2
  · exact LeK_eq h9 (by rw [(fK 31 (hK 31 (by decide))).1]) (fK 32 (hK 32 (by decide))).1
  · rw [(fK 9 (hK 9 (by decide))).1]; exact h10
/-- both catch up -/
theorem catch_both (h : RelB n MK MM N sg pt nm) : ∃ MK1 MM1, St_catchUp MK = some MK1 ∧ Mo_lay MM = some MM1 ∧ RelB (n + 1) MK1 MM1 N sg pt nm ∧ DokK MK1 N sg pt ∧ DokM MM1 N sg pt ∧ MK1.1 14 5 = nI N ∧ MM1.1 0 15 = 1 ∧ Fr [14, 15] MK MK1 ∧ MK1.1 14 4 = MK.1 14 4 ∧ Fr [0, 11, 12] MM MM1 ∧ Fo [15] MM MM1 := by
  obtain ⟨h1, h2, h3, h4, h5, h6, h7, h8, h9, h10⟩ := h
  obtain ⟨MK1, e1, fK, a1, a2, a3⟩ := st_catchUp h1 h3 h5
  obtain ⟨MM1, e2, fM, b1, b2, b3⟩ := mo_lay h1 h4 h6
  have fO : Fo [15] MM MM1 := fun x hx => b1 x (fun e => hx (by rw [e]; exact List.mem_singleton.mpr rfl))
  refine ⟨MK1, MM1, e1, e2, ?_, a3, b3, a1, b2, fK, a2, fM, fO⟩
  refine ⟨h1, ?_, ?_, ?_, ?_, ?_, ?_, ?_, ?_, ?_⟩
  · exact PadR_eq h2 (fK 1 (by decide)).1 (fK 2 (by decide)).1 (fO 0 (by decide)) (fM 1 (by decide)).1
  · exact NetK_fr fK (by decide) h3
  · exact NetM_eq h4 (fO 2 (by decide)) (fM 2 (by decide)).1 (fM 3 (by decide)).1 (fM 4 (by decide)).1
  · exact ⟨N, Nat.le_refl N, a1, fun i s j hi hj => (h1.2.2.1 i s j hi hj).1, a3⟩
  · exact Or.inr ⟨b2, b3⟩
  · exact ReK_eq h7 a2 (fK 17 (by decide)).1
  · exact CoK_eq h8 (by rw [(fK 28 (by decide)).1]) (fK 29 (by decide)).2
  · exact LeK_eq h9 (by rw [(fK 31 (by decide)).1]) (fK 32 (by decide)).1
  · rw [(fK 9 (by decide)).1]; exact h10
end RL_
