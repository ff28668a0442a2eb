/-! JOIN: the reference, a shape -/
section JN6
variable {M M0 : QM} {N A : Nat} {sg : Nat → Int32} {pt : Nat → Nat → Option Nat} {nm : Nat → Option Nat} {f : Nat → Tq} {T : List (Tq × Option Nat)} {q : Tq}
theorem jkp_no (h1 : sg q.1 ≠ 123) (h2 : sg q.1 ≠ 91) (s : Nat) : jkp sg pt q s = none := by
  unfold jkp
  rw [if_neg]
  rintro ⟨-, ⟨z, -⟩ | ⟨z, -⟩⟩
  · exact h1 z
  · exact h2 z
/-- what a shape makes -/
def Shp (M M2 : QM) (sg : Nat → Int32) (pt : Nat → Nat → Option Nat) (q : Tq) (A : Nat) (T : List (Tq × Option Nat)) : Prop :=
  M2.1 0 21 = nI (tks sg pt q A 8 ++ T).length ∧ StkM M2 (tks sg pt q A 8 ++ T) ∧ Fr [0, 2, 3, 15, 16] M M2 ∧ Fo [21] M M2 ∧ M2.1 2 A = jsg sg q ∧ (∀ x, x ≠ A → M2.1 2 x = M.1 2 x) ∧ (∀ s, s < 8 → M2.1 3 (8 * A + s) = enc (jy (jtk sg pt q s) (jkp sg pt q s))) ∧ (∀ x, ¬ (8 * A ≤ x ∧ x < 8 * A + 8) → M2.1 3 x = M.1 3 x)
theorem mo_shape (hW : WF N sg pt nm) (hi : Icp N sg pt q) (hNA : N ≤ A) (hA : A < 60) (hsg : ∀ i, i < N → M.1 2 i = sg i) (hp : ∀ i s, i < N → s < 8 → M.1 3 (8 * i + s) = enc (pt i s)) (h21 : M.1 0 21 = nI T.length) (hS : StkM M T) (hl : T.length + 8 ≤ 600) :
    ∃ M2, Mo_shape (nI q.1) (nI q.2.1) (nI q.2.2) (nI A) M = some M2 ∧ Shp M M2 sg pt q A T := by
  have hN := hW.1
  have hi' := hi
  obtain ⟨h1, h2, h3, -, -⟩ := hi
  unfold Mo_shape
  rw [ck_in (by omega) (by omega), ck_in (by omega) (by omega), ck_in (by omega) (by omega), ix_nI (by omega), ix_nI (by omega), hsg _ h1, hsg _ h2]
  have blank : ∀ x5 x6 sv : Int32, ∃ P, iter (Mo_shape_B93 (nI q.1) (nI q.2.1) (nI q.2.2) (nI A) x5 x6) FU ((0 : Int32), u_i M 2 A sv) = some P ∧ Fr [2, 3] M P ∧ P.1 2 A = sv ∧ (∀ x, x ≠ A → P.1 2 x = M.1 2 x) ∧ (∀ s, s < 8 → P.1 3 (8 * A + s) = -6) ∧ (∀ x, ¬ (8 * A ≤ x ∧ x < 8 * A + 8) → P.1 3 x = M.1 3 x) := by
    intro x5 x6 sv
    obtain ⟨P, a1, a2, a3, a4⟩ := mo_blank (M := u_i M 2 A sv) (A := A) (nI q.1) (nI q.2.1) (nI q.2.2) x5 x6 hA
    refine ⟨P, a1, Fr.tr (Fr.i 2 Fr.rf (by decide)) (Fr.sub a2 (by decide)), ?_, fun x hx => ?_, a3, fun x hx => ?_⟩
    · rw [(a2 2 (by decide)).1, u_i_e]
    · rw [(a2 2 (by decide)).1, u_i_k hx]
    · rw [a4 x hx, u_i_o (by decide)]
  by_cases c : sg q.1 = sg q.2.1
  · rw [if_pos c]
    have hsame : Mo_shape_J25 (nI q.1) (nI q.2.1) (nI q.2.2) (nI A) (sg q.1) M = Mo_shape_J89 (nI q.1) (nI q.2.1) (nI q.2.2) (nI A) (sg q.1) 1 (sg q.1) (nI A) M := by
      unfold Mo_shape_J25 Mo_shape_J55 Mo_shape_J60
      rw [if_neg one_ne]
      rcases icp_sign hW hi' c with z | z | z | z <;> rw [z] <;> rfl
    have hjs : jsg sg q = sg q.1 := by unfold jsg; rw [if_pos c]
    rw [hsame]
    unfold Mo_shape_J89
    rw [ck_in hA (by omega), ix_nI (by omega)]
    obtain ⟨P, b1, b2, b3, b4, b5, b6⟩ := blank (sg q.1) 1 (sg q.1)
    rw [b1, Option.bind_some]
    have p21 : P.1 0 21 = nI T.length := by rw [(b2 0 (by decide)).1]; exact h21
    have pS : StkM P T := StkM_eq hS (fun x _ => ⟨by rw [(b2 15 (by decide)).1], by rw [(b2 16 (by decide)).1]⟩)
    have pO : Fo [21] M P := fun x _ => by rw [(b2 0 (by decide)).1]
    have pr : ∀ i s, i < N → s < 8 → P.1 3 (8 * i + s) = enc (pt i s) := fun i s h1 h2 => by rw [b6 _ (by omega)]; exact hp i s h1 h2
    by_cases c42 : sg q.1 = 42
    · rw [if_pos c42]
      obtain ⟨w1, w2⟩ := hW.2.2.2.2.1 q.1 h1 c42
      obtain ⟨w3, w4⟩ := hW.2.2.2.2.1 q.2.1 h2 (c ▸ c42)
      obtain ⟨a, ha⟩ := Option.isSome_iff_exists.mp w1
      obtain ⟨b, hb⟩ := Option.isSome_iff_exists.mp w3
      have r1 := pr q.1 0 h1 (by omega)
      have r2 := pr q.2.1 0 h2 (by omega)
      rw [ha, Nat.add_zero, enc_some] at r1
      rw [hb, Nat.add_zero, enc_some] at r2
      rw [l_8, nI_mul, nI_mul, nI_mul, ck_in (by omega) (by omega), ck_in (by omega) (by omega), ix_nI (by omega), ix_nI (by omega), r1, r2]
      obtain ⟨M3, d1, d2, d3, d4, d5⟩ := mo_wait p21 pS (by omega) a b q.2.2 (some (8 * A))
      rw [show nI (8 * A) = enA (some (8 * A)) from rfl, d1, Option.bind_some]
      have t0 : jtk sg pt q 0 = some (a, b, q.2.2) := by unfold jtk; rw [if_pos c, ha, hb, if_neg (fun z => absurd (c42 ▸ z.1) (by decide))]
      have tn : ∀ s, 0 < s → jtk sg pt q s = none := fun s hs => by unfold jtk; rw [if_pos c, w2 s hs]
      have tk8 : tks sg pt q A 8 = [((a, b, q.2.2), some (8 * A))] := by
        rw [tks_some (r := 7) t0, tks_nil 7 (by omega) (fun s h1 h2 => tn s (by omega))]
        rfl
      refine ⟨M3, rfl, by rw [tk8]; exact d2, by rw [tk8]; exact d3, Fr.tr (Fr.sub b2 (by decide)) (Fr.sub d4 (by decide)), Fo.tr pO d5, ?_, fun x hx => ?_, fun s hs => ?_, fun x hx => ?_⟩
      · rw [(d4 2 (by decide)).1, b3, hjs]
      · rw [(d4 2 (by decide)).1]; exact b4 x hx
      · rw [(d4 3 (by decide)).1, b5 s hs, jkp_no (by rw [c42]; decide) (by rw [c42]; decide)]
        cases jtk sg pt q s <;> rfl
      · rw [(d4 3 (by decide)).1]; exact b6 x hx
    rw [if_neg c42]
    by_cases c62 : sg q.1 = 62
    · rw [if_pos c62]
      obtain ⟨w1, w2, w3⟩ := hW.2.2.2.2.2.1 q.1 h1 c62
      obtain ⟨w4, w5, w6⟩ := hW.2.2.2.2.2.1 q.2.1 h2 (c ▸ c62)
      obtain ⟨a, ha⟩ := Option.isSome_iff_exists.mp w1
      obtain ⟨a1, ha1⟩ := Option.isSome_iff_exists.mp w2
      obtain ⟨b, hb⟩ := Option.isSome_iff_exists.mp w4
      obtain ⟨b1', hb1⟩ := Option.isSome_iff_exists.mp w5
      have r1 := pr q.1 1 h1 (by omega)
      have r2 := pr q.2.1 1 h2 (by omega)
      rw [ha1, enc_some] at r1
      rw [hb1, enc_some] at r2
      have r3 := pr q.1 0 h1 (by omega)
      have r4 := pr q.2.1 0 h2 (by omega)
      rw [ha, Nat.add_zero, enc_some] at r3
      rw [hb, Nat.add_zero, enc_some] at r4
      have ew : (1 : Int32) - nI q.2.2 = nI (1 - q.2.2) := nI_sub (a := 1) (by omega)
      rw [ew, l_8, l_1, nI_mul, nI_mul, nI_mul, nI_add, nI_add, nI_add, ck_in (by omega) (by omega), ck_in (by omega) (by omega), ix_nI (by omega), ix_nI (by omega), r1, r2]
      obtain ⟨M3, d1, d2, d3, d4, d5⟩ := mo_wait p21 pS (by omega) a1 b1' q.2.2 (some (8 * A + 1))
      rw [show nI (8 * A + 1) = enA (some (8 * A + 1)) from rfl, d1, Option.bind_some]
      rw [ck_in (by omega) (by omega), ck_in (by omega) (by omega), ix_nI (by omega), ix_nI (by omega), (d4 3 (by decide)).1, r3, r4]
      obtain ⟨M4, e1, e2, e3, e4, e5⟩ := mo_wait (T := ((a1, b1', q.2.2), some (8 * A + 1)) :: T) d2 d3 (by rw [List.length_cons]; omega) a b (1 - q.2.2) (some (8 * A))
      rw [show nI (8 * A) = enA (some (8 * A)) from rfl, e1, Option.bind_some]
      have t0 : jtk sg pt q 0 = some (a, b, 1 - q.2.2) := by unfold jtk; rw [if_pos c, ha, hb, if_pos ⟨c62, rfl⟩]
      have t1 : jtk sg pt q 1 = some (a1, b1', q.2.2) := by unfold jtk; rw [if_pos c, ha1, hb1, if_neg (by omega)]
      have tn : ∀ s, 1 < s → jtk sg pt q s = none := fun s hs => by unfold jtk; rw [if_pos c, w3 s hs]
      have tk8 : tks sg pt q A 8 = [((a, b, 1 - q.2.2), some (8 * A)), ((a1, b1', q.2.2), some (8 * A + 1))] := by
        rw [tks_some (r := 7) t0, tks_some (r := 6) t1, tks_nil 6 (by omega) (fun s h1 h2 => tn s (by omega))]
        rfl
      refine ⟨M4, rfl, by rw [tk8]; exact e2, by rw [tk8]; exact e3, Fr.tr (Fr.sub b2 (by decide)) (Fr.tr (Fr.sub d4 (by decide)) (Fr.sub e4 (by decide))), Fo.tr pO (Fo.tr d5 e5), ?_, fun x hx => ?_, fun s hs => ?_, fun x hx => ?_⟩
      · rw [(e4 2 (by decide)).1, (d4 2 (by decide)).1, b3, hjs]
      · rw [(e4 2 (by decide)).1, (d4 2 (by decide)).1]; exact b4 x hx
      · rw [(e4 3 (by decide)).1, (d4 3 (by decide)).1, b5 s hs, jkp_no (by rw [c62]; decide) (by rw [c62]; decide)]
        cases jtk sg pt q s <;> rfl
      · rw [(e4 3 (by decide)).1, (d4 3 (by decide)).1]; exact b6 x hx
    rw [if_neg c62, if_neg one_ne]
    have key : ∀ al : Int32, ((al = 1 ∧ (sg q.1 = 123 ∧ q.2.2 = 1 ∨ sg q.1 = 91 ∧ q.2.2 = 0)) ∨ (al = 0 ∧ ¬ (sg q.1 = 123 ∧ q.2.2 = 1 ∨ sg q.1 = 91 ∧ q.2.2 = 0))) → ∃ M2, Mo_shape_J267 (nI q.1) (nI q.2.1) (nI q.2.2) (nI A) al P = some M2 ∧ Shp M M2 sg pt q A T := by
      intro al hal
      obtain ⟨M3, d1, d2, d3, d4, d5, d6, d7⟩ := mo_slots hW h1 h2 h3 c c62 hNA hA pr b5 p21 pS hl hal
      refine ⟨M3, ?_, d2, d3, Fr.tr (Fr.sub b2 (by decide)) (Fr.sub d4 (by decide)), Fo.tr pO d5, ?_, fun x hx => ?_, d6, fun x hx => ?_⟩
      · unfold Mo_shape_J267
        rw [d1]; rfl
      · rw [(d4 2 (by decide)).1, b3, hjs]
      · rw [(d4 2 (by decide)).1]; exact b4 x hx
      · rw [d7 x hx]; exact b6 x hx
    unfold Mo_shape_J250 Mo_shape_J259
    have hw : q.2.2 = 0 ∨ q.2.2 = 1 := by omega
    rcases icp_sign hW hi' c with z | z | z | z
    · rw [z, if_neg (show ¬ (123 : Int32) = 91 by decide)]
      rcases hw with w | w
      · rw [if_pos (show nI q.2.2 = 0 by rw [w]; rfl), if_neg (show ¬ (0 : Int32) = 1 by decide)]
        exact key 0 (Or.inr ⟨rfl, by rintro (⟨-, y⟩ | ⟨y, -⟩); omega; rw [z] at y; exact absurd y (by decide)⟩)
      · rw [if_neg (show ¬ nI q.2.2 = 0 by rw [w]; decide), if_pos rfl]
        exact key 1 (Or.inl ⟨rfl, Or.inl ⟨z, w⟩⟩)
    · rw [z, if_pos rfl]
      rcases hw with w | w
      · rw [if_pos (show nI q.2.2 = 0 by rw [w]; rfl), if_pos rfl]
        exact key 1 (Or.inl ⟨rfl, Or.inr ⟨z, w⟩⟩)
      · rw [if_neg (show ¬ nI q.2.2 = 0 by rw [w]; decide), if_neg (show ¬ (1 : Int32) = 0 by decide)]
        exact key 0 (Or.inr ⟨rfl, by rintro (⟨y, -⟩ | ⟨-, y⟩); rw [z] at y; exact absurd y (by decide); omega⟩)
    · exact absurd z c42
    · exact absurd z c62
  · rw [if_neg c]
    have hdif : ∃ sv : Int32, sv = jsg sg q ∧ Mo_shape_J25 (nI q.1) (nI q.2.1) (nI q.2.2) (nI A) 0 M = Mo_shape_J89 (nI q.1) (nI q.2.1) (nI q.2.2) (nI A) 0 0 sv (nI A) M := by
      have hw : q.2.2 = 0 ∨ q.2.2 = 1 := by omega
      unfold Mo_shape_J25 Mo_shape_J60 jsg
      rw [if_neg (show ¬ (0 : Int32) = 123 by decide), if_neg (show ¬ (0 : Int32) = 91 by decide), if_neg (show ¬ (0 : Int32) = 42 by decide), if_neg (show ¬ (0 : Int32) = 62 by decide), if_pos rfl, if_neg c]
      rcases hw with w | w
      · exact ⟨46, by rw [if_pos w], by rw [if_pos (show nI q.2.2 = 0 by rw [w]; rfl)]⟩
      · exact ⟨33, by rw [if_neg (by omega)], by rw [if_neg (show ¬ nI q.2.2 = 0 by rw [w]; decide)]⟩
    obtain ⟨sv, hsv, hd⟩ := hdif
    rw [hd]
    unfold Mo_shape_J89
    rw [ck_in hA (by omega), ix_nI (by omega)]
    obtain ⟨P, b1, b2, b3, b4, b5, b6⟩ := blank 0 0 sv
    rw [b1, Option.bind_some, if_neg (show ¬ (0 : Int32) = 42 by decide), if_neg (show ¬ (0 : Int32) = 62 by decide), if_pos rfl]
    have tn : ∀ s, jtk sg pt q s = none := fun s => by unfold jtk; rw [if_neg c]
    have tk8 : tks sg pt q A 8 = [] := tks_nil 8 (by omega) (fun s _ _ => tn s)
    refine ⟨P, rfl, ?_, ?_, Fr.sub b2 (by decide), fun x _ => by rw [(b2 0 (by decide)).1], by rw [b3, hsv], b4, fun s hs => ?_, b6⟩
    · rw [tk8, (b2 0 (by decide)).1]; exact h21
    · rw [tk8]; exact StkM_eq hS (fun x _ => ⟨by rw [(b2 15 (by decide)).1], by rw [(b2 16 (by decide)).1]⟩)
    · rw [b5 s hs, tn s]
      unfold jkp
      rw [if_neg (fun z => c z.1)]
      rfl
end JN6
