/-! JOIN: the reference, a step -/
def fiv (fi : Int32) (x : Option Nat) (v : Int32) : Int32 := match x with
  | none => v
  | some _ => fi
def putM (M : QM) (x : Option Nat) (v : Int32) : QM := match x with
  | none => M
  | some y => u_i M 3 y v
def updP (P : Nat → Nat → Option Nat) (x : Option Nat) (v : Nat) : Nat → Nat → Option Nat := fun i s => if x = some (8 * i + s) ∧ s < 8 then some v else P i s
def addP (sg : Nat → Int32) (pt : Nat → Nat → Option Nat) (P : Nat → Nat → Option Nat) (q : Tq) (A : Nat) : Nat → Nat → Option Nat := fun i s => if i = A then jy (jtk sg pt q s) (jkp sg pt q s) else P i s
def cdq (q : Tq) : Nat := 2 * (60 * q.1 + q.2.1) + q.2.2
def JM (M0 M : QM) (N : Nat) (sg : Nat → Int32) (A : Nat) (f : Nat → Tq) (P : Nat → Nat → Option Nat) (T : List (Tq × Option Nat)) : Prop :=
  Fr [0, 2, 3, 14, 15, 16] M0 M ∧ Fo [21] M0 M ∧ (∀ i, i < A → M.1 2 i = jS N sg f i) ∧ (∀ i s, i < A → s < 8 → M.1 3 (8 * i + s) = enc (P i s)) ∧
  (∀ q : Tq, q.1 < N → q.2.1 < N → q.2.2 < 2 → (∃ n, N ≤ n ∧ n < A ∧ f n = q ∧ M.1 14 (cdq q) = nI n) ∨ ((∀ n, N ≤ n → n < A → f n ≠ q) ∧ M.1 14 (cdq q) = -6)) ∧ M.1 0 21 = nI T.length ∧ StkM M T
theorem div_w (q : Tq) (h1 : q.1 < 60) (h2 : q.2.1 < 60) (h3 : q.2.2 < 2) : nI (cdq q) / 120 = nI q.1 ∧ nI (cdq q) / 2 - nI (cdq q) / 2 / 60 * 60 = nI q.2.1 ∧ nI (cdq q) - nI (cdq q) / 2 * 2 = nI q.2.2 := by
  have h : ∀ i : Nat, i < 60 → ∀ k : Nat, k < 60 → ∀ w : Nat, w < 2 → nI (2 * (60 * i + k) + w) / 120 = nI i ∧ nI (2 * (60 * i + k) + w) / 2 - nI (2 * (60 * i + k) + w) / 2 / 60 * 60 = nI k ∧ nI (2 * (60 * i + k) + w) - nI (2 * (60 * i + k) + w) / 2 * 2 = nI w := by decide +kernel
  exact h q.1 h1 q.2.1 h2 q.2.2 h3
section JN7
variable {M M0 : QM} {N A : Nat} {sg : Nat → Int32} {pt : Nat → Nat → Option Nat} {nm : Nat → Option Nat} {f : Nat → Tq} {P P2 : Nat → Nat → Option Nat} {T : List (Tq × Option Nat)} {q : Tq} {x : Option Nat} {fi : Int32}
theorem JM_cg (h : JM M0 M N sg A f P T) (hP : ∀ i s, i < A → s < 8 → P2 i s = P i s) : JM M0 M N sg A f P2 T := by
  obtain ⟨j1, j2, j3, j4, j5, j6, j7⟩ := h
  exact ⟨j1, j2, j3, fun i s hi hs => by rw [hP i s hi hs]; exact j4 i s hi hs, j5, j6, j7⟩
theorem JM_pop {t : Tq × Option Nat} (h : JM M0 M N sg A f P (t :: T)) : JM M0 (u_i M 0 21 (nI T.length)) N sg A f P T := by
  obtain ⟨j1, j2, j3, j4, j5, j6, j7⟩ := h
  refine ⟨Fr.i 0 j1 (by decide), Fo.i 21 j2 (by decide), ?_, ?_, ?_, u_i_e, StkM_eq j7.2.2 (fun x _ => ⟨by rw [u_i_o (by decide)], by rw [u_i_o (by decide)]⟩)⟩
  · intro i hi; rw [u_i_o (by decide)]; exact j3 i hi
  · intro i s hi hs; rw [u_i_o (by decide)]; exact j4 i s hi hs
  · intro q h1 h2 h3; rw [u_i_o (by decide)]; exact j5 q h1 h2 h3
theorem JM_put (h : JM M0 M N sg A f P T) (x : Option Nat) (v : Nat) : JM M0 (putM M x (nI v)) N sg A f (updP P x v) T := by
  cases x with
  | none =>
    refine JM_cg h (fun i s _ _ => ?_)
    unfold updP
    rw [if_neg (fun z => by cases z.1)]
  | some y =>
    obtain ⟨j1, j2, j3, j4, j5, j6, j7⟩ := h
    refine ⟨Fr.i 3 j1 (by decide), Fo.o 3 j2 (by decide), ?_, ?_, ?_, ?_, StkM_eq j7 (fun x _ => ⟨?_, ?_⟩)⟩
    · intro i hi; unfold putM; dsimp only; rw [u_i_o (by decide)]; exact j3 i hi
    · intro i s hi hs
      unfold putM updP
      dsimp only
      by_cases e : y = 8 * i + s
      · rw [e, u_i_e, if_pos ⟨rfl, hs⟩]; rfl
      · rw [u_i_k (fun z => e z.symm), if_neg (fun z => e (Option.some.inj z.1))]; exact j4 i s hi hs
    · intro q h1 h2 h3; unfold putM; dsimp only; rw [u_i_o (by decide)]; exact j5 q h1 h2 h3
    · unfold putM; dsimp only; rw [u_i_o (by decide)]; exact j6
    · unfold putM; dsimp only; rw [u_i_o (by decide)]
    · unfold putM; dsimp only; rw [u_i_o (by decide)]
theorem mo_204 (hx : ∀ y, x = some y → y < 480) (a v : Int32) : Mo_join_L76_J204 a fi (enA x) v M = some (.inr (a, fiv fi x v, putM M x v)) := by
  unfold Mo_join_L76_J204
  cases x with
  | none => rw [if_neg (show ¬ (0 : Int32) ≤ enA none by decide)]; rfl
  | some y =>
    have := hx y rfl
    rw [show enA (some y) = nI y from rfl, if_pos (nI_pos' (by omega)), ck_in (by omega) (by omega), ix_nI (by omega)]
    rfl
theorem mo_plain (hN : N ≤ 60) (hD : DokM M N sg pt) (h1 : q.1 < N) (h2 : q.2.1 < N) (h3 : q.2.2 < 2) : (∃ j, jPl sg pt q j ∧ Mo_plain (nI q.1) (nI q.2.1) (nI q.2.2) M = some (nI j)) ∨ (Icp N sg pt q ∧ Mo_plain (nI q.1) (nI q.2.1) (nI q.2.2) M = some (-6)) := by
  have hw : q.2.2 = 0 ∨ q.2.2 = 1 := by omega
  unfold Mo_plain Mo_plain_J40
  rw [l_60, nI_mul, nI_mul, nI_add, nI_add, ck_in (by omega) (by omega), ck_in (by omega) (by omega), ix_nI (by omega), ix_nI (by omega)]
  rcases (hD q.1 q.2.1 h1 h2).2 with ⟨a1, a2⟩ | ⟨a1, a2⟩
  · rcases (hD q.2.1 q.1 h2 h1).2 with ⟨b1, b2⟩ | ⟨b1, b2⟩
    · exact Or.inl ⟨q.1, Or.inl ⟨a1, b1, rfl⟩, by rw [a2, b2]; rfl⟩
    · refine Or.inl ⟨_, Or.inr (Or.inl ⟨a1, b1, rfl⟩), ?_⟩
      rw [a2, b2]
      rcases hw with h | h <;> rw [h] <;> rfl
  · rcases (hD q.2.1 q.1 h2 h1).2 with ⟨b1, b2⟩ | ⟨b1, b2⟩
    · refine Or.inl ⟨_, Or.inr (Or.inr ⟨a1, b1, rfl⟩), ?_⟩
      rw [a2, b2]
      rcases hw with h | h <;> rw [h] <;> rfl
    · exact Or.inr ⟨⟨h1, h2, h3, a1, b1⟩, by rw [a2, b2]; rfl⟩
theorem mo_jstep (hW : WF N sg pt nm) (hNA : N ≤ A) (hA : A ≤ 60) (hD : DokM M0 N sg pt) (hP : ∀ i s, i < N → P i s = pt i s) (hJ : JM M0 M N sg A f P ((q, x) :: T)) (h1 : q.1 < N) (h2 : q.2.1 < N) (h3 : q.2.2 < 2) (hx : ∀ y, x = some y → y < 480) (hl : T.length + 8 ≤ 600) :
    (∃ j, jPl sg pt q j ∧ ∃ M2, Mo_join_B76 (nI A, fi, M) = some (.inr (nI A, fiv fi x (nI j), M2)) ∧ JM M0 M2 N sg A f (updP P x j) T) ∨
    (Icp N sg pt q ∧ ((∃ n, N ≤ n ∧ n < A ∧ f n = q ∧ ∃ M2, Mo_join_B76 (nI A, fi, M) = some (.inr (nI A, fiv fi x (nI n), M2)) ∧ JM M0 M2 N sg A f (updP P x n) T) ∨
      ((∀ n, N ≤ n → n < A → f n ≠ q) ∧ ((A = 60 ∧ ∃ M2, Mo_join_B76 (nI A, fi, M) = some (.inl (.inl (-4, M2))) ∧ JM M0 M2 N sg A f P T) ∨
        (A < 60 ∧ ∃ M2, Mo_join_B76 (nI A, fi, M) = some (.inr (nI (A + 1), fiv fi x (nI A), M2)) ∧ JM M0 M2 N sg (A + 1) (upg f A q) (updP (addP sg pt P q A) x A) (tks sg pt q A 8 ++ T)))))) := by
  have hN := hW.1
  have hJ1 := JM_pop hJ
  obtain ⟨j1, j2, j3, j4, j5, j6, j7⟩ := hJ
  rw [List.length_cons] at j6
  obtain ⟨d1, d2, d3⟩ := div_w q (by omega) (by omega) h3
  have hc : cdq q < 7200 := by unfold cdq; omega
  have w15 : (u_i M 0 21 (nI T.length)).1 15 T.length = nI (cdq q) := by rw [u_i_o (by decide)]; exact j7.1
  have w16 : (u_i M 0 21 (nI T.length)).1 16 T.length = enA x := by rw [u_i_o (by decide)]; exact j7.2.1
  have key : Mo_join_B76 (nI A, fi, M) = Option.bind (Mo_plain (nI q.1) (nI q.2.1) (nI q.2.2) (u_i M 0 21 (nI T.length))) (fun q9 => if 0 ≤ q9 then Mo_join_L76_J159 (nI A) fi (nI (cdq q)) (enA x) (nI q.1) (nI q.2.1) q9 (u_i M 0 21 (nI T.length)) else Mo_join_L76_J159 (nI A) fi (nI (cdq q)) (enA x) (nI q.1) (nI q.2.1) ((u_i M 0 21 (nI T.length)).1 14 (cdq q)) (u_i M 0 21 (nI T.length))) := by
    unfold Mo_join_B76
    dsimp only
    rw [j6, if_neg (show ¬ nI (T.length + 1) ≤ 0 by rw [l_0, nI_leI (by omega) (by omega)]; omega), nI_pred1 (by omega), Nat.add_sub_cancel, u_i_e, ck_in (by omega) (by omega), ck_in (by omega) (by omega), ix_nI (by omega), w15, w16, d1, d2, d3, ck_in hc (by omega), ix_nI (by omega)]
  generalize hM1 : u_i M 0 21 (nI T.length) = M1 at hJ1 key
  have hD1 : DokM M1 N sg pt := fun a b ha hb => by rw [(hJ1.1 12 (by decide)).1, (hJ1.1 11 (by decide)).1]; exact hD a b ha hb
  rw [key]
  rcases mo_plain hN hD1 h1 h2 h3 with ⟨j, p1, p2⟩ | ⟨p1, p2⟩
  · have hj : j < N := by
      rcases p1 with ⟨-, -, z⟩ | ⟨-, -, z⟩ | ⟨-, -, z⟩
      · rw [z]; exact h1
      · rw [z]; split; exact h2; exact h1
      · rw [z]; split; exact h1; exact h2
    refine Or.inl ⟨j, p1, putM M1 x (nI j), ?_, JM_put hJ1 x j⟩
    unfold Mo_join_L76_J159
    rw [p2, Option.bind_some, if_pos (nI_pos' (by omega)), if_pos (nI_pos' (by omega)), mo_204 hx]
  · refine Or.inr ⟨p1, ?_⟩
    rw [p2, Option.bind_some, if_neg (show ¬ (0 : Int32) ≤ -6 by decide)]
    unfold Mo_join_L76_J159
    rcases hJ1.2.2.2.2.1 q h1 h2 h3 with ⟨n, n1, n2, n3, n4⟩ | ⟨n1, n2⟩
    · refine Or.inl ⟨n, n1, n2, n3, putM M1 x (nI n), ?_, JM_put hJ1 x n⟩
      rw [n4, if_pos (nI_pos' (by omega)), mo_204 hx]
    · refine Or.inr ⟨n1, ?_⟩
      rw [n2, if_neg (show ¬ (0 : Int32) ≤ -6 by decide)]
      by_cases hA6 : A = 60
      · refine Or.inl ⟨hA6, M1, ?_, hJ1⟩
        subst hA6
        rw [if_pos (show nI 60 = 60 from rfl)]
      · refine Or.inr ⟨by omega, ?_⟩
        rw [if_neg (show ¬ nI A = 60 from fun h => hA6 ((nI_eq (b := 60) (by omega) (by omega)).mp h)), ck_in hc (by omega), ix_nI (by omega), d3, nI_1]
        obtain ⟨k1, k2, k3, k4, k5, k6, k7⟩ := hJ1
        have fr2 : Fr [14] M1 (u_i M1 14 (cdq q) (nI A)) := Fr.i 14 Fr.rf (by decide)
        obtain ⟨M3, s1, s2, s3, s4, s5, s6, s7, s8, s9⟩ := mo_shape (M := u_i M1 14 (cdq q) (nI A)) (T := T) hW p1 hNA (by omega)
          (fun i hi => by rw [(fr2 2 (by decide)).1, k3 i (by omega), jS_old hi])
          (fun i s hi hs => by rw [(fr2 3 (by decide)).1, k4 i s (by omega) hs, hP i s hi])
          (by rw [(fr2 0 (by decide)).1]; exact k6) (StkM_eq k7 (fun x _ => ⟨by rw [(fr2 15 (by decide)).1], by rw [(fr2 16 (by decide)).1]⟩)) hl
        rw [s1, Option.bind_some, mo_204 hx]
        refine ⟨putM M3 x (nI A), rfl, JM_put ⟨Fr.tr k1 (Fr.tr (Fr.sub fr2 (by decide)) (Fr.sub s4 (by decide))), Fo.tr k2 (Fo.tr (Fo.o 14 Fo.rf (by decide)) s5), ?_, ?_, ?_, s2, s3⟩ x A⟩
        · intro i hi
          by_cases e : i = A
          · subst e; rw [s6, jS_new hNA, upg_e]
          · rw [s7 i e, (fr2 2 (by decide)).1, k3 i (by omega)]
            unfold jS
            rw [upg_ne e]
        · intro i s hi hs
          unfold addP
          by_cases e : i = A
          · subst e; rw [s8 s hs, if_pos rfl]
          · rw [s9 _ (by omega), (fr2 3 (by decide)).1, k4 i s (by omega) hs, if_neg e]
        · intro q2 e1 e2 e3
          rw [(s4 14 (by decide)).1]
          by_cases e : q2 = q
          · subst e
            exact Or.inl ⟨A, hNA, by omega, upg_e, u_i_e⟩
          · have hne : cdq q2 ≠ cdq q := fun z => e (by
              unfold cdq at z
              exact tq_eq (by omega) (by omega) (by omega))
            rw [u_i_k hne]
            rcases k5 q2 e1 e2 e3 with ⟨n, m1, m2, m3, m4⟩ | ⟨m1, m2⟩
            · exact Or.inl ⟨n, m1, by omega, by rw [upg_ne (by omega)]; exact m3, m4⟩
            · refine Or.inr ⟨fun n h1 h2 => ?_, m2⟩
              by_cases en : n = A
              · subst en; rw [upg_e]; exact fun z => e z.symm
              · rw [upg_ne en]; exact m1 n h1 (by omega)
end JN7
