/-! JOIN: a look, and a leave -/
section JN4
variable {M M0 : QM} {N A n : Nat} {sg : Nat → Int32} {pt : Nat → Nat → Option Nat} {nm : Nat → Option Nat} {f : Nat → Tq} {na nx : Nat → Nat} {D : Nat → Nat → Nat} {K : List Nat}
theorem jo_go (hI : JI N sg pt A f nx D (n :: K)) (hJ : JK M0 M N sg pt nm A f na nx D (n :: K)) : Jo_goOn M = Jo_goOn_J32 (nI n) M := by
  obtain ⟨i1, i2, i3, i4, i5, i6, i7, i8, i9⟩ := hI
  obtain ⟨j1, j2, j3, j4, j5, j6, j7⟩ := hJ
  rw [List.length_cons] at i7 j3
  unfold Jo_goOn
  rw [j3, if_neg (show ¬ nI (K.length + 1) ≤ 0 by rw [l_0, nI_leI (by omega) (by omega)]; omega), if_neg (show ¬ (60 : Int32) < nI (K.length + 1) by rw [l_60, nI_ltI (by omega) (by omega)]; omega), nI_pred1 (by omega), Nat.add_sub_cancel, ck_in (by omega) (by omega), ix_nI (by omega), j7.1]
theorem jo_pop (hI : JI N sg pt A f nx D (n :: K)) (hJ : JK M0 M N sg pt nm A f nx nx D (n :: K)) (h8 : nx n = 8) : ∃ M2, Jo_goOn M = some M2 ∧ JK M0 M2 N sg pt nm A f nx nx D K := by
  rw [jo_go hI hJ]
  obtain ⟨i1, i2, i3, i4, i5, i6, i7, i8, i9⟩ := hI
  obtain ⟨j1, j2, j3, j4, j5, j6, j7⟩ := hJ
  obtain ⟨n1, n2⟩ := i5 n List.mem_cons_self
  rw [List.length_cons] at i7 j3
  unfold Jo_goOn_J32 Jo_goOn_J54
  rw [if_neg (nI_pos (by omega)), if_neg (show ¬ (60 : Int32) ≤ nI n by rw [l_60, nI_leI (by omega) (by omega)]; omega), ck_in (by omega) (by omega), ix_nI (by omega), (j6 n n1 n2).2.2.2, h8, if_neg (show ¬ nI 8 < 8 by decide), j3, nI_pred1 (by omega), Nat.add_sub_cancel]
  refine ⟨_, rfl, NetK_fr (T := [18]) (Fr.i 18 Fr.rf (by decide)) (by decide) j1, Fr.i 18 j2 (by decide), u_i_e, ?_, ?_, ?_, StkK_eq j7.2 (fun x hx => by rw [u_i_o (by decide)])⟩
  · rw [u_i_k (by decide)]; exact j4
  · rw [u_i_k (by decide)]; exact j5
  · intro m m1 m2
    rw [u_i_o (by decide), u_i_o (by decide), u_i_o (by decide), u_i_o (by decide)]
    exact j6 m m1 m2
/-- the slot is noted -/
theorem jo_note {s : Nat} (hJ : JK M0 M N sg pt nm A f nx nx D K) (hn : N ≤ n) (hn2 : n < A) : JK M0 (u_i M 22 n (nI (s + 1))) N sg pt nm A f (upf nx n (s + 1)) nx D K := by
  obtain ⟨j1, j2, j3, j4, j5, j6, j7⟩ := hJ
  refine ⟨NetK_fr (T := [22]) (Fr.i 22 Fr.rf (by decide)) (by decide) j1, Fr.i 22 j2 (by decide), ?_, ?_, ?_, ?_, StkK_eq j7 (fun x hx => by rw [u_i_o (by decide)])⟩
  · rw [u_i_o (by decide)]; exact j3
  · rw [u_i_o (by decide)]; exact j4
  · rw [u_i_o (by decide)]; exact j5
  · intro m m1 m2
    rw [u_i_o (by decide), u_i_o (by decide), u_i_o (by decide)]
    obtain ⟨k1, k2, k3, k4⟩ := j6 m m1 m2
    refine ⟨k1, k2, k3, ?_⟩
    by_cases e : m = n
    · subst e; rw [u_i_e, upf_e]
    · rw [u_i_k e, upf_ne e]; exact k4
theorem jo_put {s v : Nat} {D2 : Nat → Nat → Nat} (hW : WF N sg pt nm) (hA : A ≤ 60) (hi : ∀ m, N ≤ m → m < A → nx m ≤ 8) (hJ : JK M0 M N sg pt nm A f (upf nx n (s + 1)) nx D K) (hn : N ≤ n) (hn2 : n < A) (hs : nx n = s) (hs8 : s < 8) (hD : ∀ a b, ¬ (a = n ∧ b = s) → D2 a b = D a b) (hv : jx (jtk sg pt (f n) s) (D2 n s) (jkp sg pt (f n) s) = some v) :
    ∃ M2, Ne_setPart (nI n) (nI s) (nI v) M = some M2 ∧ JK M0 M2 N sg pt nm A f (upf nx n (s + 1)) (upf nx n (s + 1)) D2 K := by
  obtain ⟨j1, j2, j3, j4, j5, j6, j7⟩ := hJ
  obtain ⟨M2, a1, a2, a3⟩ := kn_set (pt2 := jP N sg pt f (upf nx n (s + 1)) D2) j1 hA hn2 hs8 (j := v)
    (fun a b _ _ => by rw [jP_up hn hs hD a b, hv])
    (fun a b c ha hp => jP_lt hW (fun h => by
      by_cases e : a = n
      · subst e; rw [upf_e]; omega
      · rw [upf_ne e]; exact hi a h ha) hp)
  refine ⟨M2, a1, a2, Fr.tr j2 (Fr.sub a3 (by decide)), ?_, ?_, ?_, ?_, StkK_eq j7 (fun x hx => by rw [(a3 23 (by decide)).1])⟩
  · rw [(a3 18 (by decide)).1]; exact j3
  · rw [(a3 18 (by decide)).1]; exact j4
  · rw [(a3 18 (by decide)).1]; exact j5
  · intro m m1 m2
    rw [(a3 19 (by decide)).1, (a3 20 (by decide)).1, (a3 21 (by decide)).1, (a3 22 (by decide)).1]
    exact j6 m m1 m2
theorem jo_look {s : Nat} (hW : WF N sg pt nm) (hI : JI N sg pt A f nx D (n :: K)) (hJ : JK M0 M N sg pt nm A f nx nx D (n :: K)) (hD : DokK M0 N sg pt) (hs : nx n = s) (hs8 : s < 8) :
    (jtk sg pt (f n) s = none ∧ ∃ M2, Jo_goOn M = some M2 ∧ JK M0 M2 N sg pt nm A f (upf nx n (s + 1)) (upf nx n (s + 1)) D (n :: K)) ∨
    (∃ t, jtk sg pt (f n) s = some t ∧ ((∃ j, jPl sg pt t j ∧ ∃ M2, Jo_goOn M = some M2 ∧ JK M0 M2 N sg pt nm A f (upf nx n (s + 1)) (upf nx n (s + 1)) (upd2 D n s j) (n :: K)) ∨
      (Icp N sg pt t ∧ ((∃ m, N ≤ m ∧ m < A ∧ f m = t ∧ ∃ M2, Jo_goOn M = some M2 ∧ JK M0 M2 N sg pt nm A f (upf nx n (s + 1)) (upf nx n (s + 1)) (upd2 D n s m) (n :: K)) ∨
        ((∀ m, N ≤ m → m < A → f m ≠ t) ∧ ((A = 60 ∧ ∃ M2, Jo_goOn M = some M2 ∧ M2.1 18 9 = 1 ∧ M2.1 18 8 = nI N ∧ NetK M2 A (jS N sg f) (jP N sg pt f nx D) nm ∧ Fr [3, 4, 5, 6, 18, 19, 20, 21, 22, 23] M0 M2) ∨
          (A < 60 ∧ ∃ M2, Jo_goOn M = some M2 ∧ JK M0 M2 N sg pt nm (A + 1) (upg f A t) (upf (upf nx A 0) n (s + 1)) (upf (upf nx A 0) n (s + 1)) (upd2 D n s A) (A :: n :: K))))))))  := by
  have hI' := hI
  have hN := hW.1
  have hgo := jo_go hI hJ
  obtain ⟨i1, i2, i3, i4, i5, i6, i7, i8, i9⟩ := hI
  obtain ⟨n1, n2⟩ := i5 n List.mem_cons_self
  have hJ1 := jo_note (s := s) hJ n1 n2
  have k22 := (hJ.2.2.2.2.2.1 n n1 n2).2.2.2
  have hgo2 : Jo_goOn M = Option.bind (Jo_partFor (nI n) (nI s) (u_i M 22 n (nI (s + 1)))) (fun q5 => if q5.1 = (-6 : Int32) then some q5.2 else Option.bind (Ne_setPart (nI n) (nI s) q5.1 q5.2) (fun q6 => some q6)) := by
    rw [hgo]
    unfold Jo_goOn_J32
    rw [if_neg (nI_pos (by omega)), if_neg (show ¬ (60 : Int32) ≤ nI n by rw [l_60, nI_leI (by omega) (by omega)]; omega), ck_in (by omega) (by omega), ix_nI (by omega), k22, hs, if_pos (show nI s < 8 by rw [l_8, nI_ltI (by omega) (by omega)]; exact hs8), ck_in (by omega) (by omega), ck_in (by omega) (by omega), ck_in (by omega) (by omega), nI_1]
  have hi8 : ∀ m, N ≤ m → m < A → nx m ≤ 8 := fun m h1 h2 => (i3 m h1 h2).2
  have hD1 : DokK (u_i M 22 n (nI (s + 1))) N sg pt := fun a b ha hb => by rw [(hJ1.2.1 15 (by decide)).1]; exact hD a b ha hb
  rcases jo_part hW i1 i2 n1 n2 hs8 (i3 n n1 n2).1 hJ1 with ⟨t0, t1⟩ | ⟨t, t0, t1⟩
  · refine Or.inl ⟨t0, ?_⟩
    rw [hgo2, t1, Option.bind_some]
    cases e : jkp sg pt (f n) s with
    | none =>
      refine ⟨_, by rw [enc_none, if_pos rfl], ?_⟩
      obtain ⟨j1, j2, j3, j4, j5, j6, j7⟩ := hJ1
      refine ⟨NetK_cg j1 (fun _ _ => rfl) (fun a b _ _ => ?_) (fun a b c ha hp => jP_lt hW (fun h => ?_) hp), j2, j3, j4, j5, j6, j7⟩
      · rw [jP_up n1 hs (fun _ _ _ => rfl) a b]
        by_cases c : a = n ∧ b = s
        · rw [if_pos c, t0, e, c.1, c.2]
          show none = _
          unfold jP
          rw [if_neg (by omega), hs, if_neg (by omega)]
        · rw [if_neg c]
      · by_cases e : a = n
        · subst e; rw [upf_e]; omega
        · rw [upf_ne e]; exact hi8 a h ha
    | some v =>
      have hv : v < N := by
        unfold jkp at e
        by_cases c : sg (f n).1 = sg (f n).2.1 ∧ (sg (f n).1 = 123 ∧ (f n).2.2 = 1 ∨ sg (f n).1 = 91 ∧ (f n).2.2 = 0)
        · rw [if_pos c] at e
          cases e1 : pt (f n).1 s with
          | none =>
            cases e2 : pt (f n).2.1 s with
            | none => rw [e1, e2] at e; cases e
            | some b => rw [e1, e2] at e; cases e; exact (hW.2.2.1 _ _ _ (i3 n n1 n2).1.2.1 e2).1
          | some a =>
            cases e2 : pt (f n).2.1 s with
            | none => rw [e1, e2] at e; cases e; exact (hW.2.2.1 _ _ _ (i3 n n1 n2).1.1 e1).1
            | some b => rw [e1, e2] at e; cases e
        · rw [if_neg c] at e; cases e
      obtain ⟨M2, b1, b2⟩ := jo_put (D2 := D) (v := v) hW i2 hi8 hJ1 n1 n2 hs hs8 (fun _ _ _ => rfl) (by rw [t0, e]; rfl)
      refine ⟨M2, ?_, b2⟩
      rw [enc_some, if_neg (nI_neg6 (by omega)), b1]
      rfl
  · refine Or.inr ⟨t, t0, ?_⟩
    rw [hgo2, t1]
    have htv := jtk_v hW (i3 n n1 n2).1.1 (i3 n n1 n2).1.2.1 (i3 n n1 n2).1.2.2.1 t0
    have put : ∀ v, v < 2 ^ 31 → ∃ M2, (if nI v = (-6 : Int32) then some (u_i M 22 n (nI (s + 1))) else Option.bind (Ne_setPart (nI n) (nI s) (nI v) (u_i M 22 n (nI (s + 1)))) (fun q6 => some q6)) = some M2 ∧ JK M0 M2 N sg pt nm A f (upf nx n (s + 1)) (upf nx n (s + 1)) (upd2 D n s v) (n :: K) := by
      intro v hv
      obtain ⟨M2, b1, b2⟩ := jo_put (D2 := upd2 D n s v) (v := v) hW i2 hi8 hJ1 n1 n2 hs hs8 (fun _ _ h => upd2_ne h) (by rw [t0, upd2_e]; rfl)
      exact ⟨M2, by rw [if_neg (nI_neg6 hv), b1]; rfl, b2⟩
    rcases jo_node hW hI' hJ1 hD1 htv with ⟨j, p1, p2⟩ | ⟨p0, ⟨m, m1, m2, m3, m4⟩ | ⟨m1, ⟨a1, a2⟩ | ⟨a1, M2, a2, a3⟩⟩⟩
    · left
      have hj : j < N := by
        rcases p1 with ⟨-, -, z⟩ | ⟨-, -, z⟩ | ⟨-, -, z⟩
        · rw [z]; exact htv.1
        · rw [z]; split; exact htv.2.1; exact htv.1
        · rw [z]; split; exact htv.1; exact htv.2.1
      refine ⟨j, p1, ?_⟩
      rw [p2, Option.bind_some]
      exact put j (by omega)
    · refine Or.inr ⟨p0, Or.inl ⟨m, m1, m2, m3, ?_⟩⟩
      rw [m4, Option.bind_some]
      exact put m (by omega)
    · refine Or.inr ⟨p0, Or.inr ⟨m1, Or.inl ⟨a1, ?_⟩⟩⟩
      rw [a2, Option.bind_some]
      obtain ⟨j1, j2, j3, j4, j5, j6, j7⟩ := hJ1
      exact ⟨_, by rw [if_pos rfl], u_i_e, by rw [u_i_k (by decide)]; exact j4, NetK_fr (T := [18]) (Fr.i 18 Fr.rf (by decide)) (by decide) j1, Fr.i 18 j2 (by decide)⟩
    · refine Or.inr ⟨p0, Or.inr ⟨m1, Or.inr ⟨a1, ?_⟩⟩⟩
      rw [a2, Option.bind_some]
      have hne : n ≠ A := by omega
      rw [upf_comm hne] at a3
      obtain ⟨M3, b1, b2⟩ := jo_put (D2 := upd2 D n s A) (v := A) hW (by omega) (fun m h1 h2 => by
        by_cases e : m = A
        · subst e; rw [upf_e]; omega
        · rw [upf_ne e]; exact hi8 m h1 (by omega)) a3 n1 (by omega) (by rw [upf_ne hne]; exact hs) hs8 (fun _ _ h => upd2_ne h) (by rw [upg_ne hne, t0, upd2_e]; rfl)
      exact ⟨M3, by rw [if_neg (nI_neg6 (by omega)), b1]; rfl, b2⟩
end JN4
