/-! standing in the reference: round by round -/
/-- x is right about the ways of at most q steps -/
def Aq (sg : Nat → Int32) (pt : Nat → Nat → Option Nat) (q i k : Nat) (x : Int32) : Prop := (∃ v, v ≤ q ∧ v < 3600 ∧ Dv sg pt i k v ∧ x = nI v) ∨ (¬ Dn sg pt q i k ∧ x = nI 100000)
theorem encP_none : encP none = -6 := rfl
theorem encP_some (a b : Nat) : encP (some (a, b)) = nI (60 * a + b) := rfl
section LB
variable {M M0 : QM} {N : Nat} {sg : Nat → Int32} {pt : Nat → Nat → Option Nat} {nm : Nat → Option Nat}
theorem Aq_far {q i k : Nat} {x : Int32} (h : Aq sg pt q i k x) : x = nI 100000 ↔ ¬ Dn sg pt q i k := by
  rcases h with ⟨v, h1, h2, h3, h4⟩ | ⟨h1, h2⟩
  · rw [h4, nI_eq (by omega) (by omega)]
    exact ⟨fun z => by omega, fun z => absurd (Dn_le h3.1 h1) z⟩
  · exact ⟨fun _ => h1, fun _ => h2⟩
theorem Aq_is {q r i k : Nat} {x : Int32} (h : Aq sg pt q i k x) (hr : r ≤ q) (hr2 : r < 3600) : x = nI r ↔ Dv sg pt i k r := by
  rcases h with ⟨v, h1, h2, h3, h4⟩ | ⟨h1, h2⟩
  · rw [h4, nI_eq (by omega) (by omega)]
    exact ⟨fun z => z ▸ h3, fun z => Dv_uniq h3 z⟩
  · rw [h2, nI_eq (by omega) (by omega)]
    exact ⟨fun z => by omega, fun z => absurd (Dn_le z.1 hr) h1⟩
/-- a pair without a way of r steps has one of r + 1 just if one of r steps stands behind it -/
theorem Dn_next {r i k : Nat} (h : ¬ Dn sg pt r i k) : Dn sg pt (r + 1) i k ↔ ∃ s a b, s < 8 ∧ beh sg pt i k s = some (a, b) ∧ Dv sg pt a b r := by
  constructor
  · intro hd
    have hv : Dv sg pt i k (r + 1) := ⟨hd, fun u hu z => h (Dn_le z (by omega))⟩
    exact Dv_beh hv
  · rintro ⟨s, a, b, h1, h2, h3⟩
    exact Or.inr ⟨s, a, b, h1, h2, h3.1⟩
theorem not_mis_of {r i k : Nat} (h : ¬ Dn sg pt r i k) : ¬ mis sg pt i k := fun z => h (Dn_le (r := 0) z (by omega))
/-- looking for a step that leads to a way of r steps -/
theorem mo_look (hW : WF N sg pt nm) (hM : NetM M N sg pt nm) {r i k : Nat} (hr : r < 3600) (hi : i < N) (hk : k < N) (hA : ∀ a b, a < N → b < N → ∃ q, r ≤ q ∧ Aq sg pt q a b (M.1 12 (60 * a + b))) (x1 : Int32) :
    (¬ Dn sg pt r i k → M.1 12 (60 * i + k) = nI 100000 → ∃ e, iter (Mo_lay_B109 x1 (nI (r + 1)) (nI i) (nI k) M) FU ((0 : Int32), (0 : Int32)) = some e ∧ ((e = 0 ∧ ¬ Dn sg pt (r + 1) i k) ∨ (e = 1 ∧ Dn sg pt (r + 1) i k))) ∧
    (M.1 12 (60 * i + k) ≠ nI 100000 → iter (Mo_lay_B109 x1 (nI (r + 1)) (nI i) (nI k) M) FU ((0 : Int32), (0 : Int32)) = some 0) := by
  have hN := hW.1
  have hix : (60 : Int32) * nI i + nI k = nI (60 * i + k) := by rw [l_60, nI_mul, nI_add]
  refine ⟨fun hnd hfar => ?_, fun hfar => ?_⟩
  · have hm := not_mis_of hnd
    obtain ⟨e, g1, g2⟩ := iter_0 (B := Mo_lay_B109 x1 (nI (r + 1)) (nI i) (nI k) M)
      (fun n a => ∃ f : Int32, a = (f, nI n) ∧ ((f = 0 ∧ ∀ c a b, c < n → cst sg pt i k c = some (a, b) → ¬ Dv sg pt a b r) ∨ (f = 1 ∧ Dn sg pt (r + 1) i k)))
      (fun f => (f = 0 ∧ ¬ Dn sg pt (r + 1) i k) ∨ (f = 1 ∧ Dn sg pt (r + 1) i k)) 11 (by omega) (fun n a hn ha => by
        obtain ⟨f, rfl, hd⟩ := ha
        unfold Mo_lay_B109
        simp only [hix]
        rw [if_neg (show ¬ (11 : Int32) ≤ nI n by rw [show (11 : Int32) = nI 11 from rfl, nI_leI (by omega) (by omega)]; omega), ck_in (by omega) (by omega), ix_nI (by omega), if_pos (show M.1 12 (60 * i + k) = 100000 from hfar)]
        rcases hd with ⟨hf, hd⟩ | ⟨hf, hd⟩
        · left
          rw [if_pos hf, mo_stepTo hW hM hi hk hn hm, nI_1]
          simp only [Option.bind_some]
          cases hq : cst sg pt i k n with
          | none =>
            rw [encP_none, if_pos (by decide)]
            refine ⟨_, rfl, 0, rfl, Or.inl ⟨rfl, fun c a b hc he => ?_⟩⟩
            by_cases e : c = n
            · subst e; rw [hq] at he; cases he
            · exact hd c a b (by omega) he
          | some q =>
            obtain ⟨a, b⟩ := q
            obtain ⟨s, hs, hb, -⟩ := beh_of_cst hW hi hk hm hq
            obtain ⟨ha, hb2⟩ := beh_lt hW hi hk hb
            obtain ⟨q, hq1, hq2⟩ := hA a b ha hb2
            rw [encP_some, if_neg (nI_pos (by omega)), ck_in (by omega) (by omega), ix_nI (by omega), nI_pred1 (by omega), Nat.add_sub_cancel]
            by_cases hd2 : Dv sg pt a b r
            · rw [if_pos ((Aq_is hq2 hq1 hr).mpr hd2)]
              exact ⟨_, rfl, 1, rfl, Or.inr ⟨rfl, (Dn_next hnd).mpr ⟨s, a, b, hs, hb, hd2⟩⟩⟩
            · rw [if_neg (fun z => hd2 ((Aq_is hq2 hq1 hr).mp z))]
              refine ⟨_, rfl, 0, rfl, Or.inl ⟨rfl, fun c a2 b2 hc he => ?_⟩⟩
              by_cases e : c = n
              · subst e; rw [hq] at he; cases he; exact hd2
              · exact hd c a2 b2 (by omega) he
        · right
          rw [if_neg (by rw [hf]; decide)]
          exact ⟨_, rfl, Or.inr ⟨hf, hd⟩⟩)
      (fun a ha => by
        obtain ⟨f, rfl, hd⟩ := ha
        refine ⟨f, ?_, ?_⟩
        · unfold Mo_lay_B109
          rw [if_pos (show (11 : Int32) ≤ nI 11 by decide)]
        · rcases hd with ⟨hf, hd⟩ | hd
          · refine Or.inl ⟨hf, fun z => ?_⟩
            obtain ⟨s, a, b, h1, h2, h3⟩ := (Dn_next hnd).mp z
            obtain ⟨c1, c2⟩ := cst_of_beh hW hi hk hm h2
            exact hd _ a b c2 c1 h3
          · exact Or.inr hd)
      ((0 : Int32), (0 : Int32)) ⟨0, rfl, Or.inl ⟨rfl, fun c a b hc => by omega⟩⟩
    exact ⟨e, g1, g2⟩
  · have e : Mo_lay_B109 x1 (nI (r + 1)) (nI i) (nI k) M ((0 : Int32), (0 : Int32)) = some (.inl 0) := by
      unfold Mo_lay_B109
      simp only [hix]
      rw [if_neg (by decide), ck_in (by omega) (by omega), ix_nI (by omega), if_neg (show ¬ M.1 12 (60 * i + k) = 100000 from hfar)]
    rw [show FU = 9999999 + 1 from rfl, iter_d e]
/-- within round r + 1: Pq, the pairs that are done -/
def RW (N r : Nat) (sg : Nat → Int32) (pt : Nat → Nat → Option Nat) (M0 : QM) (Pq : Nat → Nat → Prop) (b1 : Int32) (M1 : QM) : Prop :=
  Fr [12] M0 M1 ∧ (∀ i k, i < N → k < N → (Pq i k → Aq sg pt (r + 1) i k (M1.1 12 (60 * i + k))) ∧ (¬ Pq i k → Aq sg pt r i k (M1.1 12 (60 * i + k)))) ∧
  ((b1 = 0 ∧ ∀ i k, i < N → k < N → Pq i k → ¬ Dv sg pt i k (r + 1)) ∨ (b1 = 1 ∧ ∃ i k, i < N ∧ k < N ∧ Dv sg pt i k (r + 1)))
theorem RW_imp {r : Nat} {Pq Pr : Nat → Nat → Prop} {b1 : Int32} {M1 : QM} (h : RW N r sg pt M0 Pq b1 M1) (he : ∀ i k, i < N → k < N → (Pr i k ↔ Pq i k)) : RW N r sg pt M0 Pr b1 M1 := by
  obtain ⟨h1, h2, h3⟩ := h
  refine ⟨h1, fun i k hi hk => ⟨fun z => (h2 i k hi hk).1 ((he i k hi hk).mp z), fun z => (h2 i k hi hk).2 (fun w => z ((he i k hi hk).mpr w))⟩, ?_⟩
  rcases h3 with ⟨a, b⟩ | h3
  · exact Or.inl ⟨a, fun i k hi hk hp => b i k hi hk ((he i k hi hk).mp hp)⟩
  · exact Or.inr h3
theorem Aq_up {r i k : Nat} {x : Int32} (h : Aq sg pt r i k x) (hn : ¬ Dv sg pt i k (r + 1)) : Aq sg pt (r + 1) i k x := by
  rcases h with ⟨v, h1, h2, h3, h4⟩ | ⟨h1, h2⟩
  · exact Or.inl ⟨v, by omega, h2, h3, h4⟩
  · exact Or.inr ⟨fun z => hn ⟨z, fun u hu w => h1 (Dn_le w (by omega))⟩, h2⟩
theorem mo_pair (hW : WF N sg pt nm) (hM : NetM M0 N sg pt nm) {r i k : Nat} (hr : r < 3600) (hi : i < N) (hk : k < N) {Pq : Nat → Nat → Prop} {b1 : Int32} {M1 : QM} (h : RW N r sg pt M0 Pq b1 M1) (hp : ¬ Pq i k) :
    ∃ (b2 : Int32) (M2 : QM), Mo_lay_B94 (nI (r + 1)) (nI i) (b1, nI k, M1) = some (.inr (b2, nI (k + 1), M2)) ∧ RW N r sg pt M0 (fun x y => Pq x y ∨ (x = i ∧ y = k)) b2 M2 := by
  have hN := hW.1
  obtain ⟨h1, h2, h3⟩ := h
  have hM1 : NetM M1 N sg pt nm := NetM_fr h1 (by rw [(h1 0 (by decide)).1]) (by decide) hM
  have hA : ∀ a b, a < N → b < N → ∃ q, r ≤ q ∧ Aq sg pt q a b (M1.1 12 (60 * a + b)) := fun a b ha hb => by
    by_cases hpq : Pq a b
    · exact ⟨r + 1, by omega, (h2 a b ha hb).1 hpq⟩
    · exact ⟨r, by omega, (h2 a b ha hb).2 hpq⟩
  have hcur := (h2 i k hi hk).2 hp
  obtain ⟨l1, l2⟩ := mo_look hW hM1 hr hi hk hA b1
  have hix : (60 : Int32) * nI i + nI k = nI (60 * i + k) := by rw [l_60, nI_mul, nI_add]
  -- nothing new
  have stay : ¬ Dv sg pt i k (r + 1) → RW N r sg pt M0 (fun x y => Pq x y ∨ (x = i ∧ y = k)) b1 M1 := fun hno => by
    refine ⟨h1, fun x y hx hy => ⟨fun z => ?_, fun z => (h2 x y hx hy).2 (fun w => z (Or.inl w))⟩, ?_⟩
    · rcases z with z | ⟨rfl, rfl⟩
      · exact (h2 x y hx hy).1 z
      · exact Aq_up hcur hno
    · rcases h3 with ⟨a, b⟩ | h3
      · refine Or.inl ⟨a, fun x y hx hy hpq => ?_⟩
        rcases hpq with z | ⟨rfl, rfl⟩
        · exact b x y hx hy z
        · exact hno
      · exact Or.inr h3
  unfold Mo_lay_B94
  simp only
  rw [hM1.1, if_neg (show ¬ nI N ≤ nI k by rw [nI_leI (by omega) (by omega)]; omega)]
  by_cases hfar : M1.1 12 (60 * i + k) = nI 100000
  · have hnd := (Aq_far hcur).mp hfar
    obtain ⟨e, g1, g2⟩ := l1 hnd hfar
    rw [g1]
    simp only [Option.bind_some]
    unfold Mo_lay_L94_J180
    rw [nI_1, hix, ck_in (by omega) (by omega), ix_nI (by omega)]
    rcases g2 with ⟨ge, gd⟩ | ⟨ge, gd⟩
    · rw [if_pos ge]
      exact ⟨b1, M1, rfl, stay (fun z => gd z.1)⟩
    · rw [if_neg (by rw [ge]; decide)]
      have hv : Dv sg pt i k (r + 1) := ⟨gd, fun u hu z => hnd (Dn_le z (by omega))⟩
      have hlt := Dv_lt hW hi hk hv
      refine ⟨1, _, rfl, Fr.i 12 h1 (by decide), fun x y hx hy => ⟨fun z => ?_, fun z => ?_⟩, Or.inr ⟨rfl, i, k, hi, hk, hv⟩⟩
      · by_cases he : x = i ∧ y = k
        · obtain ⟨rfl, rfl⟩ := he
          rw [u_i_e]
          exact Or.inl ⟨r + 1, by omega, hlt, hv, rfl⟩
        · rw [u_i_k (by omega)]
          rcases z with z | z
          · exact (h2 x y hx hy).1 z
          · exact absurd z he
      · rw [u_i_k (by
          intro he
          exact z (Or.inr ⟨by omega, by omega⟩))]
        exact (h2 x y hx hy).2 (fun w => z (Or.inl w))
  · rw [l2 hfar]
    simp only [Option.bind_some]
    unfold Mo_lay_L94_J180
    rw [if_pos rfl, nI_1]
    refine ⟨b1, M1, rfl, stay (fun z => ?_)⟩
    have hd : Dn sg pt r i k := Classical.byContradiction (fun w => hfar ((Aq_far hcur).mpr w))
    exact z.2 r (by omega) hd
theorem mo_round (hW : WF N sg pt nm) (hM : NetM M N sg pt nm) {r : Nat} (hr : r < 3600) (hA : ∀ i k, i < N → k < N → Aq sg pt r i k (M.1 12 (60 * i + k))) :
    ∃ (b2 : Int32) (M2 : QM), iter (Mo_lay_B83 (nI (r + 1))) FU ((0 : Int32), (0 : Int32), M) = some (b2, M2) ∧ RW N r sg pt M (fun _ _ => True) b2 M2 := by
  have hN := hW.1
  obtain ⟨b, e1, b2, M2, rfl, e2⟩ := iter_0 (B := Mo_lay_B83 (nI (r + 1)))
    (fun n a => ∃ (b2 : Int32) (M2 : QM), a = (b2, nI n, M2) ∧ RW N r sg pt M (fun x y => x < n) b2 M2)
    (fun b => ∃ (b2 : Int32) (M2 : QM), b = (b2, M2) ∧ RW N r sg pt M (fun _ _ => True) b2 M2) N (by omega) (fun i a hi ha => by
      obtain ⟨b1, M1, rfl, hs⟩ := ha
      left
      obtain ⟨b, f1, b2, M2, rfl, f2⟩ := iter_0 (B := Mo_lay_B94 (nI (r + 1)) (nI i))
        (fun n a => ∃ (b2 : Int32) (M2 : QM), a = (b2, nI n, M2) ∧ RW N r sg pt M (fun x y => x < i ∨ (x = i ∧ y < n)) b2 M2)
        (fun b => ∃ (b2 : Int32) (M2 : QM), b = (b2, M2) ∧ RW N r sg pt M (fun x y => x < i + 1) b2 M2) N (by omega) (fun k a hk ha => by
          obtain ⟨b1, M1, rfl, hs⟩ := ha
          left
          obtain ⟨b2, M2, g1, g2⟩ := mo_pair hW hM hr hi hk hs (by omega)
          exact ⟨_, g1, b2, M2, rfl, RW_imp g2 (fun x y hx hy => by
            constructor
            · intro z
              by_cases e : x = i ∧ y = k
              · exact Or.inr e
              · exact Or.inl (by omega)
            · intro z
              rcases z with z | z <;> omega)⟩)
        (fun a ha => by
          obtain ⟨b1, M1, rfl, hs⟩ := ha
          have hM1 : NetM M1 N sg pt nm := NetM_fr hs.1 (by rw [(hs.1 0 (by decide)).1]) (by decide) hM
          refine ⟨(b1, M1), ?_, b1, M1, rfl, RW_imp hs (fun x y hx hy => by omega)⟩
          unfold Mo_lay_B94
          simp only
          rw [hM1.1, if_pos (by rw [nI_leI (by omega) (by omega)]; omega)])
        (b1, (0 : Int32), M1) ⟨b1, M1, rfl, RW_imp hs (fun x y hx hy => by omega)⟩
      have hM1 : NetM M1 N sg pt nm := NetM_fr hs.1 (by rw [(hs.1 0 (by decide)).1]) (by decide) hM
      refine ⟨(b2, nI (i + 1), M2), ?_, b2, M2, rfl, f2⟩
      unfold Mo_lay_B83
      simp only
      rw [hM1.1, if_neg (by rw [nI_leI (by omega) (by omega)]; omega), f1]
      simp only [Option.bind_some, nI_1])
    (fun a ha => by
      obtain ⟨b1, M1, rfl, hs⟩ := ha
      have hM1 : NetM M1 N sg pt nm := NetM_fr hs.1 (by rw [(hs.1 0 (by decide)).1]) (by decide) hM
      refine ⟨(b1, M1), ?_, b1, M1, rfl, RW_imp hs (fun x y hx hy => by simp only [true_iff]; exact hx)⟩
      unfold Mo_lay_B83
      simp only
      rw [hM1.1, if_pos (by rw [nI_leI (by omega) (by omega)]; omega)])
    ((0 : Int32), (0 : Int32), M) ⟨0, M, rfl, Fr.rf, fun i k hi hk => ⟨fun z => by omega, fun _ => hA i k hi hk⟩, Or.inl ⟨rfl, fun i k hi hk z => by omega⟩⟩
  exact ⟨b2, M2, e1, e2⟩
theorem mo_start (hW : WF N sg pt nm) (hM : NetM M N sg pt nm) : ∃ M2, iter Mo_lay_B15 FU ((0 : Int32), M) = some M2 ∧ Fr [12] M M2 ∧ ∀ i k, i < N → k < N → Aq sg pt 0 i k (M2.1 12 (60 * i + k)) := by
  have hN := hW.1
  obtain ⟨Ma, e1, e2, e3⟩ := iter_0 (B := Mo_lay_B15)
    (fun n a => ∃ M2, a = (nI n, M2) ∧ Fr [12] M M2 ∧ ∀ i k, i < n → k < N → Aq sg pt 0 i k (M2.1 12 (60 * i + k)))
    (fun M2 => Fr [12] M M2 ∧ ∀ i k, i < N → k < N → Aq sg pt 0 i k (M2.1 12 (60 * i + k))) N (by omega) (fun i a hi ha => by
      obtain ⟨M1, rfl, hF, hv⟩ := ha
      left
      obtain ⟨Mb, f1, f2, f3⟩ := iter_0 (B := Mo_lay_B25 (nI i))
        (fun n a => ∃ M2, a = (nI n, M2) ∧ Fr [12] M M2 ∧ ∀ x y, y < N → (x < i ∨ (x = i ∧ y < n)) → Aq sg pt 0 x y (M2.1 12 (60 * x + y)))
        (fun M2 => Fr [12] M M2 ∧ ∀ x y, x < i + 1 → y < N → Aq sg pt 0 x y (M2.1 12 (60 * x + y))) N (by omega) (fun k a hk ha => by
          obtain ⟨M2, rfl, hF2, hv2⟩ := ha
          left
          have hM2 : NetM M2 N sg pt nm := NetM_fr hF2 (by rw [(hF2 0 (by decide)).1]) (by decide) hM
          have go : ∀ v : Nat, Aq sg pt 0 i k (nI v) → ∃ a2, Mo_lay_L25_J58 (nI i) (nI k) (nI v) (nI (60 * i + k)) M2 = some (.inr a2) ∧ ∃ M3, a2 = (nI (k + 1), M3) ∧ Fr [12] M M3 ∧ ∀ x y, y < N → (x < i ∨ (x = i ∧ y < k + 1)) → Aq sg pt 0 x y (M3.1 12 (60 * x + y)) := by
            intro v hA
            unfold Mo_lay_L25_J58
            rw [ck_in (by omega) (by omega), ix_nI (by omega), nI_1]
            refine ⟨_, rfl, _, rfl, Fr.i 12 hF2 (by decide), fun x y hy hor => ?_⟩
            by_cases he : 60 * x + y = 60 * i + k
            · have h5 : x = i := by omega
              have h6 : y = k := by omega
              subst h5; subst h6
              rw [u_i_e]; exact hA
            · rw [u_i_k he]; exact hv2 x y hy (by omega)
          unfold Mo_lay_B25
          simp only
          rw [hM2.1, if_neg (show ¬ nI N ≤ nI k by rw [nI_leI (by omega) (by omega)]; omega), l_60, nI_mul, nI_add]
          rcases mo_fits hW hM2 hi hk with ⟨g1, g2⟩ | ⟨g1, g2⟩
          · rw [g1]
            simp only [Option.bind_some, if_true]
            exact go 0 (Or.inl ⟨0, by omega, by omega, ⟨g2, fun u hu => by omega⟩, rfl⟩)
          · rw [g1]
            simp only [Option.bind_some]
            rw [if_neg (by decide)]
            exact go 100000 (Or.inr ⟨g2, rfl⟩))
        (fun a ha => by
          obtain ⟨M2, rfl, hF2, hv2⟩ := ha
          have hM2 : NetM M2 N sg pt nm := NetM_fr hF2 (by rw [(hF2 0 (by decide)).1]) (by decide) hM
          refine ⟨M2, ?_, hF2, fun x y hx hy => hv2 x y hy (by omega)⟩
          unfold Mo_lay_B25
          simp only
          rw [hM2.1, if_pos (by rw [nI_leI (by omega) (by omega)]; omega)])
        ((0 : Int32), M1) ⟨M1, rfl, hF, fun x y hy hor => hv x y (by omega) hy⟩
      have hM1 : NetM M1 N sg pt nm := NetM_fr hF (by rw [(hF 0 (by decide)).1]) (by decide) hM
      refine ⟨(nI (i + 1), Mb), ?_, Mb, rfl, f2, f3⟩
      unfold Mo_lay_B15
      simp only
      rw [hM1.1, if_neg (by rw [nI_leI (by omega) (by omega)]; omega), f1]
      simp only [Option.bind_some, nI_1])
    (fun a ha => by
      obtain ⟨M1, rfl, hF, hv⟩ := ha
      have hM1 : NetM M1 N sg pt nm := NetM_fr hF (by rw [(hF 0 (by decide)).1]) (by decide) hM
      refine ⟨M1, ?_, hF, hv⟩
      unfold Mo_lay_B15
      simp only
      rw [hM1.1, if_pos (by rw [nI_leI (by omega) (by omega)]; omega)])
    ((0 : Int32), M) ⟨M, rfl, Fr.rf, fun i k hi => by omega⟩
  exact ⟨Ma, e1, e2, e3⟩
theorem mo_lay (hW : WF N sg pt nm) (hM : NetM M N sg pt nm) (hL : LaM M N sg pt) :
    ∃ M2, Mo_lay M = some M2 ∧ Fr [0, 11, 12] M M2 ∧ (∀ x, x ≠ 15 → M2.1 0 x = M.1 0 x) ∧ M2.1 0 15 = 1 ∧ ∀ i k, i < N → k < N → Dok 100000 sg pt i k (M2.1 12 (60 * i + k)) ∧ ((My sg pt i k ∧ M2.1 11 (60 * i + k) = 1) ∨ (¬ My sg pt i k ∧ M2.1 11 (60 * i + k) = 0)) := by
  have hN := hW.1
  unfold Mo_lay
  rcases hL with h0 | ⟨h1, hv⟩
  · rw [if_pos h0]
    have hM0 : NetM (u_i M 0 15 1) N sg pt nm := NetM_fr (Fr.i 0 Fr.rf (T := [0]) (by decide)) (u_i_k (by decide)) (by decide) hM
    obtain ⟨Ma, a1, a2, a3⟩ := mo_start hW hM0
    rw [a1]
    simp only [Option.bind_some]
    have hMa : NetM Ma N sg pt nm := NetM_fr a2 (by rw [(a2 0 (by decide)).1]) (by decide) hM0
    -- the rounds
    obtain ⟨Mb, b1, b2, b3⟩ := iter_0 (B := Mo_lay_B75)
      (fun n a => ∃ (bb : Int32) (M1 : QM), a = (bb, nI (n + 1), M1) ∧ Fr [12] Ma M1 ∧ (∀ i k, i < N → k < N → Aq sg pt n i k (M1.1 12 (60 * i + k))) ∧ ((bb = 0 ∧ ∀ i k, i < N → k < N → ¬ Dv sg pt i k n) ∨ (bb = 1 ∧ (n = 0 ∨ ∃ i k, i < N ∧ k < N ∧ Dv sg pt i k n))))
      (fun M1 => Fr [12] Ma M1 ∧ ∀ i k, i < N → k < N → Dok 100000 sg pt i k (M1.1 12 (60 * i + k)))
      3601 (by omega) (fun n a hn ha => by
        obtain ⟨bb, M1, rfl, hF, hA, hd⟩ := ha
        have hM1 : NetM M1 N sg pt nm := NetM_fr hF (by rw [(hF 0 (by decide)).1]) (by decide) hMa
        rcases hd with ⟨hb, hno⟩ | ⟨hb, hex⟩
        · right
          refine ⟨M1, ?_, hF, fun i k hi hk => ?_⟩
          · unfold Mo_lay_B75
            simp only
            rw [if_pos hb]
          · rcases hA i k hi hk with ⟨v, g1, g2, g3, g4⟩ | ⟨g1, g2⟩
            · exact Or.inl ⟨v, g2, g3, g4⟩
            · refine Or.inr ⟨fun r hr => ?_, g2⟩
              obtain ⟨v, -, hv⟩ := Dv_of hr
              have hvn : n < v := Classical.byContradiction (fun z => g1 (Dn_le hv.1 (by omega)))
              obtain ⟨a, b, ha, hb2, hab⟩ := Dv_down hW hi hk hv n (by omega)
              exact hno a b ha hb2 hab
        · left
          have hn2 : n < 3600 := by
            rcases hex with h | ⟨i, k, hi, hk, hv⟩
            · omega
            · exact Dv_lt hW hi hk hv
          obtain ⟨b2, M2, r1, r2⟩ := mo_round hW hM1 hn2 hA
          obtain ⟨s1, s2, s3⟩ := r2
          refine ⟨(b2, nI (n + 1 + 1), M2), ?_, b2, M2, rfl, Fr.tr hF s1, fun i k hi hk => (s2 i k hi hk).1 trivial, ?_⟩
          · unfold Mo_lay_B75
            simp only
            rw [if_neg (by rw [hb]; decide), r1]
            simp only [Option.bind_some, nI_1]
          · rcases s3 with ⟨c1, c2⟩ | ⟨c1, c2⟩
            · exact Or.inl ⟨c1, fun i k hi hk => c2 i k hi hk trivial⟩
            · exact Or.inr ⟨c1, Or.inr c2⟩)
      (fun a ha => by
        obtain ⟨bb, M1, rfl, hF, hA, hd⟩ := ha
        rcases hd with ⟨hb, hno⟩ | ⟨hb, hex⟩
        · refine ⟨M1, ?_, hF, fun i k hi hk => ?_⟩
          · unfold Mo_lay_B75
            simp only
            rw [if_pos hb]
          · rcases hA i k hi hk with ⟨v, g1, g2, g3, g4⟩ | ⟨g1, g2⟩
            · exact Or.inl ⟨v, g2, g3, g4⟩
            · refine Or.inr ⟨fun r hr => ?_, g2⟩
              obtain ⟨v, -, hv⟩ := Dv_of hr
              have hlt := Dv_lt hW hi hk hv
              exact g1 (Dn_le hv.1 (by omega))
        · exfalso
          rcases hex with h | ⟨i, k, hi, hk, hv⟩
          · omega
          · have := Dv_lt hW hi hk hv
            omega)
      ((1 : Int32), (1 : Int32), Ma) ⟨1, Ma, rfl, Fr.rf, a3, Or.inr ⟨rfl, Or.inl rfl⟩⟩
    rw [b1]
    simp only [Option.bind_some]
    have hMb : NetM Mb N sg pt nm := NetM_fr b2 (by rw [(b2 0 (by decide)).1]) (by decide) hMa
    -- which may
    have hfar : ∀ i k, i < N → k < N → (Mb.1 12 (60 * i + k) = nI 100000 ↔ My sg pt i k) := fun i k hi hk => by
      rcases b3 i k hi hk with ⟨v, g1, g2, g3⟩ | ⟨g1, g2⟩
      · rw [g3, nI_eq (by omega) (by omega)]
        exact ⟨fun z => by omega, fun z => absurd z (Dv_not g2)⟩
      · exact ⟨fun _ => g1, fun _ => g2⟩
    obtain ⟨Mc, c1, c2, c3⟩ := iter_0 (B := Mo_lay_B220)
      (fun n a => ∃ M2, a = (nI n, M2) ∧ Fr [11] Mb M2 ∧ ∀ i k, i < n → k < N → (My sg pt i k ∧ M2.1 11 (60 * i + k) = 1) ∨ (¬ My sg pt i k ∧ M2.1 11 (60 * i + k) = 0))
      (fun M2 => Fr [11] Mb M2 ∧ ∀ i k, i < N → k < N → (My sg pt i k ∧ M2.1 11 (60 * i + k) = 1) ∨ (¬ My sg pt i k ∧ M2.1 11 (60 * i + k) = 0)) N (by omega) (fun i a hi ha => by
        obtain ⟨M1, rfl, hF, hv⟩ := ha
        left
        obtain ⟨Md, f1, f2, f3⟩ := iter_0 (B := Mo_lay_B230 (nI i))
          (fun n a => ∃ M2, a = (nI n, M2) ∧ Fr [11] Mb M2 ∧ ∀ x y, y < N → (x < i ∨ (x = i ∧ y < n)) → (My sg pt x y ∧ M2.1 11 (60 * x + y) = 1) ∨ (¬ My sg pt x y ∧ M2.1 11 (60 * x + y) = 0))
          (fun M2 => Fr [11] Mb M2 ∧ ∀ x y, x < i + 1 → y < N → (My sg pt x y ∧ M2.1 11 (60 * x + y) = 1) ∨ (¬ My sg pt x y ∧ M2.1 11 (60 * x + y) = 0)) N (by omega) (fun k a hk ha => by
            obtain ⟨M2, rfl, hF2, hv2⟩ := ha
            left
            have hM2 : NetM M2 N sg pt nm := NetM_fr hF2 (by rw [(hF2 0 (by decide)).1]) (by decide) hMb
            have go : ∀ v : Int32, isb v = true → ((My sg pt i k ∧ v = 1) ∨ (¬ My sg pt i k ∧ v = 0)) → ∃ a2, Mo_lay_L230_J269 (nI i) (nI k) v (nI (60 * i + k)) M2 = some (.inr a2) ∧ ∃ M3, a2 = (nI (k + 1), M3) ∧ Fr [11] Mb M3 ∧ ∀ x y, y < N → (x < i ∨ (x = i ∧ y < k + 1)) → (My sg pt x y ∧ M3.1 11 (60 * x + y) = 1) ∨ (¬ My sg pt x y ∧ M3.1 11 (60 * x + y) = 0) := by
              intro v hvb hA
              unfold Mo_lay_L230_J269
              rw [ck_in (by omega) (by omega), ck_t hvb, ix_nI (by omega), nI_1]
              refine ⟨_, rfl, _, rfl, Fr.i 11 hF2 (by decide), fun x y hy hor => ?_⟩
              by_cases he : 60 * x + y = 60 * i + k
              · have h5 : x = i := by omega
                have h6 : y = k := by omega
                subst h5; subst h6
                rw [u_i_e]; exact hA
              · rw [u_i_k he]; exact hv2 x y hy (by omega)
            unfold Mo_lay_B230
            simp only
            rw [hM2.1, if_neg (show ¬ nI N ≤ nI k by rw [nI_leI (by omega) (by omega)]; omega), l_60, nI_mul, nI_add, ck_in (by omega) (by omega), ix_nI (by omega), (hF2 12 (by decide)).1]
            by_cases hy : My sg pt i k
            · rw [if_pos (show Mb.1 12 (60 * i + k) = 100000 from (hfar i k hi hk).mpr hy)]
              exact go 1 rfl (Or.inl ⟨hy, rfl⟩)
            · rw [if_neg (show ¬ Mb.1 12 (60 * i + k) = 100000 from fun z => hy ((hfar i k hi hk).mp z))]
              exact go 0 rfl (Or.inr ⟨hy, rfl⟩))
          (fun a ha => by
            obtain ⟨M2, rfl, hF2, hv2⟩ := ha
            have hM2 : NetM M2 N sg pt nm := NetM_fr hF2 (by rw [(hF2 0 (by decide)).1]) (by decide) hMb
            refine ⟨M2, ?_, hF2, fun x y hx hy => hv2 x y hy (by omega)⟩
            unfold Mo_lay_B230
            simp only
            rw [hM2.1, if_pos (by rw [nI_leI (by omega) (by omega)]; omega)])
          ((0 : Int32), M1) ⟨M1, rfl, hF, fun x y hy hor => hv x y (by omega) hy⟩
        have hM1 : NetM M1 N sg pt nm := NetM_fr hF (by rw [(hF 0 (by decide)).1]) (by decide) hMb
        refine ⟨(nI (i + 1), Md), ?_, Md, rfl, f2, f3⟩
        unfold Mo_lay_B220
        simp only
        rw [hM1.1, if_neg (by rw [nI_leI (by omega) (by omega)]; omega), f1]
        simp only [Option.bind_some, nI_1])
      (fun a ha => by
        obtain ⟨M1, rfl, hF, hv⟩ := ha
        have hM1 : NetM M1 N sg pt nm := NetM_fr hF (by rw [(hF 0 (by decide)).1]) (by decide) hMb
        refine ⟨M1, ?_, hF, hv⟩
        unfold Mo_lay_B220
        simp only
        rw [hM1.1, if_pos (by rw [nI_leI (by omega) (by omega)]; omega)])
      ((0 : Int32), Mb) ⟨Mb, rfl, Fr.rf, fun i k hi => by omega⟩
    rw [c1]
    have h0e : Mc.1 0 = (u_i M 0 15 1).1 0 := by rw [(c2 0 (by decide)).1, (b2 0 (by decide)).1, (a2 0 (by decide)).1]
    refine ⟨Mc, rfl, Fr.tr (Fr.i 0 Fr.rf (by decide)) (Fr.tr (Fr.sub a2 (by decide)) (Fr.tr (Fr.sub b2 (by decide)) (Fr.sub c2 (by decide)))), fun x hx => by rw [h0e, u_i_k hx], by rw [h0e, u_i_e], fun i k hi hk => ⟨?_, c3 i k hi hk⟩⟩
    rw [(c2 12 (by decide)).1]
    exact b3 i k hi hk
  · rw [if_neg (by rw [h1]; decide)]
    exact ⟨M, rfl, Fr.rf, fun _ _ => rfl, h1, hv⟩
end LB
