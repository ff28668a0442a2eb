def Le_foundOf (p1 : Int32) (M : QM) : Option (Int32) :=
  (if p1 < 0 then some (41 : Int32) else (if (60 : Int32) ≤ p1 then some (41 : Int32) else ck (inb p1 60) (some (M.1 32 p1.toNatClampNeg))))

set_option maxRecDepth 20000 in
set_option maxHeartbeats 2000000 in
theorem S_Le_foundOf  {p1 : Int32} {M : QM} {res : Int32} (h : Le_foundOf p1 M = some res) : Cn yX2_foundOf cX2_foundOf 2 (some .int) 0 SHK [.ref 31, .int p1] M (some (.int res)) M := by
  refine q_enter (L := [(0, .ref 31), (1, .int p1)]) (by decide) (Nat.le_of_ble_eq_true rfl) rfl ?_
  intro C hc hSH hr hM
  have hc : OKX C RX2 cX2_foundOf 2 0 (some .int) := hc
  unfold Le_foundOf at h
  refine x_iload_n hc dX2_foundOf_0 rfl 1 rfl ?_
  refine x_if_lt (tgt := 19) hc dX2_foundOf_1 (by decide) (fun hb => ?_) (fun hb => ?_)
  · have h := ite_t hb h
    refine x_bipush hc dX2_foundOf_19 kb_41 ?_
    cases h
    exact x_iret hc dX2_foundOf_21 hr hM
  · have h := ite_f hb h
    refine x_iload_n hc dX2_foundOf_4 rfl 1 rfl ?_
    refine x_bipush hc dX2_foundOf_5 kb_60 ?_
    refine x_icmp_ge (tgt := 19) hc dX2_foundOf_7 (by decide) (fun hb => ?_) (fun hb => ?_)
    · have h := ite_t hb h
      refine x_bipush hc dX2_foundOf_19 kb_41 ?_
      cases h
      exact x_iret hc dX2_foundOf_21 hr hM
    · have h := ite_f hb h
      refine x_aload_n hc dX2_foundOf_10 rfl 0 rfl ?_
      refine x_getR hc dX2_foundOf_11 fl_RX2_15 (q_s hSH sh_31) rfl ?_
      refine x_iload_n hc dX2_foundOf_14 rfl 1 rfl ?_
      obtain ⟨b1, h⟩ := ck_some h
      refine x_iald hc dX2_foundOf_15 (q_s hSH sh_32) (inb_in b1) ?_
      refine x_goto (tgt := 21) hc dX2_foundOf_16 (by decide) ?_
      cases h
      exact x_iret hc dX2_foundOf_21 hr hM

def Le_leastOfParts_B5 (x1 : Int32) (M : QM) (v : Int32 × Int32) : Option ((Int32) ⊕ (Int32 × Int32)) :=
  (if (8 : Int32) ≤ v.2 then some (.inl v.1) else Option.bind (Ne_partAt x1 v.2 M) (fun q1 => Option.bind (Le_foundOf q1 M) (fun q2 => some (.inr (if q2 < v.1 then q2 else v.1, v.2 + (1 : Int32))))))

set_option maxRecDepth 20000 in
set_option maxHeartbeats 2000000 in
theorem S_Le_leastOfParts_B5 {C : QC} (hc : OKX C RX2 cX2_leastOfParts 4 1 (some .int)) (hSH : q_SH C = SHK) (x1 : Int32) (M : QM) (v : Int32 × Int32) {res : (Int32) ⊕ (Int32 × Int32)} (h : Le_leastOfParts_B5 x1 M v = some res) (ke : ∀ x : Int32, res = .inl x → WX C 4 35 [(2, .int x)] [] M) (kb : ∀ x : Int32 × Int32, res = .inr x → WX C 4 5 [(0, .ref 31), (1, .int x1), (2, .int x.1), (3, .int x.2)] [] M) : WX C 4 5 [(0, .ref 31), (1, .int x1), (2, .int v.1), (3, .int v.2)] [] M := by
  unfold Le_leastOfParts_B5 at h
  refine x_iload_n hc dX2_leastOfParts_5 rfl 3 rfl ?_
  refine x_bipush hc dX2_leastOfParts_6 kb_8 ?_
  refine x_icmp_ge (tgt := 35) hc dX2_leastOfParts_8 (by decide) (fun hb => ?_) (fun hb => ?_)
  · have h := ite_t hb h
    cases h
    exact x_sub (ke v.1 rfl) [2] rfl
  · have h := ite_f hb h
    refine x_iload_n hc dX2_leastOfParts_11 rfl 2 rfl ?_
    refine x_aload_n hc dX2_leastOfParts_12 rfl 0 rfl ?_
    refine x_aload_n hc dX2_leastOfParts_13 rfl 0 rfl ?_
    refine x_getR hc dX2_leastOfParts_14 fl_RX2_11 (q_s hSH sh_31) rfl ?_
    refine x_iload_n hc dX2_leastOfParts_17 rfl 1 rfl ?_
    refine x_iload_n hc dX2_leastOfParts_18 rfl 3 rfl ?_
    obtain ⟨q1, h1, h⟩ := bd_some h
    refine x_callVi (As := [.int x1, .int v.2]) (st := [.ref 31, .int v.1]) (o := 3) hc dX2_leastOfParts_19 cv_X3_partAt lk_RX2_58 (q_s hSH sh_3) rfl rfl (q_cn hSH (S_Ne_partAt h1)) (by decide) (Nat.le_of_ble_eq_true rfl) ?_
    obtain ⟨q2, h2, h⟩ := bd_some h
    refine x_callVi (As := [.int q1]) (st := [.int v.1]) (o := 31) hc dX2_leastOfParts_22 cv_X2_foundOf lk_RX2_26 (q_s hSH sh_31) rfl rfl (q_cn hSH (S_Le_foundOf h2)) (by decide) (Nat.le_of_ble_eq_true rfl) ?_
    refine x_mmin hc dX2_leastOfParts_25 mw_mmin lk_RX2_36 (by decide) (Nat.le_of_ble_eq_true rfl) ?_
    refine x_istore_n (L2 := [(2, .int (if q2 < v.1 then q2 else v.1)), (0, .ref 31), (1, .int x1), (3, .int v.2)]) hc dX2_leastOfParts_28 rfl (by decide) rfl ?_
    refine x_iinc (v := v.2 + (1 : Int32)) (L2 := [(3, .int (v.2 + (1 : Int32))), (2, .int (if q2 < v.1 then q2 else v.1)), (0, .ref 31), (1, .int x1)]) hc dX2_leastOfParts_29 3 rfl (by rw [kc_1]) (by decide) rfl ?_
    refine x_goto (tgt := 5) hc dX2_leastOfParts_32 (by decide) ?_
    cases h
    exact x_sub (kb (if q2 < v.1 then q2 else v.1, v.2 + (1 : Int32)) rfl) [2, 3, 1, 0] rfl

theorem S_Le_leastOfParts_L5 {C : QC} (hc : OKX C RX2 cX2_leastOfParts 4 1 (some .int)) (hSH : q_SH C = SHK) (x1 : Int32) (M : QM) {n : Nat} {v : Int32 × Int32} {e : Int32} (h : iter (Le_leastOfParts_B5 x1 M) n v = some e) (ke : ∀ x : Int32, e = x → WX C 4 35 [(2, .int x)] [] M) : WX C 4 5 [(0, .ref 31), (1, .int x1), (2, .int v.1), (3, .int v.2)] [] M :=
  iter_W (Wh := fun v => WX C 4 5 [(0, .ref 31), (1, .int x1), (2, .int v.1), (3, .int v.2)] [] M) (fun a res hB k1 k2 => S_Le_leastOfParts_B5 hc hSH x1 M a hB (fun x hx => ke x (k1 _ hx).symm) k2) n v h

def Le_leastOfParts (p1 : Int32) (M : QM) : Option (Int32) :=
  Option.bind (iter (Le_leastOfParts_B5 p1 M) FU ((41 : Int32), (0 : Int32))) (fun e3 => some e3)

set_option maxRecDepth 20000 in
set_option maxHeartbeats 2000000 in
theorem S_Le_leastOfParts  {p1 : Int32} {M : QM} {res : Int32} (h : Le_leastOfParts p1 M = some res) : Cn yX2_leastOfParts cX2_leastOfParts 4 (some .int) 1 SHK [.ref 31, .int p1] M (some (.int res)) M := by
  refine q_enter (L := [(0, .ref 31), (1, .int p1)]) (by decide) (Nat.le_of_ble_eq_true rfl) rfl ?_
  intro C hc hSH hr hM
  have hc : OKX C RX2 cX2_leastOfParts 4 1 (some .int) := hc
  unfold Le_leastOfParts at h
  refine x_bipush hc dX2_leastOfParts_0 kb_41 ?_
  refine x_istore_n (L2 := [(2, .int (41 : Int32)), (0, .ref 31), (1, .int p1)]) hc dX2_leastOfParts_2 rfl (by decide) rfl ?_
  refine x_iconst hc dX2_leastOfParts_3 kc_0 ?_
  refine x_istore_n (L2 := [(3, .int (0 : Int32)), (2, .int (41 : Int32)), (0, .ref 31), (1, .int p1)]) hc dX2_leastOfParts_4 rfl (by decide) rfl ?_
  obtain ⟨e3, h3, h⟩ := bd_some h
  refine x_sub (S_Le_leastOfParts_L5 hc hSH p1 M (v := ((41 : Int32), (0 : Int32))) h3 (fun x hx => ?_)) [2, 3, 1, 0] rfl
  subst hx
  refine x_iload_n hc dX2_leastOfParts_35 rfl 0 rfl ?_
  cases h
  exact x_iret hc dX2_leastOfParts_36 hr hM

def Le_sumOfParts_B4 (x1 : Int32) (M : QM) (v : Int32 × Int32) : Option ((Int32) ⊕ (Int32 × Int32)) :=
  (if (8 : Int32) ≤ v.2 then some (.inl v.1) else Option.bind (Ne_partAt x1 v.2 M) (fun q1 => (if q1 = (-6 : Int32) then some (.inr (v.1, v.2 + (1 : Int32))) else Option.bind (Le_foundOf q1 M) (fun q2 => some (.inr (v.1 + q2, v.2 + (1 : Int32)))))))

set_option maxRecDepth 20000 in
set_option maxHeartbeats 2000000 in
theorem S_Le_sumOfParts_B4 {C : QC} (hc : OKX C RX2 cX2_sumOfParts 5 1 (some .int)) (hSH : q_SH C = SHK) (x1 : Int32) (M : QM) (v : Int32 × Int32) {res : (Int32) ⊕ (Int32 × Int32)} (h : Le_sumOfParts_B4 x1 M v = some res) (ke : ∀ x : Int32, res = .inl x → WX C 5 43 [(2, .int x)] [] M) (kb : ∀ x : Int32 × Int32, res = .inr x → WX C 5 4 [(0, .ref 31), (1, .int x1), (2, .int x.1), (3, .int x.2)] [] M) : WX C 5 4 [(0, .ref 31), (1, .int x1), (2, .int v.1), (3, .int v.2)] [] M := by
  unfold Le_sumOfParts_B4 at h
  refine x_iload_n hc dX2_sumOfParts_4 rfl 3 rfl ?_
  refine x_bipush hc dX2_sumOfParts_5 kb_8 ?_
  refine x_icmp_ge (tgt := 43) hc dX2_sumOfParts_7 (by decide) (fun hb => ?_) (fun hb => ?_)
  · have h := ite_t hb h
    cases h
    exact x_sub (ke v.1 rfl) [2] rfl
  · have h := ite_f hb h
    refine x_aload_n hc dX2_sumOfParts_10 rfl 0 rfl ?_
    refine x_getR hc dX2_sumOfParts_11 fl_RX2_11 (q_s hSH sh_31) rfl ?_
    refine x_iload_n hc dX2_sumOfParts_14 rfl 1 rfl ?_
    refine x_iload_n hc dX2_sumOfParts_15 rfl 3 rfl ?_
    obtain ⟨q1, h1, h⟩ := bd_some h
    refine x_callVi (As := [.int x1, .int v.2]) (st := []) (o := 3) hc dX2_sumOfParts_16 cv_X3_partAt lk_RX2_58 (q_s hSH sh_3) rfl rfl (q_cn hSH (S_Ne_partAt h1)) (by decide) (Nat.le_of_ble_eq_true rfl) ?_
    refine x_istore (L2 := [(4, .int q1), (0, .ref 31), (1, .int x1), (2, .int v.1), (3, .int v.2)]) hc dX2_sumOfParts_19 (by decide) rfl ?_
    refine x_iload hc dX2_sumOfParts_21 0 rfl ?_
    refine x_bipush hc dX2_sumOfParts_23 kb_m6 ?_
    refine x_icmp_eq (tgt := 37) hc dX2_sumOfParts_25 (by decide) (fun hb => ?_) (fun hb => ?_)
    · have h := ite_t hb h
      refine x_iinc (v := v.2 + (1 : Int32)) (L2 := [(3, .int (v.2 + (1 : Int32))), (4, .int q1), (0, .ref 31), (1, .int x1), (2, .int v.1)]) hc dX2_sumOfParts_37 4 rfl (by rw [kc_1]) (by decide) rfl ?_
      refine x_goto (tgt := 4) hc dX2_sumOfParts_40 (by decide) ?_
      cases h
      exact x_sub (kb (v.1, v.2 + (1 : Int32)) rfl) [2, 3, 4, 0] rfl
    · have h := ite_f hb h
      refine x_iload_n hc dX2_sumOfParts_28 rfl 3 rfl ?_
      refine x_aload_n hc dX2_sumOfParts_29 rfl 1 rfl ?_
      refine x_iload hc dX2_sumOfParts_30 0 rfl ?_
      obtain ⟨q2, h2, h⟩ := bd_some h
      refine x_callVi (As := [.int q1]) (st := [.int v.1]) (o := 31) hc dX2_sumOfParts_32 cv_X2_foundOf lk_RX2_26 (q_s hSH sh_31) rfl rfl (q_cn hSH (S_Le_foundOf h2)) (by decide) (Nat.le_of_ble_eq_true rfl) ?_
      refine x_iadd hc dX2_sumOfParts_35 ?_
      refine x_istore_n (L2 := [(2, .int (v.1 + q2)), (4, .int q1), (0, .ref 31), (1, .int x1), (3, .int v.2)]) hc dX2_sumOfParts_36 rfl (by decide) rfl ?_
      refine x_iinc (v := v.2 + (1 : Int32)) (L2 := [(3, .int (v.2 + (1 : Int32))), (2, .int (v.1 + q2)), (4, .int q1), (0, .ref 31), (1, .int x1)]) hc dX2_sumOfParts_37 4 rfl (by rw [kc_1]) (by decide) rfl ?_
      refine x_goto (tgt := 4) hc dX2_sumOfParts_40 (by decide) ?_
      cases h
      exact x_sub (kb (v.1 + q2, v.2 + (1 : Int32)) rfl) [3, 4, 1, 0] rfl

theorem S_Le_sumOfParts_L4 {C : QC} (hc : OKX C RX2 cX2_sumOfParts 5 1 (some .int)) (hSH : q_SH C = SHK) (x1 : Int32) (M : QM) {n : Nat} {v : Int32 × Int32} {e : Int32} (h : iter (Le_sumOfParts_B4 x1 M) n v = some e) (ke : ∀ x : Int32, e = x → WX C 5 43 [(2, .int x)] [] M) : WX C 5 4 [(0, .ref 31), (1, .int x1), (2, .int v.1), (3, .int v.2)] [] M :=
  iter_W (Wh := fun v => WX C 5 4 [(0, .ref 31), (1, .int x1), (2, .int v.1), (3, .int v.2)] [] M) (fun a res hB k1 k2 => S_Le_sumOfParts_B4 hc hSH x1 M a hB (fun x hx => ke x (k1 _ hx).symm) k2) n v h

def Le_sumOfParts (p1 : Int32) (M : QM) : Option (Int32) :=
  Option.bind (iter (Le_sumOfParts_B4 p1 M) FU ((0 : Int32), (0 : Int32))) (fun e3 => some e3)

set_option maxRecDepth 20000 in
set_option maxHeartbeats 2000000 in
theorem S_Le_sumOfParts  {p1 : Int32} {M : QM} {res : Int32} (h : Le_sumOfParts p1 M = some res) : Cn yX2_sumOfParts cX2_sumOfParts 5 (some .int) 1 SHK [.ref 31, .int p1] M (some (.int res)) M := by
  refine q_enter (L := [(0, .ref 31), (1, .int p1)]) (by decide) (Nat.le_of_ble_eq_true rfl) rfl ?_
  intro C hc hSH hr hM
  have hc : OKX C RX2 cX2_sumOfParts 5 1 (some .int) := hc
  unfold Le_sumOfParts at h
  refine x_iconst hc dX2_sumOfParts_0 kc_0 ?_
  refine x_istore_n (L2 := [(2, .int (0 : Int32)), (0, .ref 31), (1, .int p1)]) hc dX2_sumOfParts_1 rfl (by decide) rfl ?_
  refine x_iconst hc dX2_sumOfParts_2 kc_0 ?_
  refine x_istore_n (L2 := [(3, .int (0 : Int32)), (2, .int (0 : Int32)), (0, .ref 31), (1, .int p1)]) hc dX2_sumOfParts_3 rfl (by decide) rfl ?_
  obtain ⟨e3, h3, h⟩ := bd_some h
  refine x_sub (S_Le_sumOfParts_L4 hc hSH p1 M (v := ((0 : Int32), (0 : Int32))) h3 (fun x hx => ?_)) [2, 3, 1, 0] rfl
  subst hx
  refine x_iload_n hc dX2_sumOfParts_43 rfl 0 rfl ?_
  cases h
  exact x_iret hc dX2_sumOfParts_44 hr hM

def Le_sizeByParts (p1 : Int32) (M : QM) : Option (Int32) :=
  Option.bind (Ne_signOf p1 M) (fun q1 => (if q1 = 42 then some (1 : Int32) else if q1 = 91 then Option.bind (Le_leastOfParts p1 M) (fun q3 => some ((1 : Int32) + q3)) else if q1 = 110 then some (1 : Int32) else if q1 = 115 then some (1 : Int32) else if q1 = 116 then some (1 : Int32) else if q1 = 123 then Option.bind (Le_sumOfParts p1 M) (fun q8 => some ((1 : Int32) + q8)) else some (41 : Int32)))

set_option maxRecDepth 20000 in
set_option maxHeartbeats 2000000 in
theorem S_Le_sizeByParts  {p1 : Int32} {M : QM} {res : Int32} (h : Le_sizeByParts p1 M = some res) : Cn yX2_sizeByParts cX2_sizeByParts 2 (some .int) 2 SHK [.ref 31, .int p1] M (some (.int res)) M := by
  refine q_enter (L := [(0, .ref 31), (1, .int p1)]) (by decide) (Nat.le_of_ble_eq_true rfl) rfl ?_
  intro C hc hSH hr hM
  have hc : OKX C RX2 cX2_sizeByParts 2 2 (some .int) := hc
  unfold Le_sizeByParts at h
  refine x_aload_n hc dX2_sizeByParts_0 rfl 0 rfl ?_
  refine x_getR hc dX2_sizeByParts_1 fl_RX2_11 (q_s hSH sh_31) rfl ?_
  refine x_iload_n hc dX2_sizeByParts_4 rfl 1 rfl ?_
  obtain ⟨q1, h1, h⟩ := bd_some h
  refine x_callVi (As := [.int p1]) (st := []) (o := 3) hc dX2_sizeByParts_5 cv_X3_signOf lk_RX2_49 (q_s hSH sh_3) rfl rfl (q_cn hSH (S_Ne_signOf h1)) (by decide) (Nat.le_of_ble_eq_true rfl) ?_
  by_cases s2 : q1 = 42
  · have h := ite_t s2 h
    refine x_lookup (off := 60) (tgt := 68) hc dX2_sizeByParts_8 (by decide) (q_hit s2 (by decide)) (by decide) ?_
    refine x_iconst hc dX2_sizeByParts_68 kc_1 ?_
    cases h
    exact x_iret hc dX2_sizeByParts_69 hr hM
  · have h := ite_f s2 h
    by_cases s4 : q1 = 91
    · have h := ite_t s4 h
      refine x_lookup (off := 70) (tgt := 78) hc dX2_sizeByParts_8 (by decide) ((lv_osw s2 (by decide)).trans (q_hit s4 (by decide))) (by decide) ?_
      refine x_iconst hc dX2_sizeByParts_78 kc_1 ?_
      refine x_aload_n hc dX2_sizeByParts_79 rfl 0 rfl ?_
      refine x_iload_n hc dX2_sizeByParts_80 rfl 1 rfl ?_
      obtain ⟨q3, h3, h⟩ := bd_some h
      refine x_callVi (As := [.int p1]) (st := [.int (1 : Int32)]) (o := 31) hc dX2_sizeByParts_81 cv_X2_leastOfParts lk_RX2_55 (q_s hSH sh_31) rfl rfl (q_cn hSH (S_Le_leastOfParts h3)) (by decide) (Nat.le_of_ble_eq_true rfl) ?_
      refine x_iadd hc dX2_sizeByParts_84 ?_
      cases h
      exact x_iret hc dX2_sizeByParts_85 hr hM
    · have h := ite_f s4 h
      by_cases s5 : q1 = 110
      · have h := ite_t s5 h
        refine x_lookup (off := 60) (tgt := 68) hc dX2_sizeByParts_8 (by decide) ((lv_osw s2 (by decide)).trans ((lv_osw s4 (by decide)).trans (q_hit s5 (by decide)))) (by decide) ?_
        refine x_iconst hc dX2_sizeByParts_68 kc_1 ?_
        cases h
        exact x_iret hc dX2_sizeByParts_69 hr hM
      · have h := ite_f s5 h
        by_cases s6 : q1 = 115
        · have h := ite_t s6 h
          refine x_lookup (off := 60) (tgt := 68) hc dX2_sizeByParts_8 (by decide) ((lv_osw s2 (by decide)).trans ((lv_osw s4 (by decide)).trans ((lv_osw s5 (by decide)).trans (q_hit s6 (by decide))))) (by decide) ?_
          refine x_iconst hc dX2_sizeByParts_68 kc_1 ?_
          cases h
          exact x_iret hc dX2_sizeByParts_69 hr hM
        · have h := ite_f s6 h
          by_cases s7 : q1 = 116
          · have h := ite_t s7 h
            refine x_lookup (off := 60) (tgt := 68) hc dX2_sizeByParts_8 (by decide) ((lv_osw s2 (by decide)).trans ((lv_osw s4 (by decide)).trans ((lv_osw s5 (by decide)).trans ((lv_osw s6 (by decide)).trans (q_hit s7 (by decide)))))) (by decide) ?_
            refine x_iconst hc dX2_sizeByParts_68 kc_1 ?_
            cases h
            exact x_iret hc dX2_sizeByParts_69 hr hM
          · have h := ite_f s7 h
            by_cases s9 : q1 = 123
            · have h := ite_t s9 h
              refine x_lookup (off := 62) (tgt := 70) hc dX2_sizeByParts_8 (by decide) ((lv_osw s2 (by decide)).trans ((lv_osw s4 (by decide)).trans ((lv_osw s5 (by decide)).trans ((lv_osw s6 (by decide)).trans ((lv_osw s7 (by decide)).trans (q_hit s9 (by decide))))))) (by decide) ?_
              refine x_iconst hc dX2_sizeByParts_70 kc_1 ?_
              refine x_aload_n hc dX2_sizeByParts_71 rfl 0 rfl ?_
              refine x_iload_n hc dX2_sizeByParts_72 rfl 1 rfl ?_
              obtain ⟨q8, h8, h⟩ := bd_some h
              refine x_callVi (As := [.int p1]) (st := [.int (1 : Int32)]) (o := 31) hc dX2_sizeByParts_73 cv_X2_sumOfParts lk_RX2_52 (q_s hSH sh_31) rfl rfl (q_cn hSH (S_Le_sumOfParts h8)) (by decide) (Nat.le_of_ble_eq_true rfl) ?_
              refine x_iadd hc dX2_sizeByParts_76 ?_
              cases h
              exact x_iret hc dX2_sizeByParts_77 hr hM
            · have h := ite_f s9 h
              refine x_lookup (off := 78) (tgt := 86) hc dX2_sizeByParts_8 (by decide) ((lv_osw s2 (by decide)).trans ((lv_osw s4 (by decide)).trans ((lv_osw s5 (by decide)).trans ((lv_osw s6 (by decide)).trans ((lv_osw s7 (by decide)).trans ((lv_osw s9 (by decide)).trans rfl)))))) (by decide) ?_
              refine x_bipush hc dX2_sizeByParts_86 kb_41 ?_
              cases h
              exact x_iret hc dX2_sizeByParts_88 hr hM

def Le_lessen_B6 (v : Int32 × Int32 × QM) : Option ((Int32 × QM) ⊕ (Int32 × Int32 × QM)) :=
  (if v.2.1 < (v.2.2.1 31 2) then some (.inl (v.1, v.2.2)) else (if v.2.1 < 0 then some (.inl (v.1, v.2.2)) else Option.bind (Le_sizeByParts v.2.1 v.2.2) (fun q1 => (if (60 : Int32) ≤ v.2.1 then some (.inr (v.1, v.2.1 - (1 : Int32), v.2.2)) else ck (inb v.2.1 60) ((if (v.2.2.1 32 v.2.1.toNatClampNeg) ≤ (if q1 < (41 : Int32) then q1 else (41 : Int32)) then some (.inr (v.1, v.2.1 - (1 : Int32), v.2.2)) else ck (inb v.2.1 60) (some (.inr ((1 : Int32), v.2.1 - (1 : Int32), u_i v.2.2 32 v.2.1.toNatClampNeg (if q1 < (41 : Int32) then q1 else (41 : Int32)))))))))))

set_option maxRecDepth 20000 in
set_option maxHeartbeats 2000000 in
theorem S_Le_lessen_B6 {C : QC} (hc : OKX C RX2 cX2_lessen 5 3 (some .boolean)) (hSH : q_SH C = SHK) (v : Int32 × Int32 × QM) {res : (Int32 × QM) ⊕ (Int32 × Int32 × QM)} (h : Le_lessen_B6 v = some res) (ke : ∀ x : Int32 × QM, res = .inl x → WX C 5 63 [(2, .int x.1)] [] x.2) (kb : ∀ x : Int32 × Int32 × QM, res = .inr x → WX C 5 6 [(0, .ref 31), (2, .int x.1), (3, .int x.2.1)] [] x.2.2) : WX C 5 6 [(0, .ref 31), (2, .int v.1), (3, .int v.2.1)] [] v.2.2 := by
  unfold Le_lessen_B6 at h
  refine x_iload_n hc dX2_lessen_6 rfl 2 rfl ?_
  refine x_aload_n hc dX2_lessen_7 rfl 0 rfl ?_
  refine x_getI hc dX2_lessen_8 fl_RX2_19 (q_s hSH sh_31) rfl ?_
  refine x_icmp_lt (tgt := 63) hc dX2_lessen_11 (by decide) (fun hb => ?_) (fun hb => ?_)
  · have h := ite_t hb h
    cases h
    exact x_sub (ke (v.1, v.2.2) rfl) [1] rfl
  · have h := ite_f hb h
    refine x_iload_n hc dX2_lessen_14 rfl 2 rfl ?_
    refine x_if_lt (tgt := 63) hc dX2_lessen_15 (by decide) (fun hb => ?_) (fun hb => ?_)
    · have h := ite_t hb h
      cases h
      exact x_sub (ke (v.1, v.2.2) rfl) [1] rfl
    · have h := ite_f hb h
      refine x_bipush hc dX2_lessen_18 kb_41 ?_
      refine x_aload_n hc dX2_lessen_20 rfl 0 rfl ?_
      refine x_iload_n hc dX2_lessen_21 rfl 2 rfl ?_
      obtain ⟨q1, h1, h⟩ := bd_some h
      refine x_callVi (As := [.int v.2.1]) (st := [.int (41 : Int32)]) (o := 31) hc dX2_lessen_22 cv_X2_sizeByParts lk_RX2_46 (q_s hSH sh_31) rfl rfl (q_cn hSH (S_Le_sizeByParts h1)) (by decide) (Nat.le_of_ble_eq_true rfl) ?_
      refine x_mmin hc dX2_lessen_25 mw_mmin lk_RX2_36 (by decide) (Nat.le_of_ble_eq_true rfl) ?_
      refine x_istore (L2 := [(4, .int (if q1 < (41 : Int32) then q1 else (41 : Int32))), (0, .ref 31), (2, .int v.1), (3, .int v.2.1)]) hc dX2_lessen_28 (by decide) rfl ?_
      refine x_iload_n hc dX2_lessen_30 rfl 3 rfl ?_
      refine x_bipush hc dX2_lessen_31 kb_60 ?_
      refine x_icmp_ge (tgt := 57) hc dX2_lessen_33 (by decide) (fun hb => ?_) (fun hb => ?_)
      · have h := ite_t hb h
        refine x_iinc (v := v.2.1 - (1 : Int32)) (L2 := [(3, .int (v.2.1 - (1 : Int32))), (4, .int (if q1 < (41 : Int32) then q1 else (41 : Int32))), (0, .ref 31), (2, .int v.1)]) hc dX2_lessen_57 3 rfl (q_dec _) (by decide) rfl ?_
        refine x_goto (tgt := 6) hc dX2_lessen_60 (by decide) ?_
        cases h
        exact x_sub (kb (v.1, v.2.1 - (1 : Int32), v.2.2) rfl) [2, 3, 0] rfl
      · have h := ite_f hb h
        refine x_iload hc dX2_lessen_36 0 rfl ?_
        refine x_aload_n hc dX2_lessen_38 rfl 1 rfl ?_
        refine x_getR hc dX2_lessen_39 fl_RX2_15 (q_s hSH sh_31) rfl ?_
        refine x_iload_n hc dX2_lessen_42 rfl 3 rfl ?_
        obtain ⟨b2, h⟩ := ck_some h
        refine x_iald hc dX2_lessen_43 (q_s hSH sh_32) (inb_in b2) ?_
        refine x_icmp_ge (tgt := 57) hc dX2_lessen_44 (by decide) (fun hb => ?_) (fun hb => ?_)
        · have h := ite_t hb h
          refine x_iinc (v := v.2.1 - (1 : Int32)) (L2 := [(3, .int (v.2.1 - (1 : Int32))), (4, .int (if q1 < (41 : Int32) then q1 else (41 : Int32))), (0, .ref 31), (2, .int v.1)]) hc dX2_lessen_57 3 rfl (q_dec _) (by decide) rfl ?_
          refine x_goto (tgt := 6) hc dX2_lessen_60 (by decide) ?_
          cases h
          exact x_sub (kb (v.1, v.2.1 - (1 : Int32), v.2.2) rfl) [2, 3, 0] rfl
        · have h := ite_f hb h
          refine x_aload_n hc dX2_lessen_47 rfl 1 rfl ?_
          refine x_getR hc dX2_lessen_48 fl_RX2_15 (q_s hSH sh_31) rfl ?_
          refine x_iload_n hc dX2_lessen_51 rfl 3 rfl ?_
          refine x_iload hc dX2_lessen_52 0 rfl ?_
          obtain ⟨b3, h⟩ := ck_some h
          refine x_iast hc dX2_lessen_54 (q_s hSH sh_32) (inb_in b3) ?_
          refine x_iconst hc dX2_lessen_55 kc_1 ?_
          refine x_istore_n (L2 := [(2, .int (1 : Int32)), (4, .int (if q1 < (41 : Int32) then q1 else (41 : Int32))), (0, .ref 31), (3, .int v.2.1)]) hc dX2_lessen_56 rfl (by decide) rfl ?_
          refine x_iinc (v := v.2.1 - (1 : Int32)) (L2 := [(3, .int (v.2.1 - (1 : Int32))), (2, .int (1 : Int32)), (4, .int (if q1 < (41 : Int32) then q1 else (41 : Int32))), (0, .ref 31)]) hc dX2_lessen_57 3 rfl (q_dec _) (by decide) rfl ?_
          refine x_goto (tgt := 6) hc dX2_lessen_60 (by decide) ?_
          cases h
          exact x_sub (kb ((1 : Int32), v.2.1 - (1 : Int32), u_i v.2.2 32 v.2.1.toNatClampNeg (if q1 < (41 : Int32) then q1 else (41 : Int32))) rfl) [3, 1, 0] rfl

theorem S_Le_lessen_L6 {C : QC} (hc : OKX C RX2 cX2_lessen 5 3 (some .boolean)) (hSH : q_SH C = SHK) {n : Nat} {v : Int32 × Int32 × QM} {e : Int32 × QM} (h : iter (Le_lessen_B6) n v = some e) (ke : ∀ x : Int32 × QM, e = x → WX C 5 63 [(2, .int x.1)] [] x.2) : WX C 5 6 [(0, .ref 31), (2, .int v.1), (3, .int v.2.1)] [] v.2.2 :=
  iter_W (Wh := fun v => WX C 5 6 [(0, .ref 31), (2, .int v.1), (3, .int v.2.1)] [] v.2.2) (fun a res hB k1 k2 => S_Le_lessen_B6 hc hSH a hB (fun x hx => ke x (k1 _ hx).symm) k2) n v h

def Le_lessen (p1 : Int32) (M : QM) : Option (Int32 × QM) :=
  Option.bind (iter (Le_lessen_B6) FU ((0 : Int32), p1 - (1 : Int32), M)) (fun e4 => ck (isb e4.1) (some (e4.1, e4.2)))

set_option maxRecDepth 20000 in
set_option maxHeartbeats 2000000 in
theorem S_Le_lessen  {p1 : Int32} {M : QM} {res : Int32 × QM} (h : Le_lessen p1 M = some res) : Cn yX2_lessen cX2_lessen 5 (some .boolean) 3 SHK [.ref 31, .int p1] M (some (.int res.1)) res.2 := by
  refine q_enter (L := [(0, .ref 31), (1, .int p1)]) (by decide) (Nat.le_of_ble_eq_true rfl) rfl ?_
  intro C hc hSH hr hM
  have hc : OKX C RX2 cX2_lessen 5 3 (some .boolean) := hc
  unfold Le_lessen at h
  refine x_iconst hc dX2_lessen_0 kc_0 ?_
  refine x_istore_n (L2 := [(2, .int (0 : Int32)), (0, .ref 31), (1, .int p1)]) hc dX2_lessen_1 rfl (by decide) rfl ?_
  refine x_iload_n hc dX2_lessen_2 rfl 2 rfl ?_
  refine x_iconst hc dX2_lessen_3 kc_1 ?_
  refine x_isub hc dX2_lessen_4 ?_
  refine x_istore_n (L2 := [(3, .int (p1 - (1 : Int32))), (2, .int (0 : Int32)), (0, .ref 31), (1, .int p1)]) hc dX2_lessen_5 rfl (by decide) rfl ?_
  obtain ⟨e4, h4, h⟩ := bd_some h
  refine x_sub (S_Le_lessen_L6 hc hSH (v := ((0 : Int32), p1 - (1 : Int32), M)) h4 (fun x hx => ?_)) [2, 1, 0] rfl
  subst hx
  refine x_iload_n hc dX2_lessen_63 rfl 0 rfl ?_
  obtain ⟨b5, h⟩ := ck_some h
  cases h
  exact x_zret hc dX2_lessen_64 (isb_nar b5) hr hM

def Le_catchUp_B34 (x1 : Int32) (v : Int32 × QM) : Option ((QM) ⊕ (Int32 × QM)) :=
  (if x1 ≤ v.1 then some (.inl v.2) else ck (inb v.1 60) (some (.inr (v.1 + (1 : Int32), u_i v.2 32 v.1.toNatClampNeg (41 : Int32)))))

set_option maxRecDepth 20000 in
set_option maxHeartbeats 2000000 in
theorem S_Le_catchUp_B34 {C : QC} (hc : OKX C RX2 cX2_catchUp 4 4 none) (hSH : q_SH C = SHK) (x1 : Int32) (v : Int32 × QM) {res : (QM) ⊕ (Int32 × QM)} (h : Le_catchUp_B34 x1 v = some res) (ke : ∀ x : QM, res = .inl x → WX C 4 53 [(0, .ref 31), (1, .int x1)] [] x) (kb : ∀ x : Int32 × QM, res = .inr x → WX C 4 34 [(0, .ref 31), (1, .int x1), (2, .int x.1)] [] x.2) : WX C 4 34 [(0, .ref 31), (1, .int x1), (2, .int v.1)] [] v.2 := by
  unfold Le_catchUp_B34 at h
  refine x_iload_n hc dX2_catchUp_34 rfl 2 rfl ?_
  refine x_iload_n hc dX2_catchUp_35 rfl 1 rfl ?_
  refine x_icmp_ge (tgt := 53) hc dX2_catchUp_36 (by decide) (fun hb => ?_) (fun hb => ?_)
  · have h := ite_t hb h
    cases h
    exact x_sub (ke v.2 rfl) [0, 1] rfl
  · have h := ite_f hb h
    refine x_aload_n hc dX2_catchUp_39 rfl 0 rfl ?_
    refine x_getR hc dX2_catchUp_40 fl_RX2_15 (q_s hSH sh_31) rfl ?_
    refine x_iload_n hc dX2_catchUp_43 rfl 2 rfl ?_
    refine x_bipush hc dX2_catchUp_44 kb_41 ?_
    obtain ⟨b2, h⟩ := ck_some h
    refine x_iast hc dX2_catchUp_46 (q_s hSH sh_32) (inb_in b2) ?_
    refine x_iinc (v := v.1 + (1 : Int32)) (L2 := [(2, .int (v.1 + (1 : Int32))), (0, .ref 31), (1, .int x1)]) hc dX2_catchUp_47 2 rfl (by rw [kc_1]) (by decide) rfl ?_
    refine x_goto (tgt := 34) hc dX2_catchUp_50 (by decide) ?_
    cases h
    exact x_sub (kb (v.1 + (1 : Int32), u_i v.2 32 v.1.toNatClampNeg (41 : Int32)) rfl) [1, 2, 0] rfl

theorem S_Le_catchUp_L34 {C : QC} (hc : OKX C RX2 cX2_catchUp 4 4 none) (hSH : q_SH C = SHK) (x1 : Int32) {n : Nat} {v : Int32 × QM} {e : QM} (h : iter (Le_catchUp_B34 x1) n v = some e) (ke : ∀ x : QM, e = x → WX C 4 53 [(0, .ref 31), (1, .int x1)] [] x) : WX C 4 34 [(0, .ref 31), (1, .int x1), (2, .int v.1)] [] v.2 :=
  iter_W (Wh := fun v => WX C 4 34 [(0, .ref 31), (1, .int x1), (2, .int v.1)] [] v.2) (fun a res hB k1 k2 => S_Le_catchUp_B34 hc hSH x1 a hB (fun x hx => ke x (k1 _ hx).symm) k2) n v h

def Le_catchUp_B57 (x1 : Int32) (v : Int32 × Int32 × QM) : Option ((QM) ⊕ (Int32 × Int32 × QM)) :=
  (if (2400 : Int32) ≤ v.2.1 then some (.inl v.2.2) else (if v.1 = 0 then some (.inl v.2.2) else Option.bind (Le_lessen x1 v.2.2) (fun q4 => some (.inr (q4.1, v.2.1 + (1 : Int32), q4.2)))))

set_option maxRecDepth 20000 in
set_option maxHeartbeats 2000000 in
theorem S_Le_catchUp_B57 {C : QC} (hc : OKX C RX2 cX2_catchUp 4 4 none) (hSH : q_SH C = SHK) (x1 : Int32) (v : Int32 × Int32 × QM) {res : (QM) ⊕ (Int32 × Int32 × QM)} (h : Le_catchUp_B57 x1 v = some res) (ke : ∀ x : QM, res = .inl x → WX C 4 80 [(0, .ref 31), (1, .int x1)] [] x) (kb : ∀ x : Int32 × Int32 × QM, res = .inr x → WX C 4 57 [(0, .ref 31), (1, .int x1), (2, .int x.1), (3, .int x.2.1)] [] x.2.2) : WX C 4 57 [(0, .ref 31), (1, .int x1), (2, .int v.1), (3, .int v.2.1)] [] v.2.2 := by
  unfold Le_catchUp_B57 at h
  refine x_iload_n hc dX2_catchUp_57 rfl 3 rfl ?_
  refine x_sipush hc dX2_catchUp_58 ks_2400 ?_
  refine x_icmp_ge (tgt := 80) hc dX2_catchUp_61 (by decide) (fun hb => ?_) (fun hb => ?_)
  · have h := ite_t hb h
    cases h
    exact x_sub (ke v.2.2 rfl) [0, 1] rfl
  · have h := ite_f hb h
    refine x_iload_n hc dX2_catchUp_64 rfl 2 rfl ?_
    refine x_if_eq (tgt := 80) hc dX2_catchUp_65 (by decide) (fun hb => ?_) (fun hb => ?_)
    · have h := ite_t hb h
      cases h
      exact x_sub (ke v.2.2 rfl) [0, 1] rfl
    · have h := ite_f hb h
      refine x_aload_n hc dX2_catchUp_68 rfl 0 rfl ?_
      refine x_iload_n hc dX2_catchUp_69 rfl 1 rfl ?_
      obtain ⟨q4, h4, h⟩ := bd_some h
      refine x_callVi (As := [.int x1]) (st := []) (o := 31) hc dX2_catchUp_70 cv_X2_lessen lk_RX2_42 (q_s hSH sh_31) rfl rfl (q_cn hSH (S_Le_lessen h4)) (by decide) (Nat.le_of_ble_eq_true rfl) ?_
      refine x_istore_n (L2 := [(2, .int q4.1), (0, .ref 31), (1, .int x1), (3, .int v.2.1)]) hc dX2_catchUp_73 rfl (by decide) rfl ?_
      refine x_iinc (v := v.2.1 + (1 : Int32)) (L2 := [(3, .int (v.2.1 + (1 : Int32))), (2, .int q4.1), (0, .ref 31), (1, .int x1)]) hc dX2_catchUp_74 3 rfl (by rw [kc_1]) (by decide) rfl ?_
      refine x_goto (tgt := 57) hc dX2_catchUp_77 (by decide) ?_
      cases h
      exact x_sub (kb (q4.1, v.2.1 + (1 : Int32), q4.2) rfl) [2, 3, 1, 0] rfl

theorem S_Le_catchUp_L57 {C : QC} (hc : OKX C RX2 cX2_catchUp 4 4 none) (hSH : q_SH C = SHK) (x1 : Int32) {n : Nat} {v : Int32 × Int32 × QM} {e : QM} (h : iter (Le_catchUp_B57 x1) n v = some e) (ke : ∀ x : QM, e = x → WX C 4 80 [(0, .ref 31), (1, .int x1)] [] x) : WX C 4 57 [(0, .ref 31), (1, .int x1), (2, .int v.1), (3, .int v.2.1)] [] v.2.2 :=
  iter_W (Wh := fun v => WX C 4 57 [(0, .ref 31), (1, .int x1), (2, .int v.1), (3, .int v.2.1)] [] v.2.2) (fun a res hB k1 k2 => S_Le_catchUp_B57 hc hSH x1 a hB (fun x hx => ke x (k1 _ hx).symm) k2) n v h

def Le_catchUp_J80 (x1 : Int32) (M : QM) : Option (QM) :=
  some (u_i M 31 2 x1)

set_option maxRecDepth 20000 in
set_option maxHeartbeats 2000000 in
theorem S_Le_catchUp_J80 {C : QC} (hc : OKX C RX2 cX2_catchUp 4 4 none) (hSH : q_SH C = SHK) (x1 : Int32) (M : QM) {res : QM} (h : Le_catchUp_J80 x1 M = some res) (hr : q_r C = none) (hM : q_M C = res) : WX C 4 80 [(0, .ref 31), (1, .int x1)] [] M := by
  unfold Le_catchUp_J80 at h
  refine x_aload_n hc dX2_catchUp_80 rfl 0 rfl ?_
  refine x_iload_n hc dX2_catchUp_81 rfl 1 rfl ?_
  refine x_putI hc dX2_catchUp_82 fl_RX2_19 (fw_2_2 _) (q_s hSH sh_31) rfl ?_
  cases h
  exact x_vret hc dX2_catchUp_85 hr hM

def Le_catchUp (M : QM) : Option (QM) :=
  Option.bind (Ne_nodes M) (fun q1 => (if (M.1 31 2) < 0 then some M else (if (M.1 31 2) < (if (60 : Int32) < q1 then (60 : Int32) else q1) then Option.bind (iter (Le_catchUp_B34 (if (60 : Int32) < q1 then (60 : Int32) else q1)) FU (M.1 31 2, M)) (fun e3 => Option.bind (iter (Le_catchUp_B57 (if (60 : Int32) < q1 then (60 : Int32) else q1)) FU ((1 : Int32), (0 : Int32), e3)) (fun e5 => Le_catchUp_J80 (if (60 : Int32) < q1 then (60 : Int32) else q1) e5)) else some M)))

set_option maxRecDepth 20000 in
set_option maxHeartbeats 2000000 in
theorem S_Le_catchUp  {M : QM} {res : QM} (h : Le_catchUp M = some res) : Cn yX2_catchUp cX2_catchUp 4 none 4 SHK [.ref 31] M (none) res := by
  refine q_enter (L := [(0, .ref 31)]) (by decide) (Nat.le_of_ble_eq_true rfl) rfl ?_
  intro C hc hSH hr hM
  have hc : OKX C RX2 cX2_catchUp 4 4 none := hc
  unfold Le_catchUp at h
  refine x_aload_n hc dX2_catchUp_0 rfl 0 rfl ?_
  refine x_getR hc dX2_catchUp_1 fl_RX2_11 (q_s hSH sh_31) rfl ?_
  obtain ⟨q1, h1, h⟩ := bd_some h
  refine x_callVi (As := []) (st := []) (o := 3) hc dX2_catchUp_4 cv_X3_nodes lk_RX2_30 (q_s hSH sh_3) rfl rfl (q_cn hSH (S_Ne_nodes h1)) (by decide) (Nat.le_of_ble_eq_true rfl) ?_
  refine x_bipush hc dX2_catchUp_7 kb_60 ?_
  refine x_mmin hc dX2_catchUp_9 mw_mmin lk_RX2_36 (by decide) (Nat.le_of_ble_eq_true rfl) ?_
  refine x_istore_n (L2 := [(1, .int (if (60 : Int32) < q1 then (60 : Int32) else q1)), (0, .ref 31)]) hc dX2_catchUp_12 rfl (by decide) rfl ?_
  refine x_aload_n hc dX2_catchUp_13 rfl 1 rfl ?_
  refine x_getI hc dX2_catchUp_14 fl_RX2_19 (q_s hSH sh_31) rfl ?_
  refine x_if_lt (tgt := 28) hc dX2_catchUp_17 (by decide) (fun hb => ?_) (fun hb => ?_)
  · have h := ite_t hb h
    cases h
    exact x_vret hc dX2_catchUp_28 hr hM
  · have h := ite_f hb h
    refine x_aload_n hc dX2_catchUp_20 rfl 1 rfl ?_
    refine x_getI hc dX2_catchUp_21 fl_RX2_19 (q_s hSH sh_31) rfl ?_
    refine x_iload_n hc dX2_catchUp_24 rfl 0 rfl ?_
    refine x_icmp_lt (tgt := 29) hc dX2_catchUp_25 (by decide) (fun hb => ?_) (fun hb => ?_)
    · have h := ite_t hb h
      refine x_aload_n hc dX2_catchUp_29 rfl 1 rfl ?_
      refine x_getI hc dX2_catchUp_30 fl_RX2_19 (q_s hSH sh_31) rfl ?_
      refine x_istore_n (L2 := [(2, .int (M.1 31 2)), (1, .int (if (60 : Int32) < q1 then (60 : Int32) else q1)), (0, .ref 31)]) hc dX2_catchUp_33 rfl (by decide) rfl ?_
      obtain ⟨e3, h3, h⟩ := bd_some h
      refine x_sub (S_Le_catchUp_L34 hc hSH (if (60 : Int32) < q1 then (60 : Int32) else q1) (v := (M.1 31 2, M)) h3 (fun x hx => ?_)) [2, 1, 0] rfl
      subst hx
      refine x_iconst hc dX2_catchUp_53 kc_1 ?_
      refine x_istore_n (L2 := [(2, .int (1 : Int32)), (0, .ref 31), (1, .int (if (60 : Int32) < q1 then (60 : Int32) else q1))]) hc dX2_catchUp_54 rfl (by decide) rfl ?_
      refine x_iconst hc dX2_catchUp_55 kc_0 ?_
      refine x_istore_n (L2 := [(3, .int (0 : Int32)), (2, .int (1 : Int32)), (0, .ref 31), (1, .int (if (60 : Int32) < q1 then (60 : Int32) else q1))]) hc dX2_catchUp_56 rfl (by decide) rfl ?_
      obtain ⟨e5, h5, h⟩ := bd_some h
      refine x_sub (S_Le_catchUp_L57 hc hSH (if (60 : Int32) < q1 then (60 : Int32) else q1) (v := ((1 : Int32), (0 : Int32), e3)) h5 (fun x hx => ?_)) [2, 3, 1, 0] rfl
      subst hx
      exact x_sub (S_Le_catchUp_J80 hc hSH (if (60 : Int32) < q1 then (60 : Int32) else q1) e5 h hr hM) [0, 1] rfl
    · have h := ite_f hb h
      cases h
      exact x_vret hc dX2_catchUp_28 hr hM

def Le_emptyNodes_B8 (M : QM) (v : Int32 × Int32) : Option ((Int32) ⊕ (Int32 × Int32)) :=
  Option.bind (Ne_nodes M) (fun q2 => (if q2 ≤ v.2 then some (.inl v.1) else Option.bind (Le_foundOf v.2 M) (fun q3 => (if q3 ≤ (40 : Int32) then some (.inr (v.1, v.2 + (1 : Int32))) else some (.inr (v.1 + (1 : Int32), v.2 + (1 : Int32)))))))

set_option maxRecDepth 20000 in
set_option maxHeartbeats 2000000 in
theorem S_Le_emptyNodes_B8 {C : QC} (hc : OKX C RX2 cX2_emptyNodes 3 5 (some .int)) (hSH : q_SH C = SHK) (M : QM) (v : Int32 × Int32) {res : (Int32) ⊕ (Int32 × Int32)} (h : Le_emptyNodes_B8 M v = some res) (ke : ∀ x : Int32, res = .inl x → WX C 3 38 [(1, .int x)] [] M) (kb : ∀ x : Int32 × Int32, res = .inr x → WX C 3 8 [(0, .ref 31), (1, .int x.1), (2, .int x.2)] [] M) : WX C 3 8 [(0, .ref 31), (1, .int v.1), (2, .int v.2)] [] M := by
  unfold Le_emptyNodes_B8 at h
  refine x_iload_n hc dX2_emptyNodes_8 rfl 2 rfl ?_
  refine x_aload_n hc dX2_emptyNodes_9 rfl 0 rfl ?_
  refine x_getR hc dX2_emptyNodes_10 fl_RX2_11 (q_s hSH sh_31) rfl ?_
  obtain ⟨q2, h2, h⟩ := bd_some h
  refine x_callVi (As := []) (st := [.int v.2]) (o := 3) hc dX2_emptyNodes_13 cv_X3_nodes lk_RX2_30 (q_s hSH sh_3) rfl rfl (q_cn hSH (S_Ne_nodes h2)) (by decide) (Nat.le_of_ble_eq_true rfl) ?_
  refine x_icmp_ge (tgt := 38) hc dX2_emptyNodes_16 (by decide) (fun hb => ?_) (fun hb => ?_)
  · have h := ite_t hb h
    cases h
    exact x_sub (ke v.1 rfl) [1] rfl
  · have h := ite_f hb h
    refine x_aload_n hc dX2_emptyNodes_19 rfl 0 rfl ?_
    refine x_iload_n hc dX2_emptyNodes_20 rfl 2 rfl ?_
    obtain ⟨q3, h3, h⟩ := bd_some h
    refine x_callVi (As := [.int v.2]) (st := []) (o := 31) hc dX2_emptyNodes_21 cv_X2_foundOf lk_RX2_26 (q_s hSH sh_31) rfl rfl (q_cn hSH (S_Le_foundOf h3)) (by decide) (Nat.le_of_ble_eq_true rfl) ?_
    refine x_bipush hc dX2_emptyNodes_24 kb_40 ?_
    refine x_icmp_le (tgt := 32) hc dX2_emptyNodes_26 (by decide) (fun hb => ?_) (fun hb => ?_)
    · have h := ite_t hb h
      refine x_iinc (v := v.2 + (1 : Int32)) (L2 := [(2, .int (v.2 + (1 : Int32))), (0, .ref 31), (1, .int v.1)]) hc dX2_emptyNodes_32 2 rfl (by rw [kc_1]) (by decide) rfl ?_
      refine x_goto (tgt := 8) hc dX2_emptyNodes_35 (by decide) ?_
      cases h
      exact x_sub (kb (v.1, v.2 + (1 : Int32)) rfl) [1, 2, 0] rfl
    · have h := ite_f hb h
      refine x_iinc (v := v.1 + (1 : Int32)) (L2 := [(1, .int (v.1 + (1 : Int32))), (0, .ref 31), (2, .int v.2)]) hc dX2_emptyNodes_29 1 rfl (by rw [kc_1]) (by decide) rfl ?_
      refine x_iinc (v := v.2 + (1 : Int32)) (L2 := [(2, .int (v.2 + (1 : Int32))), (1, .int (v.1 + (1 : Int32))), (0, .ref 31)]) hc dX2_emptyNodes_32 2 rfl (by rw [kc_1]) (by decide) rfl ?_
      refine x_goto (tgt := 8) hc dX2_emptyNodes_35 (by decide) ?_
      cases h
      exact x_sub (kb (v.1 + (1 : Int32), v.2 + (1 : Int32)) rfl) [2, 1, 0] rfl

theorem S_Le_emptyNodes_L8 {C : QC} (hc : OKX C RX2 cX2_emptyNodes 3 5 (some .int)) (hSH : q_SH C = SHK) (M : QM) {n : Nat} {v : Int32 × Int32} {e : Int32} (h : iter (Le_emptyNodes_B8 M) n v = some e) (ke : ∀ x : Int32, e = x → WX C 3 38 [(1, .int x)] [] M) : WX C 3 8 [(0, .ref 31), (1, .int v.1), (2, .int v.2)] [] M :=
  iter_W (Wh := fun v => WX C 3 8 [(0, .ref 31), (1, .int v.1), (2, .int v.2)] [] M) (fun a res hB k1 k2 => S_Le_emptyNodes_B8 hc hSH M a hB (fun x hx => ke x (k1 _ hx).symm) k2) n v h

def Le_emptyNodes (M : QM) : Option (Int32 × QM) :=
  Option.bind (Le_catchUp M) (fun q1 => Option.bind (iter (Le_emptyNodes_B8 q1) FU ((0 : Int32), (0 : Int32))) (fun e4 => some (e4, q1)))

set_option maxRecDepth 20000 in
set_option maxHeartbeats 2000000 in
theorem S_Le_emptyNodes  {M : QM} {res : Int32 × QM} (h : Le_emptyNodes M = some res) : Cn yX2_emptyNodes cX2_emptyNodes 3 (some .int) 5 SHK [.ref 31] M (some (.int res.1)) res.2 := by
  refine q_enter (L := [(0, .ref 31)]) (by decide) (Nat.le_of_ble_eq_true rfl) rfl ?_
  intro C hc hSH hr hM
  have hc : OKX C RX2 cX2_emptyNodes 3 5 (some .int) := hc
  unfold Le_emptyNodes at h
  refine x_aload_n hc dX2_emptyNodes_0 rfl 0 rfl ?_
  obtain ⟨q1, h1, h⟩ := bd_some h
  refine x_callVv (As := []) (st := []) (o := 31) hc dX2_emptyNodes_1 cv_X2_catchUp lk_RX2_23 (q_s hSH sh_31) rfl rfl (q_cn hSH (S_Le_catchUp h1)) (by decide) (Nat.le_of_ble_eq_true rfl) ?_
  refine x_iconst hc dX2_emptyNodes_4 kc_0 ?_
  refine x_istore_n (L2 := [(1, .int (0 : Int32)), (0, .ref 31)]) hc dX2_emptyNodes_5 rfl (by decide) rfl ?_
  refine x_iconst hc dX2_emptyNodes_6 kc_0 ?_
  refine x_istore_n (L2 := [(2, .int (0 : Int32)), (1, .int (0 : Int32)), (0, .ref 31)]) hc dX2_emptyNodes_7 rfl (by decide) rfl ?_
  obtain ⟨e4, h4, h⟩ := bd_some h
  refine x_sub (S_Le_emptyNodes_L8 hc hSH q1 (v := ((0 : Int32), (0 : Int32))) h4 (fun x hx => ?_)) [2, 1, 0] rfl
  subst hx
  refine x_iload_n hc dX2_emptyNodes_38 rfl 0 rfl ?_
  cases h
  exact x_iret hc dX2_emptyNodes_39 hr hM

def Le_forget (M : QM) : Option (QM) :=
  some (u_i M 31 2 (0 : Int32))

set_option maxRecDepth 20000 in
set_option maxHeartbeats 2000000 in
theorem S_Le_forget  {M : QM} {res : QM} (h : Le_forget M = some res) : Cn yX2_forget cX2_forget 1 none 0 SHK [.ref 31] M (none) res := by
  refine q_enter (L := [(0, .ref 31)]) (by decide) (Nat.le_of_ble_eq_true rfl) rfl ?_
  intro C hc hSH hr hM
  have hc : OKX C RX2 cX2_forget 1 0 none := hc
  unfold Le_forget at h
  refine x_aload_n hc dX2_forget_0 rfl 0 rfl ?_
  refine x_iconst hc dX2_forget_1 kc_0 ?_
  refine x_putI hc dX2_forget_2 fl_RX2_19 (fw_2_2 _) (q_s hSH sh_31) rfl ?_
  cases h
  exact x_vret hc dX2_forget_5 hr hM

def Le_leastOf (p1 : Int32) (M : QM) : Option (Int32 × QM) :=
  Option.bind (Le_catchUp M) (fun q1 => Option.bind (Le_foundOf p1 q1) (fun q2 => (if q2 ≤ (40 : Int32) then Option.bind (Le_foundOf p1 q1) (fun q3 => some (q3, q1)) else some ((-6 : Int32), q1))))

set_option maxRecDepth 20000 in
set_option maxHeartbeats 2000000 in
theorem S_Le_leastOf  {p1 : Int32} {M : QM} {res : Int32 × QM} (h : Le_leastOf p1 M = some res) : Cn yX2_leastOf cX2_leastOf 2 (some .int) 5 SHK [.ref 31, .int p1] M (some (.int res.1)) res.2 := by
  refine q_enter (L := [(0, .ref 31), (1, .int p1)]) (by decide) (Nat.le_of_ble_eq_true rfl) rfl ?_
  intro C hc hSH hr hM
  have hc : OKX C RX2 cX2_leastOf 2 5 (some .int) := hc
  unfold Le_leastOf at h
  refine x_aload_n hc dX2_leastOf_0 rfl 0 rfl ?_
  obtain ⟨q1, h1, h⟩ := bd_some h
  refine x_callVv (As := []) (st := []) (o := 31) hc dX2_leastOf_1 cv_X2_catchUp lk_RX2_23 (q_s hSH sh_31) rfl rfl (q_cn hSH (S_Le_catchUp h1)) (by decide) (Nat.le_of_ble_eq_true rfl) ?_
  refine x_aload_n hc dX2_leastOf_4 rfl 0 rfl ?_
  refine x_iload_n hc dX2_leastOf_5 rfl 1 rfl ?_
  obtain ⟨q2, h2, h⟩ := bd_some h
  refine x_callVi (As := [.int p1]) (st := []) (o := 31) hc dX2_leastOf_6 cv_X2_foundOf lk_RX2_26 (q_s hSH sh_31) rfl rfl (q_cn hSH (S_Le_foundOf h2)) (by decide) (Nat.le_of_ble_eq_true rfl) ?_
  refine x_bipush hc dX2_leastOf_9 kb_40 ?_
  refine x_icmp_le (tgt := 19) hc dX2_leastOf_11 (by decide) (fun hb => ?_) (fun hb => ?_)
  · have h := ite_t hb h
    refine x_aload_n hc dX2_leastOf_19 rfl 0 rfl ?_
    refine x_iload_n hc dX2_leastOf_20 rfl 1 rfl ?_
    obtain ⟨q3, h3, h⟩ := bd_some h
    refine x_callVi (As := [.int p1]) (st := []) (o := 31) hc dX2_leastOf_21 cv_X2_foundOf lk_RX2_26 (q_s hSH sh_31) rfl rfl (q_cn hSH (S_Le_foundOf h3)) (by decide) (Nat.le_of_ble_eq_true rfl) ?_
    cases h
    exact x_iret hc dX2_leastOf_24 hr hM
  · have h := ite_f hb h
    refine x_bipush hc dX2_leastOf_14 kb_m6 ?_
    refine x_goto (tgt := 24) hc dX2_leastOf_16 (by decide) ?_
    cases h
    exact x_iret hc dX2_leastOf_24 hr hM

