def Kn_alike (p1 : Int32) (p2 : Int32) (M : QM) : Option (Int32 × QM) :=
  Option.bind (Ne_has p1 M) (fun q1 => (if q1 = 0 then some ((-1 : Int32), M) else Option.bind (Ne_has p2 M) (fun q2 => (if q2 = 0 then some ((-1 : Int32), M) else Option.bind (St_catchUp M) (fun q3 => Option.bind (St_areAlike p1 p2 q3) (fun q4 => (if q4 = 0 then some ((0 : Int32), q3) else some ((1 : Int32), q3))))))))

set_option maxRecDepth 20000 in
set_option maxHeartbeats 2000000 in
theorem S_Kn_alike  {p1 : Int32} {p2 : Int32} {M : QM} {res : Int32 × QM} (h : Kn_alike p1 p2 M = some res) : Cn yX8_alike cX8_alike 3 (some .int) 5 SHK [.ref 0, .int p1, .int p2] M (some (.int res.1)) res.2 := by
  refine q_enter (L := [(0, .ref 0), (1, .int p1), (2, .int p2)]) (by decide) (Nat.le_of_ble_eq_true rfl) rfl ?_
  intro C hc hSH hr hM
  have hc : OKX C RX8 cX8_alike 3 5 (some .int) := hc
  unfold Kn_alike at h
  refine x_aload_n hc dX8_alike_0 rfl 0 rfl ?_
  refine x_getR hc dX8_alike_1 fl_RX8_21 (q_s hSH sh_0) rfl ?_
  refine x_iload_n hc dX8_alike_4 rfl 1 rfl ?_
  obtain ⟨q1, h1, h⟩ := bd_some h
  refine x_callVi (As := [.int p1]) (st := []) (o := 3) hc dX8_alike_5 cv_X3_has lk_RX8_111 (q_s hSH sh_3) rfl rfl (q_cn hSH (S_Ne_has h1)) (by decide) (Nat.le_of_ble_eq_true rfl) ?_
  refine x_if_eq (tgt := 22) hc dX8_alike_8 (by decide) (fun hb => ?_) (fun hb => ?_)
  · have h := ite_t hb h
    refine x_iconst hc dX8_alike_22 kc_m1 ?_
    cases h
    exact x_iret hc dX8_alike_23 hr hM
  · have h := ite_f hb h
    refine x_aload_n hc dX8_alike_11 rfl 0 rfl ?_
    refine x_getR hc dX8_alike_12 fl_RX8_21 (q_s hSH sh_0) rfl ?_
    refine x_iload_n hc dX8_alike_15 rfl 2 rfl ?_
    obtain ⟨q2, h2, h⟩ := bd_some h
    refine x_callVi (As := [.int p2]) (st := []) (o := 3) hc dX8_alike_16 cv_X3_has lk_RX8_111 (q_s hSH sh_3) rfl rfl (q_cn hSH (S_Ne_has h2)) (by decide) (Nat.le_of_ble_eq_true rfl) ?_
    refine x_if_ne (tgt := 24) hc dX8_alike_19 (by decide) (fun hb => ?_) (fun hb => ?_)
    · have h := ite_f hb h
      refine x_aload_n hc dX8_alike_24 rfl 0 rfl ?_
      refine x_getR hc dX8_alike_25 fl_RX8_39 (q_s hSH sh_0) rfl ?_
      obtain ⟨q3, h3, h⟩ := bd_some h
      refine x_callVv (As := []) (st := []) (o := 14) hc dX8_alike_28 cv_X5_catchUp lk_RX8_129 (q_s hSH sh_14) rfl rfl (q_cn hSH (S_St_catchUp h3)) (by decide) (Nat.le_of_ble_eq_true rfl) ?_
      refine x_aload_n hc dX8_alike_31 rfl 0 rfl ?_
      refine x_getR hc dX8_alike_32 fl_RX8_39 (q_s hSH sh_0) rfl ?_
      refine x_iload_n hc dX8_alike_35 rfl 1 rfl ?_
      refine x_iload_n hc dX8_alike_36 rfl 2 rfl ?_
      obtain ⟨q4, h4, h⟩ := bd_some h
      refine x_callVi (As := [.int p1, .int p2]) (st := []) (o := 14) hc dX8_alike_37 cv_X5_areAlike lk_RX8_146 (q_s hSH sh_14) rfl rfl (q_cn hSH (S_St_areAlike h4)) (by decide) (Nat.le_of_ble_eq_true rfl) ?_
      refine x_if_eq (tgt := 47) hc dX8_alike_40 (by decide) (fun hb => ?_) (fun hb => ?_)
      · have h := ite_t hb h
        refine x_iconst hc dX8_alike_47 kc_0 ?_
        cases h
        exact x_iret hc dX8_alike_48 hr hM
      · have h := ite_f hb h
        refine x_iconst hc dX8_alike_43 kc_1 ?_
        refine x_goto (tgt := 48) hc dX8_alike_44 (by decide) ?_
        cases h
        exact x_iret hc dX8_alike_48 hr hM
    · have h := ite_t hb h
      refine x_iconst hc dX8_alike_22 kc_m1 ?_
      cases h
      exact x_iret hc dX8_alike_23 hr hM

def Kn_count (p1 : Int32) (p2 : Int32) (M : QM) : Option (Int32 × QM) :=
  Option.bind (Ne_has p1 M) (fun q1 => (if q1 = 0 then some ((-1 : Int32), M) else (if p2 < (1 : Int32) then some ((-2 : Int32), M) else (if p2 ≤ (12 : Int32) then Option.bind (Co_valuesOf p1 p2 M) (fun q2 => some (q2.1, q2.2)) else some ((-2 : Int32), M)))))

set_option maxRecDepth 20000 in
set_option maxHeartbeats 2000000 in
theorem S_Kn_count  {p1 : Int32} {p2 : Int32} {M : QM} {res : Int32 × QM} (h : Kn_count p1 p2 M = some res) : Cn yX8_count cX8_count 3 (some .int) 6 SHK [.ref 0, .int p1, .int p2] M (some (.int res.1)) res.2 := by
  refine q_enter (L := [(0, .ref 0), (1, .int p1), (2, .int p2)]) (by decide) (Nat.le_of_ble_eq_true rfl) rfl ?_
  intro C hc hSH hr hM
  have hc : OKX C RX8 cX8_count 3 6 (some .int) := hc
  unfold Kn_count at h
  refine x_aload_n hc dX8_count_0 rfl 0 rfl ?_
  refine x_getR hc dX8_count_1 fl_RX8_21 (q_s hSH sh_0) rfl ?_
  refine x_iload_n hc dX8_count_4 rfl 1 rfl ?_
  obtain ⟨q1, h1, h⟩ := bd_some h
  refine x_callVi (As := [.int p1]) (st := []) (o := 3) hc dX8_count_5 cv_X3_has lk_RX8_111 (q_s hSH sh_3) rfl rfl (q_cn hSH (S_Ne_has h1)) (by decide) (Nat.le_of_ble_eq_true rfl) ?_
  refine x_if_ne (tgt := 13) hc dX8_count_8 (by decide) (fun hb => ?_) (fun hb => ?_)
  · have h := ite_f hb h
    refine x_iload_n hc dX8_count_13 rfl 2 rfl ?_
    refine x_iconst hc dX8_count_14 kc_1 ?_
    refine x_icmp_lt (tgt := 24) hc dX8_count_15 (by decide) (fun hb => ?_) (fun hb => ?_)
    · have h := ite_t hb h
      refine x_bipush hc dX8_count_24 kb_m2 ?_
      cases h
      exact x_iret hc dX8_count_26 hr hM
    · have h := ite_f hb h
      refine x_iload_n hc dX8_count_18 rfl 2 rfl ?_
      refine x_bipush hc dX8_count_19 kb_12 ?_
      refine x_icmp_le (tgt := 27) hc dX8_count_21 (by decide) (fun hb => ?_) (fun hb => ?_)
      · have h := ite_t hb h
        refine x_aload_n hc dX8_count_27 rfl 0 rfl ?_
        refine x_getR hc dX8_count_28 fl_RX8_64 (q_s hSH sh_0) rfl ?_
        refine x_iload_n hc dX8_count_31 rfl 1 rfl ?_
        refine x_iload_n hc dX8_count_32 rfl 2 rfl ?_
        obtain ⟨q2, h2, h⟩ := bd_some h
        refine x_callVi (As := [.int p1, .int p2]) (st := []) (o := 28) hc dX8_count_33 cv_X0_valuesOf lk_RX8_163 (q_s hSH sh_28) rfl rfl (q_cn hSH (S_Co_valuesOf h2)) (by decide) (Nat.le_of_ble_eq_true rfl) ?_
        cases h
        exact x_iret hc dX8_count_36 hr hM
      · have h := ite_f hb h
        refine x_bipush hc dX8_count_24 kb_m2 ?_
        cases h
        exact x_iret hc dX8_count_26 hr hM
  · have h := ite_t hb h
    refine x_iconst hc dX8_count_11 kc_m1 ?_
    cases h
    exact x_iret hc dX8_count_12 hr hM

def Kn_end (p1 : Int32) (p2 : Int32) (M : QM) : Option (Int32 × QM) :=
  Option.bind (Ne_has p1 M) (fun q1 => (if q1 = 0 then some ((-1 : Int32), M) else Option.bind (Ne_has p2 M) (fun q2 => (if q2 = 0 then some ((-1 : Int32), M) else Option.bind (St_catchUp M) (fun q3 => Option.bind (St_endOfWay p1 p2 q3) (fun q4 => some (q4, q3)))))))

set_option maxRecDepth 20000 in
set_option maxHeartbeats 2000000 in
theorem S_Kn_end  {p1 : Int32} {p2 : Int32} {M : QM} {res : Int32 × QM} (h : Kn_end p1 p2 M = some res) : Cn yX8_end cX8_end 3 (some .int) 5 SHK [.ref 0, .int p1, .int p2] M (some (.int res.1)) res.2 := by
  refine q_enter (L := [(0, .ref 0), (1, .int p1), (2, .int p2)]) (by decide) (Nat.le_of_ble_eq_true rfl) rfl ?_
  intro C hc hSH hr hM
  have hc : OKX C RX8 cX8_end 3 5 (some .int) := hc
  unfold Kn_end at h
  refine x_aload_n hc dX8_end_0 rfl 0 rfl ?_
  refine x_getR hc dX8_end_1 fl_RX8_21 (q_s hSH sh_0) rfl ?_
  refine x_iload_n hc dX8_end_4 rfl 1 rfl ?_
  obtain ⟨q1, h1, h⟩ := bd_some h
  refine x_callVi (As := [.int p1]) (st := []) (o := 3) hc dX8_end_5 cv_X3_has lk_RX8_111 (q_s hSH sh_3) rfl rfl (q_cn hSH (S_Ne_has h1)) (by decide) (Nat.le_of_ble_eq_true rfl) ?_
  refine x_if_eq (tgt := 22) hc dX8_end_8 (by decide) (fun hb => ?_) (fun hb => ?_)
  · have h := ite_t hb h
    refine x_iconst hc dX8_end_22 kc_m1 ?_
    cases h
    exact x_iret hc dX8_end_23 hr hM
  · have h := ite_f hb h
    refine x_aload_n hc dX8_end_11 rfl 0 rfl ?_
    refine x_getR hc dX8_end_12 fl_RX8_21 (q_s hSH sh_0) rfl ?_
    refine x_iload_n hc dX8_end_15 rfl 2 rfl ?_
    obtain ⟨q2, h2, h⟩ := bd_some h
    refine x_callVi (As := [.int p2]) (st := []) (o := 3) hc dX8_end_16 cv_X3_has lk_RX8_111 (q_s hSH sh_3) rfl rfl (q_cn hSH (S_Ne_has h2)) (by decide) (Nat.le_of_ble_eq_true rfl) ?_
    refine x_if_ne (tgt := 24) hc dX8_end_19 (by decide) (fun hb => ?_) (fun hb => ?_)
    · have h := ite_f hb h
      refine x_aload_n hc dX8_end_24 rfl 0 rfl ?_
      refine x_getR hc dX8_end_25 fl_RX8_39 (q_s hSH sh_0) rfl ?_
      obtain ⟨q3, h3, h⟩ := bd_some h
      refine x_callVv (As := []) (st := []) (o := 14) hc dX8_end_28 cv_X5_catchUp lk_RX8_129 (q_s hSH sh_14) rfl rfl (q_cn hSH (S_St_catchUp h3)) (by decide) (Nat.le_of_ble_eq_true rfl) ?_
      refine x_aload_n hc dX8_end_31 rfl 0 rfl ?_
      refine x_getR hc dX8_end_32 fl_RX8_39 (q_s hSH sh_0) rfl ?_
      refine x_iload_n hc dX8_end_35 rfl 1 rfl ?_
      refine x_iload_n hc dX8_end_36 rfl 2 rfl ?_
      obtain ⟨q4, h4, h⟩ := bd_some h
      refine x_callVi (As := [.int p1, .int p2]) (st := []) (o := 14) hc dX8_end_37 cv_X5_endOfWay lk_RX8_143 (q_s hSH sh_14) rfl rfl (q_cn hSH (S_St_endOfWay h4)) (by decide) (Nat.le_of_ble_eq_true rfl) ?_
      cases h
      exact x_iret hc dX8_end_40 hr hM
    · have h := ite_t hb h
      refine x_iconst hc dX8_end_22 kc_m1 ?_
      cases h
      exact x_iret hc dX8_end_23 hr hM

def Kn_fault (M : QM) : Option (Int32 × QM) :=
  Option.bind (Te_read M) (fun q1 => some (q1.1, q1.2))

set_option maxRecDepth 20000 in
set_option maxHeartbeats 2000000 in
theorem S_Kn_fault  {M : QM} {res : Int32 × QM} (h : Kn_fault M = some res) : Cn yX8_fault cX8_fault 1 (some .int) 49 SHK [.ref 0] M (some (.int res.1)) res.2 := by
  refine q_enter (L := [(0, .ref 0)]) (by decide) (Nat.le_of_ble_eq_true rfl) rfl ?_
  intro C hc hSH hr hM
  have hc : OKX C RX8 cX8_fault 1 49 (some .int) := hc
  unfold Kn_fault at h
  refine x_aload_n hc dX8_fault_0 rfl 0 rfl ?_
  refine x_getR hc dX8_fault_1 fl_RX8_30 (q_s hSH sh_0) rfl ?_
  obtain ⟨q1, h1, h⟩ := bd_some h
  refine x_callVi (As := []) (st := []) (o := 8) hc dX8_fault_4 cv_X6_read lk_RX8_86 (q_s hSH sh_8) rfl rfl (q_cn hSH (S_Te_read h1)) (by decide) (Nat.le_of_ble_eq_true rfl) ?_
  cases h
  exact x_iret hc dX8_fault_7 hr hM

def Kn_fits (p1 : Int32) (M : QM) : Option (Int32 × QM) :=
  Option.bind (Ne_has p1 M) (fun q1 => (if q1 = 0 then some ((-1 : Int32), M) else Option.bind (Va_read p1 M) (fun q2 => (if q2.1 = (-6 : Int32) then Option.bind (Va_misfitPlace q2.2) (fun q3 => some (q3, q2.2)) else some ((-5 : Int32), q2.2)))))

set_option maxRecDepth 20000 in
set_option maxHeartbeats 2000000 in
theorem S_Kn_fits  {p1 : Int32} {M : QM} {res : Int32 × QM} (h : Kn_fits p1 M = some res) : Cn yX8_fits cX8_fits 2 (some .int) 6 SHK [.ref 0, .int p1] M (some (.int res.1)) res.2 := by
  refine q_enter (L := [(0, .ref 0), (1, .int p1)]) (by decide) (Nat.le_of_ble_eq_true rfl) rfl ?_
  intro C hc hSH hr hM
  have hc : OKX C RX8 cX8_fits 2 6 (some .int) := hc
  unfold Kn_fits at h
  refine x_aload_n hc dX8_fits_0 rfl 0 rfl ?_
  refine x_getR hc dX8_fits_1 fl_RX8_21 (q_s hSH sh_0) rfl ?_
  refine x_iload_n hc dX8_fits_4 rfl 1 rfl ?_
  obtain ⟨q1, h1, h⟩ := bd_some h
  refine x_callVi (As := [.int p1]) (st := []) (o := 3) hc dX8_fits_5 cv_X3_has lk_RX8_111 (q_s hSH sh_3) rfl rfl (q_cn hSH (S_Ne_has h1)) (by decide) (Nat.le_of_ble_eq_true rfl) ?_
  refine x_if_ne (tgt := 13) hc dX8_fits_8 (by decide) (fun hb => ?_) (fun hb => ?_)
  · have h := ite_f hb h
    refine x_aload_n hc dX8_fits_13 rfl 0 rfl ?_
    refine x_getR hc dX8_fits_14 fl_RX8_57 (q_s hSH sh_0) rfl ?_
    refine x_iload_n hc dX8_fits_17 rfl 1 rfl ?_
    obtain ⟨q2, h2, h⟩ := bd_some h
    refine x_callVi (As := [.int p1]) (st := []) (o := 24) hc dX8_fits_18 cv_X7_read lk_RX8_155 (q_s hSH sh_24) rfl rfl (q_cn hSH (S_Va_read h2)) (by decide) (Nat.le_of_ble_eq_true rfl) ?_
    refine x_bipush hc dX8_fits_21 kb_m6 ?_
    refine x_icmp_ne (tgt := 36) hc dX8_fits_23 (by decide) (fun hb => ?_) (fun hb => ?_)
    · have h := ite_f hb h
      refine x_bipush hc dX8_fits_36 kb_m5 ?_
      cases h
      exact x_iret hc dX8_fits_38 hr hM
    · have h := ite_t hb h
      refine x_aload_n hc dX8_fits_26 rfl 0 rfl ?_
      refine x_getR hc dX8_fits_27 fl_RX8_57 (q_s hSH sh_0) rfl ?_
      obtain ⟨q3, h3, h⟩ := bd_some h
      refine x_callVi (As := []) (st := []) (o := 24) hc dX8_fits_30 cv_X7_misfitPlace lk_RX8_157 (q_s hSH sh_24) rfl rfl (q_cn hSH (S_Va_misfitPlace h3)) (by decide) (Nat.le_of_ble_eq_true rfl) ?_
      refine x_goto (tgt := 38) hc dX8_fits_33 (by decide) ?_
      cases h
      exact x_iret hc dX8_fits_38 hr hM
  · have h := ite_t hb h
    refine x_iconst hc dX8_fits_11 kc_m1 ?_
    cases h
    exact x_iret hc dX8_fits_12 hr hM

def Kn_join_J36 (x1 : Int32) (x2 : Int32) (x3 : Int32) (M : QM) : Option (Int32 × QM) :=
  Option.bind (Jo_joined x1 x2 x3 M) (fun q3 => some (q3.1, q3.2))

set_option maxRecDepth 20000 in
set_option maxHeartbeats 2000000 in
theorem S_Kn_join_J36 {C : QC} (hc : OKX C RX8 cX8_join 4 7 (some .int)) (hSH : q_SH C = SHK) (x1 : Int32) (x2 : Int32) (x3 : Int32) (M : QM) {res : Int32 × QM} (h : Kn_join_J36 x1 x2 x3 M = some res) (hr : q_r C = some (.int res.1)) (hM : q_M C = res.2) : WX C 4 36 [(0, .ref 0), (1, .int x1), (2, .int x2), (3, .int x3)] [] M := by
  unfold Kn_join_J36 at h
  refine x_aload_n hc dX8_join_36 rfl 0 rfl ?_
  refine x_getR hc dX8_join_37 fl_RX8_48 (q_s hSH sh_0) rfl ?_
  refine x_iload_n hc dX8_join_40 rfl 1 rfl ?_
  refine x_iload_n hc dX8_join_41 rfl 2 rfl ?_
  refine x_iload_n hc dX8_join_42 rfl 3 rfl ?_
  obtain ⟨q3, h3, h⟩ := bd_some h
  refine x_callVi (As := [.int x1, .int x2, .int x3]) (st := []) (o := 18) hc dX8_join_43 cv_X1_joined lk_RX8_152 (q_s hSH sh_18) rfl rfl (q_cn hSH (S_Jo_joined h3)) (by decide) (Nat.le_of_ble_eq_true rfl) ?_
  cases h
  exact x_iret hc dX8_join_46 hr hM

def Kn_join (p1 : Int32) (p2 : Int32) (p3 : Int32) (M : QM) : Option (Int32 × QM) :=
  Option.bind (Ne_has p1 M) (fun q1 => (if q1 = 0 then some ((-1 : Int32), M) else Option.bind (Ne_has p2 M) (fun q2 => (if q2 = 0 then some ((-1 : Int32), M) else (if p3 = 0 then Kn_join_J36 p1 p2 p3 M else (if p3 = (1 : Int32) then Kn_join_J36 p1 p2 p3 M else some ((-2 : Int32), M)))))))

set_option maxRecDepth 20000 in
set_option maxHeartbeats 2000000 in
theorem S_Kn_join  {p1 : Int32} {p2 : Int32} {p3 : Int32} {M : QM} {res : Int32 × QM} (h : Kn_join p1 p2 p3 M = some res) : Cn yX8_join cX8_join 4 (some .int) 7 SHK [.ref 0, .int p1, .int p2, .int p3] M (some (.int res.1)) res.2 := by
  refine q_enter (L := [(0, .ref 0), (1, .int p1), (2, .int p2), (3, .int p3)]) (by decide) (Nat.le_of_ble_eq_true rfl) rfl ?_
  intro C hc hSH hr hM
  have hc : OKX C RX8 cX8_join 4 7 (some .int) := hc
  unfold Kn_join at h
  refine x_aload_n hc dX8_join_0 rfl 0 rfl ?_
  refine x_getR hc dX8_join_1 fl_RX8_21 (q_s hSH sh_0) rfl ?_
  refine x_iload_n hc dX8_join_4 rfl 1 rfl ?_
  obtain ⟨q1, h1, h⟩ := bd_some h
  refine x_callVi (As := [.int p1]) (st := []) (o := 3) hc dX8_join_5 cv_X3_has lk_RX8_111 (q_s hSH sh_3) rfl rfl (q_cn hSH (S_Ne_has h1)) (by decide) (Nat.le_of_ble_eq_true rfl) ?_
  refine x_if_eq (tgt := 22) hc dX8_join_8 (by decide) (fun hb => ?_) (fun hb => ?_)
  · have h := ite_t hb h
    refine x_iconst hc dX8_join_22 kc_m1 ?_
    cases h
    exact x_iret hc dX8_join_23 hr hM
  · have h := ite_f hb h
    refine x_aload_n hc dX8_join_11 rfl 0 rfl ?_
    refine x_getR hc dX8_join_12 fl_RX8_21 (q_s hSH sh_0) rfl ?_
    refine x_iload_n hc dX8_join_15 rfl 2 rfl ?_
    obtain ⟨q2, h2, h⟩ := bd_some h
    refine x_callVi (As := [.int p2]) (st := []) (o := 3) hc dX8_join_16 cv_X3_has lk_RX8_111 (q_s hSH sh_3) rfl rfl (q_cn hSH (S_Ne_has h2)) (by decide) (Nat.le_of_ble_eq_true rfl) ?_
    refine x_if_ne (tgt := 24) hc dX8_join_19 (by decide) (fun hb => ?_) (fun hb => ?_)
    · have h := ite_f hb h
      refine x_iload_n hc dX8_join_24 rfl 3 rfl ?_
      refine x_if_eq (tgt := 36) hc dX8_join_25 (by decide) (fun hb => ?_) (fun hb => ?_)
      · have h := ite_t hb h
        exact x_sub (S_Kn_join_J36 hc hSH p1 p2 p3 M h hr hM) [0, 1, 2, 3] rfl
      · have h := ite_f hb h
        refine x_iload_n hc dX8_join_28 rfl 3 rfl ?_
        refine x_iconst hc dX8_join_29 kc_1 ?_
        refine x_icmp_eq (tgt := 36) hc dX8_join_30 (by decide) (fun hb => ?_) (fun hb => ?_)
        · have h := ite_t hb h
          exact x_sub (S_Kn_join_J36 hc hSH p1 p2 p3 M h hr hM) [0, 1, 2, 3] rfl
        · have h := ite_f hb h
          refine x_bipush hc dX8_join_33 kb_m2 ?_
          cases h
          exact x_iret hc dX8_join_35 hr hM
    · have h := ite_t hb h
      refine x_iconst hc dX8_join_22 kc_m1 ?_
      cases h
      exact x_iret hc dX8_join_23 hr hM

def Kn_least (p1 : Int32) (M : QM) : Option (Int32 × QM) :=
  Option.bind (Ne_has p1 M) (fun q1 => (if q1 = 0 then some ((-1 : Int32), M) else Option.bind (Le_leastOf p1 M) (fun q2 => some (q2.1, q2.2))))

set_option maxRecDepth 20000 in
set_option maxHeartbeats 2000000 in
theorem S_Kn_least  {p1 : Int32} {M : QM} {res : Int32 × QM} (h : Kn_least p1 M = some res) : Cn yX8_least cX8_least 2 (some .int) 6 SHK [.ref 0, .int p1] M (some (.int res.1)) res.2 := by
  refine q_enter (L := [(0, .ref 0), (1, .int p1)]) (by decide) (Nat.le_of_ble_eq_true rfl) rfl ?_
  intro C hc hSH hr hM
  have hc : OKX C RX8 cX8_least 2 6 (some .int) := hc
  unfold Kn_least at h
  refine x_aload_n hc dX8_least_0 rfl 0 rfl ?_
  refine x_getR hc dX8_least_1 fl_RX8_21 (q_s hSH sh_0) rfl ?_
  refine x_iload_n hc dX8_least_4 rfl 1 rfl ?_
  obtain ⟨q1, h1, h⟩ := bd_some h
  refine x_callVi (As := [.int p1]) (st := []) (o := 3) hc dX8_least_5 cv_X3_has lk_RX8_111 (q_s hSH sh_3) rfl rfl (q_cn hSH (S_Ne_has h1)) (by decide) (Nat.le_of_ble_eq_true rfl) ?_
  refine x_if_eq (tgt := 22) hc dX8_least_8 (by decide) (fun hb => ?_) (fun hb => ?_)
  · have h := ite_t hb h
    refine x_iconst hc dX8_least_22 kc_m1 ?_
    cases h
    exact x_iret hc dX8_least_23 hr hM
  · have h := ite_f hb h
    refine x_aload_n hc dX8_least_11 rfl 0 rfl ?_
    refine x_getR hc dX8_least_12 fl_RX8_71 (q_s hSH sh_0) rfl ?_
    refine x_iload_n hc dX8_least_15 rfl 1 rfl ?_
    obtain ⟨q2, h2, h⟩ := bd_some h
    refine x_callVi (As := [.int p1]) (st := []) (o := 31) hc dX8_least_16 cv_X2_leastOf lk_RX8_166 (q_s hSH sh_31) rfl rfl (q_cn hSH (S_Le_leastOf h2)) (by decide) (Nat.le_of_ble_eq_true rfl) ?_
    refine x_goto (tgt := 23) hc dX8_least_19 (by decide) ?_
    cases h
    exact x_iret hc dX8_least_23 hr hM

def Kn_may (p1 : Int32) (p2 : Int32) (M : QM) : Option (Int32 × QM) :=
  Option.bind (Ne_has p1 M) (fun q1 => (if q1 = 0 then some ((-1 : Int32), M) else Option.bind (Ne_has p2 M) (fun q2 => (if q2 = 0 then some ((-1 : Int32), M) else Option.bind (St_catchUp M) (fun q3 => Option.bind (St_mayStand p1 p2 q3) (fun q4 => (if q4 = 0 then some ((0 : Int32), q3) else some ((1 : Int32), q3))))))))

set_option maxRecDepth 20000 in
set_option maxHeartbeats 2000000 in
theorem S_Kn_may  {p1 : Int32} {p2 : Int32} {M : QM} {res : Int32 × QM} (h : Kn_may p1 p2 M = some res) : Cn yX8_may cX8_may 3 (some .int) 5 SHK [.ref 0, .int p1, .int p2] M (some (.int res.1)) res.2 := by
  refine q_enter (L := [(0, .ref 0), (1, .int p1), (2, .int p2)]) (by decide) (Nat.le_of_ble_eq_true rfl) rfl ?_
  intro C hc hSH hr hM
  have hc : OKX C RX8 cX8_may 3 5 (some .int) := hc
  unfold Kn_may at h
  refine x_aload_n hc dX8_may_0 rfl 0 rfl ?_
  refine x_getR hc dX8_may_1 fl_RX8_21 (q_s hSH sh_0) rfl ?_
  refine x_iload_n hc dX8_may_4 rfl 1 rfl ?_
  obtain ⟨q1, h1, h⟩ := bd_some h
  refine x_callVi (As := [.int p1]) (st := []) (o := 3) hc dX8_may_5 cv_X3_has lk_RX8_111 (q_s hSH sh_3) rfl rfl (q_cn hSH (S_Ne_has h1)) (by decide) (Nat.le_of_ble_eq_true rfl) ?_
  refine x_if_eq (tgt := 22) hc dX8_may_8 (by decide) (fun hb => ?_) (fun hb => ?_)
  · have h := ite_t hb h
    refine x_iconst hc dX8_may_22 kc_m1 ?_
    cases h
    exact x_iret hc dX8_may_23 hr hM
  · have h := ite_f hb h
    refine x_aload_n hc dX8_may_11 rfl 0 rfl ?_
    refine x_getR hc dX8_may_12 fl_RX8_21 (q_s hSH sh_0) rfl ?_
    refine x_iload_n hc dX8_may_15 rfl 2 rfl ?_
    obtain ⟨q2, h2, h⟩ := bd_some h
    refine x_callVi (As := [.int p2]) (st := []) (o := 3) hc dX8_may_16 cv_X3_has lk_RX8_111 (q_s hSH sh_3) rfl rfl (q_cn hSH (S_Ne_has h2)) (by decide) (Nat.le_of_ble_eq_true rfl) ?_
    refine x_if_ne (tgt := 24) hc dX8_may_19 (by decide) (fun hb => ?_) (fun hb => ?_)
    · have h := ite_f hb h
      refine x_aload_n hc dX8_may_24 rfl 0 rfl ?_
      refine x_getR hc dX8_may_25 fl_RX8_39 (q_s hSH sh_0) rfl ?_
      obtain ⟨q3, h3, h⟩ := bd_some h
      refine x_callVv (As := []) (st := []) (o := 14) hc dX8_may_28 cv_X5_catchUp lk_RX8_129 (q_s hSH sh_14) rfl rfl (q_cn hSH (S_St_catchUp h3)) (by decide) (Nat.le_of_ble_eq_true rfl) ?_
      refine x_aload_n hc dX8_may_31 rfl 0 rfl ?_
      refine x_getR hc dX8_may_32 fl_RX8_39 (q_s hSH sh_0) rfl ?_
      refine x_iload_n hc dX8_may_35 rfl 1 rfl ?_
      refine x_iload_n hc dX8_may_36 rfl 2 rfl ?_
      obtain ⟨q4, h4, h⟩ := bd_some h
      refine x_callVi (As := [.int p1, .int p2]) (st := []) (o := 14) hc dX8_may_37 cv_X5_mayStand lk_RX8_132 (q_s hSH sh_14) rfl rfl (q_cn hSH (S_St_mayStand h4)) (by decide) (Nat.le_of_ble_eq_true rfl) ?_
      refine x_if_eq (tgt := 47) hc dX8_may_40 (by decide) (fun hb => ?_) (fun hb => ?_)
      · have h := ite_t hb h
        refine x_iconst hc dX8_may_47 kc_0 ?_
        cases h
        exact x_iret hc dX8_may_48 hr hM
      · have h := ite_f hb h
        refine x_iconst hc dX8_may_43 kc_1 ?_
        refine x_goto (tgt := 48) hc dX8_may_44 (by decide) ?_
        cases h
        exact x_iret hc dX8_may_48 hr hM
    · have h := ite_t hb h
      refine x_iconst hc dX8_may_22 kc_m1 ?_
      cases h
      exact x_iret hc dX8_may_23 hr hM

def Kn_name (p1 : Int32) (M : QM) : Option (Int32) :=
  (if p1 < 0 then some (-1 : Int32) else (if p1 < (8 : Int32) then Option.bind (Ne_nameAt p1 M) (fun q1 => some q1) else some (-1 : Int32)))

set_option maxRecDepth 20000 in
set_option maxHeartbeats 2000000 in
theorem S_Kn_name  {p1 : Int32} {M : QM} {res : Int32} (h : Kn_name p1 M = some res) : Cn yX8_name cX8_name 2 (some .int) 1 SHK [.ref 0, .int p1] M (some (.int res)) M := by
  refine q_enter (L := [(0, .ref 0), (1, .int p1)]) (by decide) (Nat.le_of_ble_eq_true rfl) rfl ?_
  intro C hc hSH hr hM
  have hc : OKX C RX8 cX8_name 2 1 (some .int) := hc
  unfold Kn_name at h
  refine x_iload_n hc dX8_name_0 rfl 1 rfl ?_
  refine x_if_lt (tgt := 10) hc dX8_name_1 (by decide) (fun hb => ?_) (fun hb => ?_)
  · have h := ite_t hb h
    refine x_iconst hc dX8_name_10 kc_m1 ?_
    refine x_goto (tgt := 22) hc dX8_name_11 (by decide) ?_
    cases h
    exact x_iret hc dX8_name_22 hr hM
  · have h := ite_f hb h
    refine x_iload_n hc dX8_name_4 rfl 1 rfl ?_
    refine x_bipush hc dX8_name_5 kb_8 ?_
    refine x_icmp_lt (tgt := 14) hc dX8_name_7 (by decide) (fun hb => ?_) (fun hb => ?_)
    · have h := ite_t hb h
      refine x_aload_n hc dX8_name_14 rfl 0 rfl ?_
      refine x_getR hc dX8_name_15 fl_RX8_21 (q_s hSH sh_0) rfl ?_
      refine x_iload_n hc dX8_name_18 rfl 1 rfl ?_
      obtain ⟨q1, h1, h⟩ := bd_some h
      refine x_callVi (As := [.int p1]) (st := []) (o := 3) hc dX8_name_19 cv_X3_nameAt lk_RX8_107 (q_s hSH sh_3) rfl rfl (q_cn hSH (S_Ne_nameAt h1)) (by decide) (Nat.le_of_ble_eq_true rfl) ?_
      cases h
      exact x_iret hc dX8_name_22 hr hM
    · have h := ite_f hb h
      refine x_iconst hc dX8_name_10 kc_m1 ?_
      refine x_goto (tgt := 22) hc dX8_name_11 (by decide) ?_
      cases h
      exact x_iret hc dX8_name_22 hr hM

def Kn_node (p1 : Int32) (p2 : Int32) (M : QM) : Option (Int32) :=
  Option.bind (Ne_has p1 M) (fun q1 => (if q1 = 0 then some (-1 : Int32) else (if p2 < (-1 : Int32) then some (-2 : Int32) else (if p2 ≤ (8 : Int32) then (if p2 = (-1 : Int32) then Option.bind (Ne_signOf p1 M) (fun q5 => some q5) else (if p2 = (8 : Int32) then Option.bind (Ne_slotsOf p1 M) (fun q3 => Option.bind (In_bitCount q3 M) (fun q4 => some q4)) else Option.bind (Ne_partAt p1 p2 M) (fun q2 => some q2))) else some (-2 : Int32)))))

set_option maxRecDepth 20000 in
set_option maxHeartbeats 2000000 in
theorem S_Kn_node  {p1 : Int32} {p2 : Int32} {M : QM} {res : Int32} (h : Kn_node p1 p2 M = some res) : Cn yX8_node cX8_node 3 (some .int) 1 SHK [.ref 0, .int p1, .int p2] M (some (.int res)) M := by
  refine q_enter (L := [(0, .ref 0), (1, .int p1), (2, .int p2)]) (by decide) (Nat.le_of_ble_eq_true rfl) rfl ?_
  intro C hc hSH hr hM
  have hc : OKX C RX8 cX8_node 3 1 (some .int) := hc
  unfold Kn_node at h
  refine x_aload_n hc dX8_node_0 rfl 0 rfl ?_
  refine x_getR hc dX8_node_1 fl_RX8_21 (q_s hSH sh_0) rfl ?_
  refine x_iload_n hc dX8_node_4 rfl 1 rfl ?_
  obtain ⟨q1, h1, h⟩ := bd_some h
  refine x_callVi (As := [.int p1]) (st := []) (o := 3) hc dX8_node_5 cv_X3_has lk_RX8_111 (q_s hSH sh_3) rfl rfl (q_cn hSH (S_Ne_has h1)) (by decide) (Nat.le_of_ble_eq_true rfl) ?_
  refine x_if_ne (tgt := 13) hc dX8_node_8 (by decide) (fun hb => ?_) (fun hb => ?_)
  · have h := ite_f hb h
    refine x_iload_n hc dX8_node_13 rfl 2 rfl ?_
    refine x_iconst hc dX8_node_14 kc_m1 ?_
    refine x_icmp_lt (tgt := 24) hc dX8_node_15 (by decide) (fun hb => ?_) (fun hb => ?_)
    · have h := ite_t hb h
      refine x_bipush hc dX8_node_24 kb_m2 ?_
      cases h
      exact x_iret hc dX8_node_26 hr hM
    · have h := ite_f hb h
      refine x_iload_n hc dX8_node_18 rfl 2 rfl ?_
      refine x_bipush hc dX8_node_19 kb_8 ?_
      refine x_icmp_le (tgt := 27) hc dX8_node_21 (by decide) (fun hb => ?_) (fun hb => ?_)
      · have h := ite_t hb h
        refine x_iload_n hc dX8_node_27 rfl 2 rfl ?_
        refine x_iconst hc dX8_node_28 kc_m1 ?_
        refine x_icmp_ne (tgt := 41) hc dX8_node_29 (by decide) (fun hb => ?_) (fun hb => ?_)
        · have h := ite_f hb h
          refine x_iload_n hc dX8_node_41 rfl 2 rfl ?_
          refine x_bipush hc dX8_node_42 kb_8 ?_
          refine x_icmp_ne (tgt := 61) hc dX8_node_44 (by decide) (fun hb => ?_) (fun hb => ?_)
          · have h := ite_f hb h
            refine x_aload_n hc dX8_node_61 rfl 0 rfl ?_
            refine x_getR hc dX8_node_62 fl_RX8_21 (q_s hSH sh_0) rfl ?_
            refine x_iload_n hc dX8_node_65 rfl 1 rfl ?_
            refine x_iload_n hc dX8_node_66 rfl 2 rfl ?_
            obtain ⟨q2, h2, h⟩ := bd_some h
            refine x_callVi (As := [.int p1, .int p2]) (st := []) (o := 3) hc dX8_node_67 cv_X3_partAt lk_RX8_125 (q_s hSH sh_3) rfl rfl (q_cn hSH (S_Ne_partAt h2)) (by decide) (Nat.le_of_ble_eq_true rfl) ?_
            cases h
            exact x_iret hc dX8_node_70 hr hM
          · have h := ite_t hb h
            refine x_aload_n hc dX8_node_47 rfl 0 rfl ?_
            refine x_getR hc dX8_node_48 fl_RX8_21 (q_s hSH sh_0) rfl ?_
            refine x_iload_n hc dX8_node_51 rfl 1 rfl ?_
            obtain ⟨q3, h3, h⟩ := bd_some h
            refine x_callVi (As := [.int p1]) (st := []) (o := 3) hc dX8_node_52 cv_X3_slotsOf lk_RX8_117 (q_s hSH sh_3) rfl rfl (q_cn hSH (S_Ne_slotsOf h3)) (by decide) (Nat.le_of_ble_eq_true rfl) ?_
            obtain ⟨q4, h4, h⟩ := bd_some h
            refine x_callSi (As := [.int q3]) (st := []) hc dX8_node_55 cs_J6_bitCount_0f7a4 lk_RX8_120 rfl (q_cn hSH (S_In_bitCount h4)) (by decide) (Nat.le_of_ble_eq_true rfl) ?_
            refine x_goto (tgt := 70) hc dX8_node_58 (by decide) ?_
            cases h
            exact x_iret hc dX8_node_70 hr hM
        · have h := ite_t hb h
          refine x_aload_n hc dX8_node_32 rfl 0 rfl ?_
          refine x_getR hc dX8_node_33 fl_RX8_21 (q_s hSH sh_0) rfl ?_
          refine x_iload_n hc dX8_node_36 rfl 1 rfl ?_
          obtain ⟨q5, h5, h⟩ := bd_some h
          refine x_callVi (As := [.int p1]) (st := []) (o := 3) hc dX8_node_37 cv_X3_signOf lk_RX8_114 (q_s hSH sh_3) rfl rfl (q_cn hSH (S_Ne_signOf h5)) (by decide) (Nat.le_of_ble_eq_true rfl) ?_
          cases h
          exact x_iret hc dX8_node_40 hr hM
      · have h := ite_f hb h
        refine x_bipush hc dX8_node_24 kb_m2 ?_
        cases h
        exact x_iret hc dX8_node_26 hr hM
  · have h := ite_t hb h
    refine x_iconst hc dX8_node_11 kc_m1 ?_
    cases h
    exact x_iret hc dX8_node_12 hr hM

def Kn_pieces (p1 : Int32) (M : QM) : Option (Int32 × QM) :=
  Option.bind (Ne_has p1 M) (fun q1 => (if q1 = 0 then some ((-1 : Int32), M) else Option.bind (St_catchUp M) (fun q2 => Option.bind (St_unlikeWithin p1 q2) (fun q3 => some (q3.1, q3.2)))))

set_option maxRecDepth 20000 in
set_option maxHeartbeats 2000000 in
theorem S_Kn_pieces  {p1 : Int32} {M : QM} {res : Int32 × QM} (h : Kn_pieces p1 M = some res) : Cn yX8_pieces cX8_pieces 2 (some .int) 6 SHK [.ref 0, .int p1] M (some (.int res.1)) res.2 := by
  refine q_enter (L := [(0, .ref 0), (1, .int p1)]) (by decide) (Nat.le_of_ble_eq_true rfl) rfl ?_
  intro C hc hSH hr hM
  have hc : OKX C RX8 cX8_pieces 2 6 (some .int) := hc
  unfold Kn_pieces at h
  refine x_aload_n hc dX8_pieces_0 rfl 0 rfl ?_
  refine x_getR hc dX8_pieces_1 fl_RX8_21 (q_s hSH sh_0) rfl ?_
  refine x_iload_n hc dX8_pieces_4 rfl 1 rfl ?_
  obtain ⟨q1, h1, h⟩ := bd_some h
  refine x_callVi (As := [.int p1]) (st := []) (o := 3) hc dX8_pieces_5 cv_X3_has lk_RX8_111 (q_s hSH sh_3) rfl rfl (q_cn hSH (S_Ne_has h1)) (by decide) (Nat.le_of_ble_eq_true rfl) ?_
  refine x_if_ne (tgt := 13) hc dX8_pieces_8 (by decide) (fun hb => ?_) (fun hb => ?_)
  · have h := ite_f hb h
    refine x_aload_n hc dX8_pieces_13 rfl 0 rfl ?_
    refine x_getR hc dX8_pieces_14 fl_RX8_39 (q_s hSH sh_0) rfl ?_
    obtain ⟨q2, h2, h⟩ := bd_some h
    refine x_callVv (As := []) (st := []) (o := 14) hc dX8_pieces_17 cv_X5_catchUp lk_RX8_129 (q_s hSH sh_14) rfl rfl (q_cn hSH (S_St_catchUp h2)) (by decide) (Nat.le_of_ble_eq_true rfl) ?_
    refine x_aload_n hc dX8_pieces_20 rfl 0 rfl ?_
    refine x_getR hc dX8_pieces_21 fl_RX8_39 (q_s hSH sh_0) rfl ?_
    refine x_iload_n hc dX8_pieces_24 rfl 1 rfl ?_
    obtain ⟨q3, h3, h⟩ := bd_some h
    refine x_callVi (As := [.int p1]) (st := []) (o := 14) hc dX8_pieces_25 cv_X5_unlikeWithin lk_RX8_149 (q_s hSH sh_14) rfl rfl (q_cn hSH (S_St_unlikeWithin h3)) (by decide) (Nat.le_of_ble_eq_true rfl) ?_
    cases h
    exact x_iret hc dX8_pieces_28 hr hM
  · have h := ite_t hb h
    refine x_iconst hc dX8_pieces_11 kc_m1 ?_
    cases h
    exact x_iret hc dX8_pieces_12 hr hM

def Kn_say (p1 : Int32) (M : QM) : Option (Int32 × QM) :=
  (if p1 < (33 : Int32) then some ((-2 : Int32), M) else (if p1 ≤ (126 : Int32) then Option.bind (Pa_lay p1 M) (fun q1 => (if q1.1 = 0 then some ((-4 : Int32), q1.2) else Option.bind (Pa_length q1.2) (fun q2 => some (q2, q1.2)))) else some ((-2 : Int32), M)))

set_option maxRecDepth 20000 in
set_option maxHeartbeats 2000000 in
theorem S_Kn_say  {p1 : Int32} {M : QM} {res : Int32 × QM} (h : Kn_say p1 M = some res) : Cn yX8_say cX8_say 2 (some .int) 1 SHK [.ref 0, .int p1] M (some (.int res.1)) res.2 := by
  refine q_enter (L := [(0, .ref 0), (1, .int p1)]) (by decide) (Nat.le_of_ble_eq_true rfl) rfl ?_
  intro C hc hSH hr hM
  have hc : OKX C RX8 cX8_say 2 1 (some .int) := hc
  unfold Kn_say at h
  refine x_iload_n hc dX8_say_0 rfl 1 rfl ?_
  refine x_bipush hc dX8_say_1 kb_33 ?_
  refine x_icmp_lt (tgt := 12) hc dX8_say_3 (by decide) (fun hb => ?_) (fun hb => ?_)
  · have h := ite_t hb h
    refine x_bipush hc dX8_say_12 kb_m2 ?_
    cases h
    exact x_iret hc dX8_say_14 hr hM
  · have h := ite_f hb h
    refine x_iload_n hc dX8_say_6 rfl 1 rfl ?_
    refine x_bipush hc dX8_say_7 kb_126 ?_
    refine x_icmp_le (tgt := 15) hc dX8_say_9 (by decide) (fun hb => ?_) (fun hb => ?_)
    · have h := ite_t hb h
      refine x_aload_n hc dX8_say_15 rfl 0 rfl ?_
      refine x_getR hc dX8_say_16 fl_RX8_10 (q_s hSH sh_0) rfl ?_
      refine x_iload_n hc dX8_say_19 rfl 1 rfl ?_
      obtain ⟨q1, h1, h⟩ := bd_some h
      refine x_callVi (As := [.int p1]) (st := []) (o := 1) hc dX8_say_20 cv_X4_lay lk_RX8_75 (q_s hSH sh_1) rfl rfl (q_cn hSH (S_Pa_lay h1)) (by decide) (Nat.le_of_ble_eq_true rfl) ?_
      refine x_if_eq (tgt := 36) hc dX8_say_23 (by decide) (fun hb => ?_) (fun hb => ?_)
      · have h := ite_t hb h
        refine x_bipush hc dX8_say_36 kb_m4 ?_
        cases h
        exact x_iret hc dX8_say_38 hr hM
      · have h := ite_f hb h
        refine x_aload_n hc dX8_say_26 rfl 0 rfl ?_
        refine x_getR hc dX8_say_27 fl_RX8_10 (q_s hSH sh_0) rfl ?_
        obtain ⟨q2, h2, h⟩ := bd_some h
        refine x_callVi (As := []) (st := []) (o := 1) hc dX8_say_30 cv_X4_length lk_RX8_79 (q_s hSH sh_1) rfl rfl (q_cn hSH (S_Pa_length h2)) (by decide) (Nat.le_of_ble_eq_true rfl) ?_
        refine x_goto (tgt := 38) hc dX8_say_33 (by decide) ?_
        cases h
        exact x_iret hc dX8_say_38 hr hM
    · have h := ite_f hb h
      refine x_bipush hc dX8_say_12 kb_m2 ?_
      cases h
      exact x_iret hc dX8_say_14 hr hM

def Kn_size (M : QM) : Option (Int32 × QM) :=
  Option.bind (Va_read (-7 : Int32) M) (fun q1 => (if q1.1 = (-6 : Int32) then Option.bind (Va_valuesRead q1.2) (fun q2 => some (q2, q1.2)) else some ((-5 : Int32), q1.2)))

set_option maxRecDepth 20000 in
set_option maxHeartbeats 2000000 in
theorem S_Kn_size  {M : QM} {res : Int32 × QM} (h : Kn_size M = some res) : Cn yX8_size cX8_size 1 (some .int) 6 SHK [.ref 0] M (some (.int res.1)) res.2 := by
  refine q_enter (L := [(0, .ref 0)]) (by decide) (Nat.le_of_ble_eq_true rfl) rfl ?_
  intro C hc hSH hr hM
  have hc : OKX C RX8 cX8_size 1 6 (some .int) := hc
  unfold Kn_size at h
  refine x_aload_n hc dX8_size_0 rfl 0 rfl ?_
  refine x_getR hc dX8_size_1 fl_RX8_57 (q_s hSH sh_0) rfl ?_
  refine x_bipush hc dX8_size_4 kb_m7 ?_
  obtain ⟨q1, h1, h⟩ := bd_some h
  refine x_callVi (As := [.int (-7 : Int32)]) (st := []) (o := 24) hc dX8_size_6 cv_X7_read lk_RX8_155 (q_s hSH sh_24) rfl rfl (q_cn hSH (S_Va_read h1)) (by decide) (Nat.le_of_ble_eq_true rfl) ?_
  refine x_bipush hc dX8_size_9 kb_m6 ?_
  refine x_icmp_ne (tgt := 24) hc dX8_size_11 (by decide) (fun hb => ?_) (fun hb => ?_)
  · have h := ite_f hb h
    refine x_bipush hc dX8_size_24 kb_m5 ?_
    cases h
    exact x_iret hc dX8_size_26 hr hM
  · have h := ite_t hb h
    refine x_aload_n hc dX8_size_14 rfl 0 rfl ?_
    refine x_getR hc dX8_size_15 fl_RX8_57 (q_s hSH sh_0) rfl ?_
    obtain ⟨q2, h2, h⟩ := bd_some h
    refine x_callVi (As := []) (st := []) (o := 24) hc dX8_size_18 cv_X7_valuesRead lk_RX8_160 (q_s hSH sh_24) rfl rfl (q_cn hSH (S_Va_valuesRead h2)) (by decide) (Nat.le_of_ble_eq_true rfl) ?_
    refine x_goto (tgt := 26) hc dX8_size_21 (by decide) ?_
    cases h
    exact x_iret hc dX8_size_26 hr hM

def Kn_slip (M : QM) : Option (Int32 × QM) :=
  Option.bind (Va_read (-7 : Int32) M) (fun q1 => some (q1.1, q1.2))

set_option maxRecDepth 20000 in
set_option maxHeartbeats 2000000 in
theorem S_Kn_slip  {M : QM} {res : Int32 × QM} (h : Kn_slip M = some res) : Cn yX8_slip cX8_slip 1 (some .int) 6 SHK [.ref 0] M (some (.int res.1)) res.2 := by
  refine q_enter (L := [(0, .ref 0)]) (by decide) (Nat.le_of_ble_eq_true rfl) rfl ?_
  intro C hc hSH hr hM
  have hc : OKX C RX8 cX8_slip 1 6 (some .int) := hc
  unfold Kn_slip at h
  refine x_aload_n hc dX8_slip_0 rfl 0 rfl ?_
  refine x_getR hc dX8_slip_1 fl_RX8_57 (q_s hSH sh_0) rfl ?_
  refine x_bipush hc dX8_slip_4 kb_m7 ?_
  obtain ⟨q1, h1, h⟩ := bd_some h
  refine x_callVi (As := [.int (-7 : Int32)]) (st := []) (o := 24) hc dX8_slip_6 cv_X7_read lk_RX8_155 (q_s hSH sh_24) rfl rfl (q_cn hSH (S_Va_read h1)) (by decide) (Nat.le_of_ble_eq_true rfl) ?_
  cases h
  exact x_iret hc dX8_slip_9 hr hM

def Kn_take (M : QM) : Option (Int32 × QM) :=
  Option.bind (Te_read M) (fun q1 => (if q1.1 = (-6 : Int32) then Option.bind (Te_allNamesComeToNodes q1.2) (fun q2 => (if q2 = 0 then some ((-5 : Int32), q1.2) else Option.bind (Te_nodesRead q1.2) (fun q3 => (if q3 ≤ (40 : Int32) then Option.bind (Te_copyInto q1.2) (fun q4 => Option.bind (Pa_clear q4) (fun q5 => Option.bind (St_forget q5) (fun q6 => Option.bind (Co_forget q6) (fun q7 => Option.bind (Le_forget q7) (fun q8 => Option.bind (Ne_nodes q8) (fun q9 => some (q9, q8))))))) else some ((-4 : Int32), q1.2))))) else some ((-5 : Int32), q1.2)))

set_option maxRecDepth 20000 in
set_option maxHeartbeats 2000000 in
theorem S_Kn_take  {M : QM} {res : Int32 × QM} (h : Kn_take M = some res) : Cn yX8_take cX8_take 1 (some .int) 49 SHK [.ref 0] M (some (.int res.1)) res.2 := by
  refine q_enter (L := [(0, .ref 0)]) (by decide) (Nat.le_of_ble_eq_true rfl) rfl ?_
  intro C hc hSH hr hM
  have hc : OKX C RX8 cX8_take 1 49 (some .int) := hc
  unfold Kn_take at h
  refine x_aload_n hc dX8_take_0 rfl 0 rfl ?_
  refine x_getR hc dX8_take_1 fl_RX8_30 (q_s hSH sh_0) rfl ?_
  obtain ⟨q1, h1, h⟩ := bd_some h
  refine x_callVi (As := []) (st := []) (o := 8) hc dX8_take_4 cv_X6_read lk_RX8_86 (q_s hSH sh_8) rfl rfl (q_cn hSH (S_Te_read h1)) (by decide) (Nat.le_of_ble_eq_true rfl) ?_
  refine x_bipush hc dX8_take_7 kb_m6 ?_
  refine x_icmp_ne (tgt := 22) hc dX8_take_9 (by decide) (fun hb => ?_) (fun hb => ?_)
  · have h := ite_f hb h
    refine x_bipush hc dX8_take_22 kb_m5 ?_
    cases h
    exact x_iret hc dX8_take_24 hr hM
  · have h := ite_t hb h
    refine x_aload_n hc dX8_take_12 rfl 0 rfl ?_
    refine x_getR hc dX8_take_13 fl_RX8_30 (q_s hSH sh_0) rfl ?_
    obtain ⟨q2, h2, h⟩ := bd_some h
    refine x_callVi (As := []) (st := []) (o := 8) hc dX8_take_16 cv_X6_allNamesComeToNodes lk_RX8_89 (q_s hSH sh_8) rfl rfl (q_cn hSH (S_Te_allNamesComeToNodes h2)) (by decide) (Nat.le_of_ble_eq_true rfl) ?_
    refine x_if_ne (tgt := 25) hc dX8_take_19 (by decide) (fun hb => ?_) (fun hb => ?_)
    · have h := ite_f hb h
      refine x_aload_n hc dX8_take_25 rfl 0 rfl ?_
      refine x_getR hc dX8_take_26 fl_RX8_30 (q_s hSH sh_0) rfl ?_
      obtain ⟨q3, h3, h⟩ := bd_some h
      refine x_callVi (As := []) (st := []) (o := 8) hc dX8_take_29 cv_X6_nodesRead lk_RX8_93 (q_s hSH sh_8) rfl rfl (q_cn hSH (S_Te_nodesRead h3)) (by decide) (Nat.le_of_ble_eq_true rfl) ?_
      refine x_bipush hc dX8_take_32 kb_40 ?_
      refine x_icmp_le (tgt := 40) hc dX8_take_34 (by decide) (fun hb => ?_) (fun hb => ?_)
      · have h := ite_t hb h
        refine x_aload_n hc dX8_take_40 rfl 0 rfl ?_
        refine x_getR hc dX8_take_41 fl_RX8_30 (q_s hSH sh_0) rfl ?_
        refine x_aload_n hc dX8_take_44 rfl 0 rfl ?_
        refine x_getR hc dX8_take_45 fl_RX8_21 (q_s hSH sh_0) rfl ?_
        obtain ⟨q4, h4, h⟩ := bd_some h
        refine x_callVv (As := [.ref 3]) (st := []) (o := 8) hc dX8_take_48 cv_X6_copyInto lk_RX8_96 (q_s hSH sh_8) rfl rfl (q_cn hSH (S_Te_copyInto h4)) (by decide) (Nat.le_of_ble_eq_true rfl) ?_
        refine x_aload_n hc dX8_take_51 rfl 0 rfl ?_
        refine x_getR hc dX8_take_52 fl_RX8_10 (q_s hSH sh_0) rfl ?_
        obtain ⟨q5, h5, h⟩ := bd_some h
        refine x_callVv (As := []) (st := []) (o := 1) hc dX8_take_55 cv_X4_clear lk_RX8_83 (q_s hSH sh_1) rfl rfl (q_cn hSH (S_Pa_clear h5)) (by decide) (Nat.le_of_ble_eq_true rfl) ?_
        refine x_aload_n hc dX8_take_58 rfl 0 rfl ?_
        refine x_getR hc dX8_take_59 fl_RX8_39 (q_s hSH sh_0) rfl ?_
        obtain ⟨q6, h6, h⟩ := bd_some h
        refine x_callVv (As := []) (st := []) (o := 14) hc dX8_take_62 cv_X5_forget lk_RX8_99 (q_s hSH sh_14) rfl rfl (q_cn hSH (S_St_forget h6)) (by decide) (Nat.le_of_ble_eq_true rfl) ?_
        refine x_aload_n hc dX8_take_65 rfl 0 rfl ?_
        refine x_getR hc dX8_take_66 fl_RX8_64 (q_s hSH sh_0) rfl ?_
        obtain ⟨q7, h7, h⟩ := bd_some h
        refine x_callVv (As := []) (st := []) (o := 28) hc dX8_take_69 cv_X0_forget lk_RX8_102 (q_s hSH sh_28) rfl rfl (q_cn hSH (S_Co_forget h7)) (by decide) (Nat.le_of_ble_eq_true rfl) ?_
        refine x_aload_n hc dX8_take_72 rfl 0 rfl ?_
        refine x_getR hc dX8_take_73 fl_RX8_71 (q_s hSH sh_0) rfl ?_
        obtain ⟨q8, h8, h⟩ := bd_some h
        refine x_callVv (As := []) (st := []) (o := 31) hc dX8_take_76 cv_X2_forget lk_RX8_103 (q_s hSH sh_31) rfl rfl (q_cn hSH (S_Le_forget h8)) (by decide) (Nat.le_of_ble_eq_true rfl) ?_
        refine x_aload_n hc dX8_take_79 rfl 0 rfl ?_
        refine x_getR hc dX8_take_80 fl_RX8_21 (q_s hSH sh_0) rfl ?_
        obtain ⟨q9, h9, h⟩ := bd_some h
        refine x_callVi (As := []) (st := []) (o := 3) hc dX8_take_83 cv_X3_nodes lk_RX8_104 (q_s hSH sh_3) rfl rfl (q_cn hSH (S_Ne_nodes h9)) (by decide) (Nat.le_of_ble_eq_true rfl) ?_
        cases h
        exact x_iret hc dX8_take_86 hr hM
      · have h := ite_f hb h
        refine x_bipush hc dX8_take_37 kb_m4 ?_
        cases h
        exact x_iret hc dX8_take_39 hr hM
    · have h := ite_t hb h
      refine x_bipush hc dX8_take_22 kb_m5 ?_
      cases h
      exact x_iret hc dX8_take_24 hr hM

def Kn_told (p1 : Int32) (M : QM) : Option (Int32 × QM) :=
  (if p1 = 0 then Option.bind (Pa_length M) (fun q1 => some (q1, M)) else if p1 = 1 then Option.bind (Ne_nodes M) (fun q3 => some (q3, M)) else if p1 = 2 then Option.bind (Ne_namesTold M) (fun q5 => some (q5, M)) else if p1 = 3 then Option.bind (Le_emptyNodes M) (fun q7 => some (q7.1, q7.2)) else if p1 = 4 then Option.bind (St_catchUp M) (fun q9 => Option.bind (St_pairsThatMay q9) (fun q10 => some (q10, q9))) else some ((-2 : Int32), M))

set_option maxRecDepth 20000 in
set_option maxHeartbeats 2000000 in
theorem S_Kn_told  {p1 : Int32} {M : QM} {res : Int32 × QM} (h : Kn_told p1 M = some res) : Cn yX8_told cX8_told 2 (some .int) 6 SHK [.ref 0, .int p1] M (some (.int res.1)) res.2 := by
  refine q_enter (L := [(0, .ref 0), (1, .int p1)]) (by decide) (Nat.le_of_ble_eq_true rfl) rfl ?_
  intro C hc hSH hr hM
  have hc : OKX C RX8 cX8_told 2 6 (some .int) := hc
  unfold Kn_told at h
  refine x_iload_n hc dX8_told_0 rfl 1 rfl ?_
  by_cases s2 : p1 = 0
  · have h := ite_t s2 h
    refine x_tableIn (off := 35) (tgt := 36) hc dX8_told_1 (by rw [s2]; decide) (by rw [s2]; decide) (by rw [s2]; rfl) (by decide) ?_
    refine x_aload_n hc dX8_told_36 rfl 0 rfl ?_
    refine x_getR hc dX8_told_37 fl_RX8_10 (q_s hSH sh_0) rfl ?_
    obtain ⟨q1, h1, h⟩ := bd_some h
    refine x_callVi (As := []) (st := []) (o := 1) hc dX8_told_40 cv_X4_length lk_RX8_79 (q_s hSH sh_1) rfl rfl (q_cn hSH (S_Pa_length h1)) (by decide) (Nat.le_of_ble_eq_true rfl) ?_
    cases h
    exact x_iret hc dX8_told_43 hr hM
  · have h := ite_f s2 h
    by_cases s4 : p1 = 1
    · have h := ite_t s4 h
      refine x_tableIn (off := 43) (tgt := 44) hc dX8_told_1 (by rw [s4]; decide) (by rw [s4]; decide) (by rw [s4]; rfl) (by decide) ?_
      refine x_aload_n hc dX8_told_44 rfl 0 rfl ?_
      refine x_getR hc dX8_told_45 fl_RX8_21 (q_s hSH sh_0) rfl ?_
      obtain ⟨q3, h3, h⟩ := bd_some h
      refine x_callVi (As := []) (st := []) (o := 3) hc dX8_told_48 cv_X3_nodes lk_RX8_104 (q_s hSH sh_3) rfl rfl (q_cn hSH (S_Ne_nodes h3)) (by decide) (Nat.le_of_ble_eq_true rfl) ?_
      cases h
      exact x_iret hc dX8_told_51 hr hM
    · have h := ite_f s4 h
      by_cases s6 : p1 = 2
      · have h := ite_t s6 h
        refine x_tableIn (off := 51) (tgt := 52) hc dX8_told_1 (by rw [s6]; decide) (by rw [s6]; decide) (by rw [s6]; rfl) (by decide) ?_
        refine x_aload_n hc dX8_told_52 rfl 0 rfl ?_
        refine x_getR hc dX8_told_53 fl_RX8_21 (q_s hSH sh_0) rfl ?_
        obtain ⟨q5, h5, h⟩ := bd_some h
        refine x_callVi (As := []) (st := []) (o := 3) hc dX8_told_56 cv_X3_namesTold lk_RX8_169 (q_s hSH sh_3) rfl rfl (q_cn hSH (S_Ne_namesTold h5)) (by decide) (Nat.le_of_ble_eq_true rfl) ?_
        cases h
        exact x_iret hc dX8_told_59 hr hM
      · have h := ite_f s6 h
        by_cases s8 : p1 = 3
        · have h := ite_t s8 h
          refine x_tableIn (off := 59) (tgt := 60) hc dX8_told_1 (by rw [s8]; decide) (by rw [s8]; decide) (by rw [s8]; rfl) (by decide) ?_
          refine x_aload_n hc dX8_told_60 rfl 0 rfl ?_
          refine x_getR hc dX8_told_61 fl_RX8_71 (q_s hSH sh_0) rfl ?_
          obtain ⟨q7, h7, h⟩ := bd_some h
          refine x_callVi (As := []) (st := []) (o := 31) hc dX8_told_64 cv_X2_emptyNodes lk_RX8_172 (q_s hSH sh_31) rfl rfl (q_cn hSH (S_Le_emptyNodes h7)) (by decide) (Nat.le_of_ble_eq_true rfl) ?_
          cases h
          exact x_iret hc dX8_told_67 hr hM
        · have h := ite_f s8 h
          by_cases s11 : p1 = 4
          · have h := ite_t s11 h
            refine x_tableIn (off := 67) (tgt := 68) hc dX8_told_1 (by rw [s11]; decide) (by rw [s11]; decide) (by rw [s11]; rfl) (by decide) ?_
            refine x_aload_n hc dX8_told_68 rfl 0 rfl ?_
            refine x_getR hc dX8_told_69 fl_RX8_39 (q_s hSH sh_0) rfl ?_
            obtain ⟨q9, h9, h⟩ := bd_some h
            refine x_callVv (As := []) (st := []) (o := 14) hc dX8_told_72 cv_X5_catchUp lk_RX8_129 (q_s hSH sh_14) rfl rfl (q_cn hSH (S_St_catchUp h9)) (by decide) (Nat.le_of_ble_eq_true rfl) ?_
            refine x_aload_n hc dX8_told_75 rfl 0 rfl ?_
            refine x_getR hc dX8_told_76 fl_RX8_39 (q_s hSH sh_0) rfl ?_
            obtain ⟨q10, h10, h⟩ := bd_some h
            refine x_callVi (As := []) (st := []) (o := 14) hc dX8_told_79 cv_X5_pairsThatMay lk_RX8_175 (q_s hSH sh_14) rfl rfl (q_cn hSH (S_St_pairsThatMay h10)) (by decide) (Nat.le_of_ble_eq_true rfl) ?_
            cases h
            exact x_iret hc dX8_told_82 hr hM
          · have h := ite_f s11 h
            refine x_tableOut (tgt := 83) hc dX8_told_1 (by have := lv_neT s2 (a := 0) (by decide); have := lv_neT s4 (a := 1) (by decide); have := lv_neT s6 (a := 2) (by decide); have := lv_neT s8 (a := 3) (by decide); have := lv_neT s11 (a := 4) (by decide); omega) (by decide) ?_
            refine x_bipush hc dX8_told_83 kb_m2 ?_
            cases h
            exact x_iret hc dX8_told_85 hr hM

def Kn_way (p1 : Int32) (p2 : Int32) (p3 : Int32) (M : QM) : Option (Int32 × QM) :=
  Option.bind (Ne_has p1 M) (fun q1 => (if q1 = 0 then some ((-1 : Int32), M) else Option.bind (Ne_has p2 M) (fun q2 => (if q2 = 0 then some ((-1 : Int32), M) else Option.bind (St_catchUp M) (fun q3 => (if p3 = (-1 : Int32) then Option.bind (St_stepsDown p1 p2 q3) (fun q5 => some (q5, q3)) else Option.bind (St_stepDown p1 p2 p3 q3) (fun q4 => some (q4, q3))))))))

set_option maxRecDepth 20000 in
set_option maxHeartbeats 2000000 in
theorem S_Kn_way  {p1 : Int32} {p2 : Int32} {p3 : Int32} {M : QM} {res : Int32 × QM} (h : Kn_way p1 p2 p3 M = some res) : Cn yX8_way cX8_way 4 (some .int) 5 SHK [.ref 0, .int p1, .int p2, .int p3] M (some (.int res.1)) res.2 := by
  refine q_enter (L := [(0, .ref 0), (1, .int p1), (2, .int p2), (3, .int p3)]) (by decide) (Nat.le_of_ble_eq_true rfl) rfl ?_
  intro C hc hSH hr hM
  have hc : OKX C RX8 cX8_way 4 5 (some .int) := hc
  unfold Kn_way at h
  refine x_aload_n hc dX8_way_0 rfl 0 rfl ?_
  refine x_getR hc dX8_way_1 fl_RX8_21 (q_s hSH sh_0) rfl ?_
  refine x_iload_n hc dX8_way_4 rfl 1 rfl ?_
  obtain ⟨q1, h1, h⟩ := bd_some h
  refine x_callVi (As := [.int p1]) (st := []) (o := 3) hc dX8_way_5 cv_X3_has lk_RX8_111 (q_s hSH sh_3) rfl rfl (q_cn hSH (S_Ne_has h1)) (by decide) (Nat.le_of_ble_eq_true rfl) ?_
  refine x_if_eq (tgt := 22) hc dX8_way_8 (by decide) (fun hb => ?_) (fun hb => ?_)
  · have h := ite_t hb h
    refine x_iconst hc dX8_way_22 kc_m1 ?_
    cases h
    exact x_iret hc dX8_way_23 hr hM
  · have h := ite_f hb h
    refine x_aload_n hc dX8_way_11 rfl 0 rfl ?_
    refine x_getR hc dX8_way_12 fl_RX8_21 (q_s hSH sh_0) rfl ?_
    refine x_iload_n hc dX8_way_15 rfl 2 rfl ?_
    obtain ⟨q2, h2, h⟩ := bd_some h
    refine x_callVi (As := [.int p2]) (st := []) (o := 3) hc dX8_way_16 cv_X3_has lk_RX8_111 (q_s hSH sh_3) rfl rfl (q_cn hSH (S_Ne_has h2)) (by decide) (Nat.le_of_ble_eq_true rfl) ?_
    refine x_if_ne (tgt := 24) hc dX8_way_19 (by decide) (fun hb => ?_) (fun hb => ?_)
    · have h := ite_f hb h
      refine x_aload_n hc dX8_way_24 rfl 0 rfl ?_
      refine x_getR hc dX8_way_25 fl_RX8_39 (q_s hSH sh_0) rfl ?_
      obtain ⟨q3, h3, h⟩ := bd_some h
      refine x_callVv (As := []) (st := []) (o := 14) hc dX8_way_28 cv_X5_catchUp lk_RX8_129 (q_s hSH sh_14) rfl rfl (q_cn hSH (S_St_catchUp h3)) (by decide) (Nat.le_of_ble_eq_true rfl) ?_
      refine x_iload_n hc dX8_way_31 rfl 3 rfl ?_
      refine x_iconst hc dX8_way_32 kc_m1 ?_
      refine x_icmp_ne (tgt := 48) hc dX8_way_33 (by decide) (fun hb => ?_) (fun hb => ?_)
      · have h := ite_f hb h
        refine x_aload_n hc dX8_way_48 rfl 0 rfl ?_
        refine x_getR hc dX8_way_49 fl_RX8_39 (q_s hSH sh_0) rfl ?_
        refine x_iload_n hc dX8_way_52 rfl 1 rfl ?_
        refine x_iload_n hc dX8_way_53 rfl 2 rfl ?_
        refine x_iload_n hc dX8_way_54 rfl 3 rfl ?_
        obtain ⟨q4, h4, h⟩ := bd_some h
        refine x_callVi (As := [.int p1, .int p2, .int p3]) (st := []) (o := 14) hc dX8_way_55 cv_X5_stepDown lk_RX8_139 (q_s hSH sh_14) rfl rfl (q_cn hSH (S_St_stepDown h4)) (by decide) (Nat.le_of_ble_eq_true rfl) ?_
        cases h
        exact x_iret hc dX8_way_58 hr hM
      · have h := ite_t hb h
        refine x_aload_n hc dX8_way_36 rfl 0 rfl ?_
        refine x_getR hc dX8_way_37 fl_RX8_39 (q_s hSH sh_0) rfl ?_
        refine x_iload_n hc dX8_way_40 rfl 1 rfl ?_
        refine x_iload_n hc dX8_way_41 rfl 2 rfl ?_
        obtain ⟨q5, h5, h⟩ := bd_some h
        refine x_callVi (As := [.int p1, .int p2]) (st := []) (o := 14) hc dX8_way_42 cv_X5_stepsDown lk_RX8_136 (q_s hSH sh_14) rfl rfl (q_cn hSH (S_St_stepsDown h5)) (by decide) (Nat.le_of_ble_eq_true rfl) ?_
        refine x_goto (tgt := 58) hc dX8_way_45 (by decide) ?_
        cases h
        exact x_iret hc dX8_way_58 hr hM
    · have h := ite_t hb h
      refine x_iconst hc dX8_way_22 kc_m1 ?_
      cases h
      exact x_iret hc dX8_way_23 hr hM

def Kn_wipe (M : QM) : Option (Int32 × QM) :=
  Option.bind (Pa_length M) (fun q1 => Option.bind (Pa_clear M) (fun q2 => some (q1, q2)))

set_option maxRecDepth 20000 in
set_option maxHeartbeats 2000000 in
theorem S_Kn_wipe  {M : QM} {res : Int32 × QM} (h : Kn_wipe M = some res) : Cn yX8_wipe cX8_wipe 2 (some .int) 1 SHK [.ref 0] M (some (.int res.1)) res.2 := by
  refine q_enter (L := [(0, .ref 0)]) (by decide) (Nat.le_of_ble_eq_true rfl) rfl ?_
  intro C hc hSH hr hM
  have hc : OKX C RX8 cX8_wipe 2 1 (some .int) := hc
  unfold Kn_wipe at h
  refine x_aload_n hc dX8_wipe_0 rfl 0 rfl ?_
  refine x_getR hc dX8_wipe_1 fl_RX8_10 (q_s hSH sh_0) rfl ?_
  obtain ⟨q1, h1, h⟩ := bd_some h
  refine x_callVi (As := []) (st := []) (o := 1) hc dX8_wipe_4 cv_X4_length lk_RX8_79 (q_s hSH sh_1) rfl rfl (q_cn hSH (S_Pa_length h1)) (by decide) (Nat.le_of_ble_eq_true rfl) ?_
  refine x_istore_n (L2 := [(1, .int q1), (0, .ref 0)]) hc dX8_wipe_7 rfl (by decide) rfl ?_
  refine x_aload_n hc dX8_wipe_8 rfl 1 rfl ?_
  refine x_getR hc dX8_wipe_9 fl_RX8_10 (q_s hSH sh_0) rfl ?_
  obtain ⟨q2, h2, h⟩ := bd_some h
  refine x_callVv (As := []) (st := []) (o := 1) hc dX8_wipe_12 cv_X4_clear lk_RX8_83 (q_s hSH sh_1) rfl rfl (q_cn hSH (S_Pa_clear h2)) (by decide) (Nat.le_of_ble_eq_true rfl) ?_
  refine x_iload_n hc dX8_wipe_15 rfl 0 rfl ?_
  cases h
  exact x_iret hc dX8_wipe_16 hr hM

