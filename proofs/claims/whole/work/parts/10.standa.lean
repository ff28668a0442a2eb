def St_stepsOfPair (p1 : Int32) (M : QM) : Option (Int32) :=
  (if p1 < 0 then some (1000000 : Int32) else (if (3600 : Int32) ≤ p1 then some (1000000 : Int32) else ck (inb p1 3600) (some (M.1 15 p1.toNatClampNeg))))

set_option maxRecDepth 20000 in
set_option maxHeartbeats 2000000 in
theorem S_St_stepsOfPair  {p1 : Int32} {M : QM} {res : Int32} (h : St_stepsOfPair p1 M = some res) : Cn yX5_stepsOfPair cX5_stepsOfPair 2 (some .int) 0 SHK [.ref 14, .int p1] M (some (.int res)) M := by
  refine q_enter (L := [(0, .ref 14), (1, .int p1)]) (by decide) (Nat.le_of_ble_eq_true rfl) rfl ?_
  intro C hc hSH hr hM
  have hc : OKX C RX5 cX5_stepsOfPair 2 0 (some .int) := hc
  unfold St_stepsOfPair at h
  refine x_iload_n hc dX5_stepsOfPair_0 rfl 1 rfl ?_
  refine x_if_lt (tgt := 20) hc dX5_stepsOfPair_1 (by decide) (fun hb => ?_) (fun hb => ?_)
  · have h := ite_t hb h
    refine x_ldc hc dX5_stepsOfPair_20 kd_RX5_50 ?_
    cases h
    exact x_iret hc dX5_stepsOfPair_22 hr hM
  · have h := ite_f hb h
    refine x_iload_n hc dX5_stepsOfPair_4 rfl 1 rfl ?_
    refine x_sipush hc dX5_stepsOfPair_5 ks_3600 ?_
    refine x_icmp_ge (tgt := 20) hc dX5_stepsOfPair_8 (by decide) (fun hb => ?_) (fun hb => ?_)
    · have h := ite_t hb h
      refine x_ldc hc dX5_stepsOfPair_20 kd_RX5_50 ?_
      cases h
      exact x_iret hc dX5_stepsOfPair_22 hr hM
    · have h := ite_f hb h
      refine x_aload_n hc dX5_stepsOfPair_11 rfl 0 rfl ?_
      refine x_getR hc dX5_stepsOfPair_12 fl_RX5_15 (q_s hSH sh_14) rfl ?_
      refine x_iload_n hc dX5_stepsOfPair_15 rfl 1 rfl ?_
      obtain ⟨b1, h⟩ := ck_some h
      refine x_iald hc dX5_stepsOfPair_16 (q_s hSH sh_15) (inb_in b1) ?_
      refine x_goto (tgt := 22) hc dX5_stepsOfPair_17 (by decide) ?_
      cases h
      exact x_iret hc dX5_stepsOfPair_22 hr hM

def St_stepsOf (p1 : Int32) (p2 : Int32) (M : QM) : Option (Int32) :=
  Option.bind (St_stepsOfPair ((p1 * (60 : Int32)) + p2) M) (fun q1 => some q1)

set_option maxRecDepth 20000 in
set_option maxHeartbeats 2000000 in
theorem S_St_stepsOf  {p1 : Int32} {p2 : Int32} {M : QM} {res : Int32} (h : St_stepsOf p1 p2 M = some res) : Cn yX5_stepsOf cX5_stepsOf 3 (some .int) 1 SHK [.ref 14, .int p1, .int p2] M (some (.int res)) M := by
  refine q_enter (L := [(0, .ref 14), (1, .int p1), (2, .int p2)]) (by decide) (Nat.le_of_ble_eq_true rfl) rfl ?_
  intro C hc hSH hr hM
  have hc : OKX C RX5 cX5_stepsOf 3 1 (some .int) := hc
  unfold St_stepsOf at h
  refine x_aload_n hc dX5_stepsOf_0 rfl 0 rfl ?_
  refine x_iload_n hc dX5_stepsOf_1 rfl 1 rfl ?_
  refine x_bipush hc dX5_stepsOf_2 kb_60 ?_
  refine x_imul hc dX5_stepsOf_4 ?_
  refine x_iload_n hc dX5_stepsOf_5 rfl 2 rfl ?_
  refine x_iadd hc dX5_stepsOf_6 ?_
  obtain ⟨q1, h1, h⟩ := bd_some h
  refine x_callVi (As := [.int ((p1 * (60 : Int32)) + p2)]) (st := []) (o := 14) hc dX5_stepsOf_7 cv_X5_stepsOfPair lk_RX5_106 (q_s hSH sh_14) rfl rfl (q_cn hSH (S_St_stepsOfPair h1)) (by decide) (Nat.le_of_ble_eq_true rfl) ?_
  cases h
  exact x_iret hc dX5_stepsOf_10 hr hM

def St_mayStand (p1 : Int32) (p2 : Int32) (M : QM) : Option (Int32) :=
  Option.bind (St_stepsOf p1 p2 M) (fun q1 => (if q1 = (1000000 : Int32) then some (1 : Int32) else some (0 : Int32)))

set_option maxRecDepth 20000 in
set_option maxHeartbeats 2000000 in
theorem S_St_mayStand  {p1 : Int32} {p2 : Int32} {M : QM} {res : Int32} (h : St_mayStand p1 p2 M = some res) : Cn yX5_mayStand cX5_mayStand 3 (some .boolean) 2 SHK [.ref 14, .int p1, .int p2] M (some (.int res)) M := by
  refine q_enter (L := [(0, .ref 14), (1, .int p1), (2, .int p2)]) (by decide) (Nat.le_of_ble_eq_true rfl) rfl ?_
  intro C hc hSH hr hM
  have hc : OKX C RX5 cX5_mayStand 3 2 (some .boolean) := hc
  unfold St_mayStand at h
  refine x_aload_n hc dX5_mayStand_0 rfl 0 rfl ?_
  refine x_iload_n hc dX5_mayStand_1 rfl 1 rfl ?_
  refine x_iload_n hc dX5_mayStand_2 rfl 2 rfl ?_
  obtain ⟨q1, h1, h⟩ := bd_some h
  refine x_callVi (As := [.int p1, .int p2]) (st := []) (o := 14) hc dX5_mayStand_3 cv_X5_stepsOf lk_RX5_46 (q_s hSH sh_14) rfl rfl (q_cn hSH (S_St_stepsOf h1)) (by decide) (Nat.le_of_ble_eq_true rfl) ?_
  refine x_ldc hc dX5_mayStand_6 kd_RX5_50 ?_
  refine x_icmp_ne (tgt := 15) hc dX5_mayStand_8 (by decide) (fun hb => ?_) (fun hb => ?_)
  · have h := ite_f hb h
    refine x_iconst hc dX5_mayStand_15 kc_0 ?_
    cases h
    exact x_zret hc dX5_mayStand_16 nar_0 hr hM
  · have h := ite_t hb h
    refine x_iconst hc dX5_mayStand_11 kc_1 ?_
    refine x_goto (tgt := 16) hc dX5_mayStand_12 (by decide) ?_
    cases h
    exact x_zret hc dX5_mayStand_16 nar_1 hr hM

def St_areAlike (p1 : Int32) (p2 : Int32) (M : QM) : Option (Int32) :=
  Option.bind (St_mayStand p1 p2 M) (fun q1 => (if q1 = 0 then some (0 : Int32) else Option.bind (St_mayStand p2 p1 M) (fun q2 => (if q2 = 0 then some (0 : Int32) else some (1 : Int32)))))

set_option maxRecDepth 20000 in
set_option maxHeartbeats 2000000 in
theorem S_St_areAlike  {p1 : Int32} {p2 : Int32} {M : QM} {res : Int32} (h : St_areAlike p1 p2 M = some res) : Cn yX5_areAlike cX5_areAlike 3 (some .boolean) 3 SHK [.ref 14, .int p1, .int p2] M (some (.int res)) M := by
  refine q_enter (L := [(0, .ref 14), (1, .int p1), (2, .int p2)]) (by decide) (Nat.le_of_ble_eq_true rfl) rfl ?_
  intro C hc hSH hr hM
  have hc : OKX C RX5 cX5_areAlike 3 3 (some .boolean) := hc
  unfold St_areAlike at h
  refine x_aload_n hc dX5_areAlike_0 rfl 0 rfl ?_
  refine x_iload_n hc dX5_areAlike_1 rfl 1 rfl ?_
  refine x_iload_n hc dX5_areAlike_2 rfl 2 rfl ?_
  obtain ⟨q1, h1, h⟩ := bd_some h
  refine x_callVi (As := [.int p1, .int p2]) (st := []) (o := 14) hc dX5_areAlike_3 cv_X5_mayStand lk_RX5_51 (q_s hSH sh_14) rfl rfl (q_cn hSH (S_St_mayStand h1)) (by decide) (Nat.le_of_ble_eq_true rfl) ?_
  refine x_if_eq (tgt := 22) hc dX5_areAlike_6 (by decide) (fun hb => ?_) (fun hb => ?_)
  · have h := ite_t hb h
    refine x_iconst hc dX5_areAlike_22 kc_0 ?_
    cases h
    exact x_zret hc dX5_areAlike_23 nar_0 hr hM
  · have h := ite_f hb h
    refine x_aload_n hc dX5_areAlike_9 rfl 0 rfl ?_
    refine x_iload_n hc dX5_areAlike_10 rfl 2 rfl ?_
    refine x_iload_n hc dX5_areAlike_11 rfl 1 rfl ?_
    obtain ⟨q2, h2, h⟩ := bd_some h
    refine x_callVi (As := [.int p2, .int p1]) (st := []) (o := 14) hc dX5_areAlike_12 cv_X5_mayStand lk_RX5_51 (q_s hSH sh_14) rfl rfl (q_cn hSH (S_St_mayStand h2)) (by decide) (Nat.le_of_ble_eq_true rfl) ?_
    refine x_if_eq (tgt := 22) hc dX5_areAlike_15 (by decide) (fun hb => ?_) (fun hb => ?_)
    · have h := ite_t hb h
      refine x_iconst hc dX5_areAlike_22 kc_0 ?_
      cases h
      exact x_zret hc dX5_areAlike_23 nar_0 hr hM
    · have h := ite_f hb h
      refine x_iconst hc dX5_areAlike_18 kc_1 ?_
      refine x_goto (tgt := 23) hc dX5_areAlike_19 (by decide) ?_
      cases h
      exact x_zret hc dX5_areAlike_23 nar_1 hr hM

def St_fitByThemselves (p1 : Int32) (p2 : Int32) (M : QM) : Option (Int32) :=
  Option.bind (Ne_signOf p1 M) (fun q1 => (if q1 = (33 : Int32) then some (1 : Int32) else Option.bind (Ne_signOf p2 M) (fun q2 => (if q2 = (46 : Int32) then some (1 : Int32) else Option.bind (Ne_signOf p2 M) (fun q3 => (if q1 = q3 then (if q1 = (123 : Int32) then Option.bind (Ne_slotsOf p2 M) (fun q6 => Option.bind (Ne_slotsOf p1 M) (fun q7 => (if (q6 &&& (q7 ^^^ (-1 : Int32))) = 0 then some (1 : Int32) else some (0 : Int32)))) else (if q1 = (91 : Int32) then Option.bind (Ne_slotsOf p1 M) (fun q4 => Option.bind (Ne_slotsOf p2 M) (fun q5 => (if (q4 &&& (q5 ^^^ (-1 : Int32))) = 0 then some (1 : Int32) else some (0 : Int32)))) else some (1 : Int32))) else some (0 : Int32)))))))

set_option maxRecDepth 20000 in
set_option maxHeartbeats 2000000 in
theorem S_St_fitByThemselves  {p1 : Int32} {p2 : Int32} {M : QM} {res : Int32} (h : St_fitByThemselves p1 p2 M = some res) : Cn yX5_fitByThemselves cX5_fitByThemselves 4 (some .boolean) 1 SHK [.ref 14, .int p1, .int p2] M (some (.int res)) M := by
  refine q_enter (L := [(0, .ref 14), (1, .int p1), (2, .int p2)]) (by decide) (Nat.le_of_ble_eq_true rfl) rfl ?_
  intro C hc hSH hr hM
  have hc : OKX C RX5 cX5_fitByThemselves 4 1 (some .boolean) := hc
  unfold St_fitByThemselves at h
  refine x_aload_n hc dX5_fitByThemselves_0 rfl 0 rfl ?_
  refine x_getR hc dX5_fitByThemselves_1 fl_RX5_9 (q_s hSH sh_14) rfl ?_
  refine x_iload_n hc dX5_fitByThemselves_4 rfl 1 rfl ?_
  obtain ⟨q1, h1, h⟩ := bd_some h
  refine x_callVi (As := [.int p1]) (st := []) (o := 3) hc dX5_fitByThemselves_5 cv_X3_signOf lk_RX5_62 (q_s hSH sh_3) rfl rfl (q_cn hSH (S_Ne_signOf h1)) (by decide) (Nat.le_of_ble_eq_true rfl) ?_
  refine x_istore_n (L2 := [(3, .int q1), (0, .ref 14), (1, .int p1), (2, .int p2)]) hc dX5_fitByThemselves_8 rfl (by decide) rfl ?_
  refine x_iload_n hc dX5_fitByThemselves_9 rfl 0 rfl ?_
  refine x_bipush hc dX5_fitByThemselves_10 kb_33 ?_
  refine x_icmp_eq (tgt := 28) hc dX5_fitByThemselves_12 (by decide) (fun hb => ?_) (fun hb => ?_)
  · have h := ite_t hb h
    refine x_iconst hc dX5_fitByThemselves_28 kc_1 ?_
    cases h
    exact x_zret hc dX5_fitByThemselves_29 nar_1 hr hM
  · have h := ite_f hb h
    refine x_aload_n hc dX5_fitByThemselves_15 rfl 1 rfl ?_
    refine x_getR hc dX5_fitByThemselves_16 fl_RX5_9 (q_s hSH sh_14) rfl ?_
    refine x_iload_n hc dX5_fitByThemselves_19 rfl 3 rfl ?_
    obtain ⟨q2, h2, h⟩ := bd_some h
    refine x_callVi (As := [.int p2]) (st := []) (o := 3) hc dX5_fitByThemselves_20 cv_X3_signOf lk_RX5_62 (q_s hSH sh_3) rfl rfl (q_cn hSH (S_Ne_signOf h2)) (by decide) (Nat.le_of_ble_eq_true rfl) ?_
    refine x_bipush hc dX5_fitByThemselves_23 kb_46 ?_
    refine x_icmp_ne (tgt := 30) hc dX5_fitByThemselves_25 (by decide) (fun hb => ?_) (fun hb => ?_)
    · have h := ite_f hb h
      refine x_iload_n hc dX5_fitByThemselves_30 rfl 0 rfl ?_
      refine x_aload_n hc dX5_fitByThemselves_31 rfl 1 rfl ?_
      refine x_getR hc dX5_fitByThemselves_32 fl_RX5_9 (q_s hSH sh_14) rfl ?_
      refine x_iload_n hc dX5_fitByThemselves_35 rfl 3 rfl ?_
      obtain ⟨q3, h3, h⟩ := bd_some h
      refine x_callVi (As := [.int p2]) (st := [.int q1]) (o := 3) hc dX5_fitByThemselves_36 cv_X3_signOf lk_RX5_62 (q_s hSH sh_3) rfl rfl (q_cn hSH (S_Ne_signOf h3)) (by decide) (Nat.le_of_ble_eq_true rfl) ?_
      refine x_icmp_eq (tgt := 44) hc dX5_fitByThemselves_39 (by decide) (fun hb => ?_) (fun hb => ?_)
      · have h := ite_t hb h
        refine x_iload_n hc dX5_fitByThemselves_44 rfl 0 rfl ?_
        refine x_bipush hc dX5_fitByThemselves_45 kb_123 ?_
        refine x_icmp_ne (tgt := 78) hc dX5_fitByThemselves_47 (by decide) (fun hb => ?_) (fun hb => ?_)
        · have h := ite_f hb h
          refine x_iload_n hc dX5_fitByThemselves_78 rfl 0 rfl ?_
          refine x_bipush hc dX5_fitByThemselves_79 kb_91 ?_
          refine x_icmp_ne (tgt := 106) hc dX5_fitByThemselves_81 (by decide) (fun hb => ?_) (fun hb => ?_)
          · have h := ite_f hb h
            refine x_iconst hc dX5_fitByThemselves_106 kc_1 ?_
            refine x_goto (tgt := 111) hc dX5_fitByThemselves_107 (by decide) ?_
            cases h
            exact x_zret hc dX5_fitByThemselves_111 nar_1 hr hM
          · have h := ite_t hb h
            refine x_aload_n hc dX5_fitByThemselves_84 rfl 1 rfl ?_
            refine x_getR hc dX5_fitByThemselves_85 fl_RX5_9 (q_s hSH sh_14) rfl ?_
            refine x_iload_n hc dX5_fitByThemselves_88 rfl 2 rfl ?_
            obtain ⟨q4, h4, h⟩ := bd_some h
            refine x_callVi (As := [.int p1]) (st := []) (o := 3) hc dX5_fitByThemselves_89 cv_X3_slotsOf lk_RX5_103 (q_s hSH sh_3) rfl rfl (q_cn hSH (S_Ne_slotsOf h4)) (by decide) (Nat.le_of_ble_eq_true rfl) ?_
            refine x_aload_n hc dX5_fitByThemselves_92 rfl 1 rfl ?_
            refine x_getR hc dX5_fitByThemselves_93 fl_RX5_9 (q_s hSH sh_14) rfl ?_
            refine x_iload_n hc dX5_fitByThemselves_96 rfl 3 rfl ?_
            obtain ⟨q5, h5, h⟩ := bd_some h
            refine x_callVi (As := [.int p2]) (st := [.int q4]) (o := 3) hc dX5_fitByThemselves_97 cv_X3_slotsOf lk_RX5_103 (q_s hSH sh_3) rfl rfl (q_cn hSH (S_Ne_slotsOf h5)) (by decide) (Nat.le_of_ble_eq_true rfl) ?_
            refine x_iconst hc dX5_fitByThemselves_100 kc_m1 ?_
            refine x_ixor hc dX5_fitByThemselves_101 ?_
            refine x_iand hc dX5_fitByThemselves_102 ?_
            refine x_if_ne (tgt := 110) hc dX5_fitByThemselves_103 (by decide) (fun hb => ?_) (fun hb => ?_)
            · have h := ite_f hb h
              refine x_iconst hc dX5_fitByThemselves_110 kc_0 ?_
              cases h
              exact x_zret hc dX5_fitByThemselves_111 nar_0 hr hM
            · have h := ite_t hb h
              refine x_iconst hc dX5_fitByThemselves_106 kc_1 ?_
              refine x_goto (tgt := 111) hc dX5_fitByThemselves_107 (by decide) ?_
              cases h
              exact x_zret hc dX5_fitByThemselves_111 nar_1 hr hM
        · have h := ite_t hb h
          refine x_aload_n hc dX5_fitByThemselves_50 rfl 1 rfl ?_
          refine x_getR hc dX5_fitByThemselves_51 fl_RX5_9 (q_s hSH sh_14) rfl ?_
          refine x_iload_n hc dX5_fitByThemselves_54 rfl 3 rfl ?_
          obtain ⟨q6, h6, h⟩ := bd_some h
          refine x_callVi (As := [.int p2]) (st := []) (o := 3) hc dX5_fitByThemselves_55 cv_X3_slotsOf lk_RX5_103 (q_s hSH sh_3) rfl rfl (q_cn hSH (S_Ne_slotsOf h6)) (by decide) (Nat.le_of_ble_eq_true rfl) ?_
          refine x_aload_n hc dX5_fitByThemselves_58 rfl 1 rfl ?_
          refine x_getR hc dX5_fitByThemselves_59 fl_RX5_9 (q_s hSH sh_14) rfl ?_
          refine x_iload_n hc dX5_fitByThemselves_62 rfl 2 rfl ?_
          obtain ⟨q7, h7, h⟩ := bd_some h
          refine x_callVi (As := [.int p1]) (st := [.int q6]) (o := 3) hc dX5_fitByThemselves_63 cv_X3_slotsOf lk_RX5_103 (q_s hSH sh_3) rfl rfl (q_cn hSH (S_Ne_slotsOf h7)) (by decide) (Nat.le_of_ble_eq_true rfl) ?_
          refine x_iconst hc dX5_fitByThemselves_66 kc_m1 ?_
          refine x_ixor hc dX5_fitByThemselves_67 ?_
          refine x_iand hc dX5_fitByThemselves_68 ?_
          refine x_if_ne (tgt := 76) hc dX5_fitByThemselves_69 (by decide) (fun hb => ?_) (fun hb => ?_)
          · have h := ite_f hb h
            refine x_iconst hc dX5_fitByThemselves_76 kc_0 ?_
            cases h
            exact x_zret hc dX5_fitByThemselves_77 nar_0 hr hM
          · have h := ite_t hb h
            refine x_iconst hc dX5_fitByThemselves_72 kc_1 ?_
            refine x_goto (tgt := 77) hc dX5_fitByThemselves_73 (by decide) ?_
            cases h
            exact x_zret hc dX5_fitByThemselves_77 nar_1 hr hM
      · have h := ite_f hb h
        refine x_iconst hc dX5_fitByThemselves_42 kc_0 ?_
        cases h
        exact x_zret hc dX5_fitByThemselves_43 nar_0 hr hM
    · have h := ite_t hb h
      refine x_iconst hc dX5_fitByThemselves_28 kc_1 ?_
      cases h
      exact x_zret hc dX5_fitByThemselves_29 nar_1 hr hM

def St_setSteps (p1 : Int32) (p2 : Int32) (p3 : Int32) (M : QM) : Option (QM) :=
  (if ((p1 * (60 : Int32)) + p2) < 0 then some M else (if (3600 : Int32) ≤ ((p1 * (60 : Int32)) + p2) then some M else ck (inb ((p1 * (60 : Int32)) + p2) 3600) (some (u_i M 15 ((p1 * (60 : Int32)) + p2).toNatClampNeg p3))))

set_option maxRecDepth 20000 in
set_option maxHeartbeats 2000000 in
theorem S_St_setSteps  {p1 : Int32} {p2 : Int32} {p3 : Int32} {M : QM} {res : QM} (h : St_setSteps p1 p2 p3 M = some res) : Cn yX5_setSteps cX5_setSteps 5 none 0 SHK [.ref 14, .int p1, .int p2, .int p3] M (none) res := by
  refine q_enter (L := [(0, .ref 14), (1, .int p1), (2, .int p2), (3, .int p3)]) (by decide) (Nat.le_of_ble_eq_true rfl) rfl ?_
  intro C hc hSH hr hM
  have hc : OKX C RX5 cX5_setSteps 5 0 none := hc
  unfold St_setSteps at h
  refine x_iload_n hc dX5_setSteps_0 rfl 1 rfl ?_
  refine x_bipush hc dX5_setSteps_1 kb_60 ?_
  refine x_imul hc dX5_setSteps_3 ?_
  refine x_iload_n hc dX5_setSteps_4 rfl 2 rfl ?_
  refine x_iadd hc dX5_setSteps_5 ?_
  refine x_istore (L2 := [(4, .int ((p1 * (60 : Int32)) + p2)), (0, .ref 14), (1, .int p1), (2, .int p2), (3, .int p3)]) hc dX5_setSteps_6 (by decide) rfl ?_
  refine x_iload hc dX5_setSteps_8 0 rfl ?_
  refine x_if_lt (tgt := 29) hc dX5_setSteps_10 (by decide) (fun hb => ?_) (fun hb => ?_)
  · have h := ite_t hb h
    cases h
    exact x_vret hc dX5_setSteps_29 hr hM
  · have h := ite_f hb h
    refine x_iload hc dX5_setSteps_13 0 rfl ?_
    refine x_sipush hc dX5_setSteps_15 ks_3600 ?_
    refine x_icmp_ge (tgt := 29) hc dX5_setSteps_18 (by decide) (fun hb => ?_) (fun hb => ?_)
    · have h := ite_t hb h
      cases h
      exact x_vret hc dX5_setSteps_29 hr hM
    · have h := ite_f hb h
      refine x_aload_n hc dX5_setSteps_21 rfl 1 rfl ?_
      refine x_getR hc dX5_setSteps_22 fl_RX5_15 (q_s hSH sh_14) rfl ?_
      refine x_iload hc dX5_setSteps_25 0 rfl ?_
      refine x_iload_n hc dX5_setSteps_27 rfl 4 rfl ?_
      obtain ⟨b1, h⟩ := ck_some h
      refine x_iast hc dX5_setSteps_28 (q_s hSH sh_15) (inb_in b1) ?_
      cases h
      exact x_vret hc dX5_setSteps_29 hr hM

def St_startPairs_L24_J47 (x1 : Int32) (x2 : Int32) (x3 : Int32) (s0 : Int32) (s1 : Int32) (s2 : Int32) (M : QM) : Option ((QM) ⊕ (Int32 × QM)) :=
  Option.bind (St_setSteps s2 s1 s0 M) (fun q2 => some (.inr (x3 + (1 : Int32), q2)))

set_option maxRecDepth 20000 in
set_option maxHeartbeats 2000000 in
theorem S_St_startPairs_L24_J47 {C : QC} (hc : OKX C RX5 cX5_startPairs 4 2 none) (hSH : q_SH C = SHK) (x1 : Int32) (x2 : Int32) (x3 : Int32) (s0 : Int32) (s1 : Int32) (s2 : Int32) (M : QM) {res : (QM) ⊕ (Int32 × QM)} (h : St_startPairs_L24_J47 x1 x2 x3 s0 s1 s2 M = some res) (ke : ∀ x : QM, res = .inl x → WX C 4 56 [(0, .ref 14), (1, .int x1), (2, .int x2)] [] x) (kb : ∀ x : Int32 × QM, res = .inr x → WX C 4 24 [(0, .ref 14), (1, .int x1), (2, .int x2), (3, .int x.1)] [] x.2) : WX C 4 47 [(0, .ref 14), (1, .int x1), (2, .int x2), (3, .int x3)] [.int s0, .int s1, .int s2, .ref 14] M := by
  unfold St_startPairs_L24_J47 at h
  obtain ⟨q2, h2, h⟩ := bd_some h
  refine x_callVv (As := [.int s2, .int s1, .int s0]) (st := []) (o := 14) hc dX5_startPairs_47 cv_X5_setSteps lk_RX5_96 (q_s hSH sh_14) rfl rfl (q_cn hSH (S_St_setSteps h2)) (by decide) (Nat.le_of_ble_eq_true rfl) ?_
  refine x_iinc (v := x3 + (1 : Int32)) (L2 := [(3, .int (x3 + (1 : Int32))), (0, .ref 14), (1, .int x1), (2, .int x2)]) hc dX5_startPairs_50 3 rfl (by rw [kc_1]) (by decide) rfl ?_
  refine x_goto (tgt := 24) hc dX5_startPairs_53 (by decide) ?_
  cases h
  exact x_sub (kb (x3 + (1 : Int32), q2) rfl) [1, 2, 3, 0] rfl

def St_startPairs_B24 (x1 : Int32) (x2 : Int32) (v : Int32 × QM) : Option ((QM) ⊕ (Int32 × QM)) :=
  (if x1 ≤ v.1 then some (.inl v.2) else Option.bind (St_fitByThemselves x2 v.1 v.2) (fun q1 => (if q1 = 0 then St_startPairs_L24_J47 x1 x2 v.1 (0 : Int32) v.1 x2 v.2 else St_startPairs_L24_J47 x1 x2 v.1 (1000000 : Int32) v.1 x2 v.2)))

set_option maxRecDepth 20000 in
set_option maxHeartbeats 2000000 in
theorem S_St_startPairs_B24 {C : QC} (hc : OKX C RX5 cX5_startPairs 4 2 none) (hSH : q_SH C = SHK) (x1 : Int32) (x2 : Int32) (v : Int32 × QM) {res : (QM) ⊕ (Int32 × QM)} (h : St_startPairs_B24 x1 x2 v = some res) (ke : ∀ x : QM, res = .inl x → WX C 4 56 [(0, .ref 14), (1, .int x1), (2, .int x2)] [] x) (kb : ∀ x : Int32 × QM, res = .inr x → WX C 4 24 [(0, .ref 14), (1, .int x1), (2, .int x2), (3, .int x.1)] [] x.2) : WX C 4 24 [(0, .ref 14), (1, .int x1), (2, .int x2), (3, .int v.1)] [] v.2 := by
  unfold St_startPairs_B24 at h
  refine x_iload_n hc dX5_startPairs_24 rfl 3 rfl ?_
  refine x_iload_n hc dX5_startPairs_25 rfl 1 rfl ?_
  refine x_icmp_ge (tgt := 56) hc dX5_startPairs_26 (by decide) (fun hb => ?_) (fun hb => ?_)
  · have h := ite_t hb h
    cases h
    exact x_sub (ke v.2 rfl) [0, 1, 2] rfl
  · have h := ite_f hb h
    refine x_aload_n hc dX5_startPairs_29 rfl 0 rfl ?_
    refine x_iload_n hc dX5_startPairs_30 rfl 2 rfl ?_
    refine x_iload_n hc dX5_startPairs_31 rfl 3 rfl ?_
    refine x_aload_n hc dX5_startPairs_32 rfl 0 rfl ?_
    refine x_iload_n hc dX5_startPairs_33 rfl 2 rfl ?_
    refine x_iload_n hc dX5_startPairs_34 rfl 3 rfl ?_
    obtain ⟨q1, h1, h⟩ := bd_some h
    refine x_callVi (As := [.int x2, .int v.1]) (st := [.int v.1, .int x2, .ref 14]) (o := 14) hc dX5_startPairs_35 cv_X5_fitByThemselves lk_RX5_93 (q_s hSH sh_14) rfl rfl (q_cn hSH (S_St_fitByThemselves h1)) (by decide) (Nat.le_of_ble_eq_true rfl) ?_
    refine x_if_eq (tgt := 46) hc dX5_startPairs_38 (by decide) (fun hb => ?_) (fun hb => ?_)
    · have h := ite_t hb h
      refine x_iconst hc dX5_startPairs_46 kc_0 ?_
      exact x_sub (S_St_startPairs_L24_J47 hc hSH x1 x2 v.1 (0 : Int32) v.1 x2 v.2 h ke kb) [0, 1, 2, 3] rfl
    · have h := ite_f hb h
      refine x_ldc hc dX5_startPairs_41 kd_RX5_50 ?_
      refine x_goto (tgt := 47) hc dX5_startPairs_43 (by decide) ?_
      exact x_sub (S_St_startPairs_L24_J47 hc hSH x1 x2 v.1 (1000000 : Int32) v.1 x2 v.2 h ke kb) [0, 1, 2, 3] rfl

theorem S_St_startPairs_L24 {C : QC} (hc : OKX C RX5 cX5_startPairs 4 2 none) (hSH : q_SH C = SHK) (x1 : Int32) (x2 : Int32) {n : Nat} {v : Int32 × QM} {e : QM} (h : iter (St_startPairs_B24 x1 x2) n v = some e) (ke : ∀ x : QM, e = x → WX C 4 56 [(0, .ref 14), (1, .int x1), (2, .int x2)] [] x) : WX C 4 24 [(0, .ref 14), (1, .int x1), (2, .int x2), (3, .int v.1)] [] v.2 :=
  iter_W (Wh := fun v => WX C 4 24 [(0, .ref 14), (1, .int x1), (2, .int x2), (3, .int v.1)] [] v.2) (fun a res hB k1 k2 => S_St_startPairs_B24 hc hSH x1 x2 a hB (fun x hx => ke x (k1 _ hx).symm) k2) n v h

def St_startPairs_L2_J23 (x1 : Int32) (x2 : Int32) (s0 : Int32) (M : QM) : Option ((QM) ⊕ (Int32 × QM)) :=
  Option.bind (iter (St_startPairs_B24 x1 x2) FU (s0, M)) (fun e3 => some (.inr (x2 + (1 : Int32), e3)))

set_option maxRecDepth 20000 in
set_option maxHeartbeats 2000000 in
theorem S_St_startPairs_L2_J23 {C : QC} (hc : OKX C RX5 cX5_startPairs 4 2 none) (hSH : q_SH C = SHK) (x1 : Int32) (x2 : Int32) (s0 : Int32) (M : QM) {res : (QM) ⊕ (Int32 × QM)} (h : St_startPairs_L2_J23 x1 x2 s0 M = some res) (ke : ∀ x : QM, res = .inl x → WX C 4 62 [] [] x) (kb : ∀ x : Int32 × QM, res = .inr x → WX C 4 2 [(0, .ref 14), (1, .int x1), (2, .int x.1)] [] x.2) : WX C 4 23 [(0, .ref 14), (1, .int x1), (2, .int x2)] [.int s0] M := by
  unfold St_startPairs_L2_J23 at h
  refine x_istore_n (L2 := [(3, .int s0), (0, .ref 14), (1, .int x1), (2, .int x2)]) hc dX5_startPairs_23 rfl (by decide) rfl ?_
  obtain ⟨e3, h3, h⟩ := bd_some h
  refine x_sub (S_St_startPairs_L24 hc hSH x1 x2 (v := (s0, M)) h3 (fun x hx => ?_)) [1, 2, 3, 0] rfl
  subst hx
  refine x_iinc (v := x2 + (1 : Int32)) (L2 := [(2, .int (x2 + (1 : Int32))), (0, .ref 14), (1, .int x1)]) hc dX5_startPairs_56 2 rfl (by rw [kc_1]) (by decide) rfl ?_
  refine x_goto (tgt := 2) hc dX5_startPairs_59 (by decide) ?_
  cases h
  exact x_sub (kb (x2 + (1 : Int32), e3) rfl) [1, 2, 0] rfl

def St_startPairs_B2 (x1 : Int32) (v : Int32 × QM) : Option ((QM) ⊕ (Int32 × QM)) :=
  (if x1 ≤ v.1 then some (.inl v.2) else (if (v.2.1 14 5) ≤ v.1 then St_startPairs_L2_J23 x1 v.1 (0 : Int32) v.2 else St_startPairs_L2_J23 x1 v.1 (v.2.1 14 5) v.2))

set_option maxRecDepth 20000 in
set_option maxHeartbeats 2000000 in
theorem S_St_startPairs_B2 {C : QC} (hc : OKX C RX5 cX5_startPairs 4 2 none) (hSH : q_SH C = SHK) (x1 : Int32) (v : Int32 × QM) {res : (QM) ⊕ (Int32 × QM)} (h : St_startPairs_B2 x1 v = some res) (ke : ∀ x : QM, res = .inl x → WX C 4 62 [] [] x) (kb : ∀ x : Int32 × QM, res = .inr x → WX C 4 2 [(0, .ref 14), (1, .int x1), (2, .int x.1)] [] x.2) : WX C 4 2 [(0, .ref 14), (1, .int x1), (2, .int v.1)] [] v.2 := by
  unfold St_startPairs_B2 at h
  refine x_iload_n hc dX5_startPairs_2 rfl 2 rfl ?_
  refine x_iload_n hc dX5_startPairs_3 rfl 1 rfl ?_
  refine x_icmp_ge (tgt := 62) hc dX5_startPairs_4 (by decide) (fun hb => ?_) (fun hb => ?_)
  · have h := ite_t hb h
    cases h
    exact x_sub (ke v.2 rfl) [] rfl
  · have h := ite_f hb h
    refine x_iload_n hc dX5_startPairs_7 rfl 2 rfl ?_
    refine x_aload_n hc dX5_startPairs_8 rfl 0 rfl ?_
    refine x_getI hc dX5_startPairs_9 fl_RX5_29 (q_s hSH sh_14) rfl ?_
    refine x_icmp_ge (tgt := 22) hc dX5_startPairs_12 (by decide) (fun hb => ?_) (fun hb => ?_)
    · have h := ite_t hb h
      refine x_iconst hc dX5_startPairs_22 kc_0 ?_
      exact x_sub (S_St_startPairs_L2_J23 hc hSH x1 v.1 (0 : Int32) v.2 h ke kb) [0, 1, 2] rfl
    · have h := ite_f hb h
      refine x_aload_n hc dX5_startPairs_15 rfl 0 rfl ?_
      refine x_getI hc dX5_startPairs_16 fl_RX5_29 (q_s hSH sh_14) rfl ?_
      refine x_goto (tgt := 23) hc dX5_startPairs_19 (by decide) ?_
      exact x_sub (S_St_startPairs_L2_J23 hc hSH x1 v.1 (v.2.1 14 5) v.2 h ke kb) [0, 1, 2] rfl

theorem S_St_startPairs_L2 {C : QC} (hc : OKX C RX5 cX5_startPairs 4 2 none) (hSH : q_SH C = SHK) (x1 : Int32) {n : Nat} {v : Int32 × QM} {e : QM} (h : iter (St_startPairs_B2 x1) n v = some e) (ke : ∀ x : QM, e = x → WX C 4 62 [] [] x) : WX C 4 2 [(0, .ref 14), (1, .int x1), (2, .int v.1)] [] v.2 :=
  iter_W (Wh := fun v => WX C 4 2 [(0, .ref 14), (1, .int x1), (2, .int v.1)] [] v.2) (fun a res hB k1 k2 => S_St_startPairs_B2 hc hSH x1 a hB (fun x hx => ke x (k1 _ hx).symm) k2) n v h

def St_startPairs (p1 : Int32) (M : QM) : Option (QM) :=
  Option.bind (iter (St_startPairs_B2 p1) FU ((0 : Int32), M)) (fun e4 => some e4)

set_option maxRecDepth 20000 in
set_option maxHeartbeats 2000000 in
theorem S_St_startPairs  {p1 : Int32} {M : QM} {res : QM} (h : St_startPairs p1 M = some res) : Cn yX5_startPairs cX5_startPairs 4 none 2 SHK [.ref 14, .int p1] M (none) res := by
  refine q_enter (L := [(0, .ref 14), (1, .int p1)]) (by decide) (Nat.le_of_ble_eq_true rfl) rfl ?_
  intro C hc hSH hr hM
  have hc : OKX C RX5 cX5_startPairs 4 2 none := hc
  unfold St_startPairs at h
  refine x_iconst hc dX5_startPairs_0 kc_0 ?_
  refine x_istore_n (L2 := [(2, .int (0 : Int32)), (0, .ref 14), (1, .int p1)]) hc dX5_startPairs_1 rfl (by decide) rfl ?_
  obtain ⟨e4, h4, h⟩ := bd_some h
  refine x_sub (S_St_startPairs_L2 hc hSH p1 (v := ((0 : Int32), M)) h4 (fun x hx => ?_)) [1, 2, 0] rfl
  subst hx
  cases h
  exact x_vret hc dX5_startPairs_62 hr hM

def St_pairBehind_J75 (x3 : Int32) (x4 : Int32) (s0 : Int32) (M : QM) : Option (Int32) :=
  (if s0 = 0 then some ((x3 * (60 : Int32)) + x4) else some ((x4 * (60 : Int32)) + x3))

set_option maxRecDepth 20000 in
set_option maxHeartbeats 2000000 in
theorem S_St_pairBehind_J75 {C : QC} (hc : OKX C RX5 cX5_pairBehind 6 1 (some .int)) (hSH : q_SH C = SHK) (x3 : Int32) (x4 : Int32) (s0 : Int32) (M : QM) {res : Int32} (h : St_pairBehind_J75 x3 x4 s0 M = some res) (hr : q_r C = some (.int res)) (hM : q_M C = M) : WX C 6 75 [(3, .int x3), (4, .int x4)] [.int s0] M := by
  unfold St_pairBehind_J75 at h
  refine x_istore (L2 := [(5, .int s0), (3, .int x3), (4, .int x4)]) hc dX5_pairBehind_75 (by decide) rfl ?_
  refine x_iload hc dX5_pairBehind_77 0 rfl ?_
  refine x_if_eq (tgt := 92) hc dX5_pairBehind_79 (by decide) (fun hb => ?_) (fun hb => ?_)
  · have h := ite_t hb h
    refine x_iload_n hc dX5_pairBehind_92 rfl 1 rfl ?_
    refine x_bipush hc dX5_pairBehind_93 kb_60 ?_
    refine x_imul hc dX5_pairBehind_95 ?_
    refine x_iload hc dX5_pairBehind_96 2 rfl ?_
    refine x_iadd hc dX5_pairBehind_98 ?_
    cases h
    exact x_iret hc dX5_pairBehind_99 hr hM
  · have h := ite_f hb h
    refine x_iload hc dX5_pairBehind_82 2 rfl ?_
    refine x_bipush hc dX5_pairBehind_84 kb_60 ?_
    refine x_imul hc dX5_pairBehind_86 ?_
    refine x_iload_n hc dX5_pairBehind_87 rfl 1 rfl ?_
    refine x_iadd hc dX5_pairBehind_88 ?_
    refine x_goto (tgt := 99) hc dX5_pairBehind_89 (by decide) ?_
    cases h
    exact x_iret hc dX5_pairBehind_99 hr hM

def St_pairBehind_J74 (x3 : Int32) (x4 : Int32) (M : QM) : Option (Int32) :=
  St_pairBehind_J75 x3 x4 (0 : Int32) M

set_option maxRecDepth 20000 in
set_option maxHeartbeats 2000000 in
theorem S_St_pairBehind_J74 {C : QC} (hc : OKX C RX5 cX5_pairBehind 6 1 (some .int)) (hSH : q_SH C = SHK) (x3 : Int32) (x4 : Int32) (M : QM) {res : Int32} (h : St_pairBehind_J74 x3 x4 M = some res) (hr : q_r C = some (.int res)) (hM : q_M C = M) : WX C 6 74 [(3, .int x3), (4, .int x4)] [] M := by
  unfold St_pairBehind_J74 at h
  refine x_iconst hc dX5_pairBehind_74 kc_0 ?_
  exact x_sub (S_St_pairBehind_J75 hc hSH x3 x4 (0 : Int32) M h hr hM) [0, 1] rfl

def St_pairBehind (p1 : Int32) (p2 : Int32) (M : QM) : Option (Int32) :=
  (if 0 ≤ p1 then Option.bind (Ne_partAt (p1 / (60 : Int32)) p2 M) (fun q1 => Option.bind (Ne_partAt (p1 - p1 / (60 : Int32) * (60 : Int32)) p2 M) (fun q2 => (if q1 = (-6 : Int32) then some (-6 : Int32) else (if q2 = (-6 : Int32) then some (-6 : Int32) else (if p2 = 0 then Option.bind (Ne_signOf (p1 / (60 : Int32)) M) (fun q3 => (if q3 = (62 : Int32) then St_pairBehind_J75 q1 q2 (1 : Int32) M else St_pairBehind_J74 q1 q2 M)) else St_pairBehind_J74 q1 q2 M))))) else some (-6 : Int32))

set_option maxRecDepth 20000 in
set_option maxHeartbeats 2000000 in
theorem S_St_pairBehind  {p1 : Int32} {p2 : Int32} {M : QM} {res : Int32} (h : St_pairBehind p1 p2 M = some res) : Cn yX5_pairBehind cX5_pairBehind 6 (some .int) 1 SHK [.ref 14, .int p1, .int p2] M (some (.int res)) M := by
  refine q_enter (L := [(0, .ref 14), (1, .int p1), (2, .int p2)]) (by decide) (Nat.le_of_ble_eq_true rfl) rfl ?_
  intro C hc hSH hr hM
  have hc : OKX C RX5 cX5_pairBehind 6 1 (some .int) := hc
  unfold St_pairBehind at h
  refine x_iload_n hc dX5_pairBehind_0 rfl 1 rfl ?_
  refine x_if_ge (tgt := 7) hc dX5_pairBehind_1 (by decide) (fun hb => ?_) (fun hb => ?_)
  · have h := ite_t hb h
    refine x_aload_n hc dX5_pairBehind_7 rfl 0 rfl ?_
    refine x_getR hc dX5_pairBehind_8 fl_RX5_9 (q_s hSH sh_14) rfl ?_
    refine x_iload_n hc dX5_pairBehind_11 rfl 1 rfl ?_
    refine x_bipush hc dX5_pairBehind_12 kb_60 ?_
    refine x_idiv hc dX5_pairBehind_14 (by decide) ?_
    refine x_iload_n hc dX5_pairBehind_15 rfl 2 rfl ?_
    obtain ⟨q1, h1, h⟩ := bd_some h
    refine x_callVi (As := [.int (p1 / (60 : Int32)), .int p2]) (st := []) (o := 3) hc dX5_pairBehind_16 cv_X3_partAt lk_RX5_90 (q_s hSH sh_3) rfl rfl (q_cn hSH (S_Ne_partAt h1)) (by decide) (Nat.le_of_ble_eq_true rfl) ?_
    refine x_istore_n (L2 := [(3, .int q1), (0, .ref 14), (1, .int p1), (2, .int p2)]) hc dX5_pairBehind_19 rfl (by decide) rfl ?_
    refine x_aload_n hc dX5_pairBehind_20 rfl 1 rfl ?_
    refine x_getR hc dX5_pairBehind_21 fl_RX5_9 (q_s hSH sh_14) rfl ?_
    refine x_iload_n hc dX5_pairBehind_24 rfl 2 rfl ?_
    refine x_bipush hc dX5_pairBehind_25 kb_60 ?_
    refine x_irem hc dX5_pairBehind_27 (by decide) ?_
    refine x_iload_n hc dX5_pairBehind_28 rfl 3 rfl ?_
    obtain ⟨q2, h2, h⟩ := bd_some h
    refine x_callVi (As := [.int (p1 - p1 / (60 : Int32) * (60 : Int32)), .int p2]) (st := []) (o := 3) hc dX5_pairBehind_29 cv_X3_partAt lk_RX5_90 (q_s hSH sh_3) rfl rfl (q_cn hSH (S_Ne_partAt h2)) (by decide) (Nat.le_of_ble_eq_true rfl) ?_
    refine x_istore (L2 := [(4, .int q2), (3, .int q1), (0, .ref 14), (1, .int p1), (2, .int p2)]) hc dX5_pairBehind_32 (by decide) rfl ?_
    refine x_iload_n hc dX5_pairBehind_34 rfl 1 rfl ?_
    refine x_bipush hc dX5_pairBehind_35 kb_m6 ?_
    refine x_icmp_eq (tgt := 47) hc dX5_pairBehind_37 (by decide) (fun hb => ?_) (fun hb => ?_)
    · have h := ite_t hb h
      refine x_bipush hc dX5_pairBehind_47 kb_m6 ?_
      cases h
      exact x_iret hc dX5_pairBehind_49 hr hM
    · have h := ite_f hb h
      refine x_iload hc dX5_pairBehind_40 0 rfl ?_
      refine x_bipush hc dX5_pairBehind_42 kb_m6 ?_
      refine x_icmp_ne (tgt := 50) hc dX5_pairBehind_44 (by decide) (fun hb => ?_) (fun hb => ?_)
      · have h := ite_f hb h
        refine x_iload_n hc dX5_pairBehind_50 rfl 4 rfl ?_
        refine x_if_ne (tgt := 74) hc dX5_pairBehind_51 (by decide) (fun hb => ?_) (fun hb => ?_)
        · have h := ite_f hb h
          exact x_sub (S_St_pairBehind_J74 hc hSH q1 q2 M h hr hM) [1, 0] rfl
        · have h := ite_t hb h
          refine x_aload_n hc dX5_pairBehind_54 rfl 2 rfl ?_
          refine x_getR hc dX5_pairBehind_55 fl_RX5_9 (q_s hSH sh_14) rfl ?_
          refine x_iload_n hc dX5_pairBehind_58 rfl 3 rfl ?_
          refine x_bipush hc dX5_pairBehind_59 kb_60 ?_
          refine x_idiv hc dX5_pairBehind_61 (by decide) ?_
          obtain ⟨q3, h3, h⟩ := bd_some h
          refine x_callVi (As := [.int (p1 / (60 : Int32))]) (st := []) (o := 3) hc dX5_pairBehind_62 cv_X3_signOf lk_RX5_62 (q_s hSH sh_3) rfl rfl (q_cn hSH (S_Ne_signOf h3)) (by decide) (Nat.le_of_ble_eq_true rfl) ?_
          refine x_bipush hc dX5_pairBehind_65 kb_62 ?_
          refine x_icmp_ne (tgt := 74) hc dX5_pairBehind_67 (by decide) (fun hb => ?_) (fun hb => ?_)
          · have h := ite_f hb h
            exact x_sub (S_St_pairBehind_J74 hc hSH q1 q2 M h hr hM) [1, 0] rfl
          · have h := ite_t hb h
            refine x_iconst hc dX5_pairBehind_70 kc_1 ?_
            refine x_goto (tgt := 75) hc dX5_pairBehind_71 (by decide) ?_
            exact x_sub (S_St_pairBehind_J75 hc hSH q1 q2 (1 : Int32) M h hr hM) [1, 0] rfl
      · have h := ite_t hb h
        refine x_bipush hc dX5_pairBehind_47 kb_m6 ?_
        cases h
        exact x_iret hc dX5_pairBehind_49 hr hM
  · have h := ite_f hb h
    refine x_bipush hc dX5_pairBehind_4 kb_m6 ?_
    cases h
    exact x_iret hc dX5_pairBehind_6 hr hM

def St_fewestBehind_B25 (x1 : Int32) (x2 : Int32) (x4 : Int32) (M : QM) (v : Int32 × Int32) : Option ((Int32) ⊕ (Int32 × Int32)) :=
  (if (8 : Int32) ≤ v.2 then some (.inl v.1) else (if (x4 >>> (v.2 &&& 31)) = 0 then some (.inl v.1) else (if ((x4 >>> (v.2 &&& 31)) &&& (1 : Int32)) = (1 : Int32) then Option.bind (St_pairBehind ((x1 * (60 : Int32)) + x2) v.2 M) (fun q3 => Option.bind (St_stepsOfPair q3 M) (fun q4 => some (.inr (if q4 < v.1 then q4 else v.1, v.2 + (1 : Int32))))) else some (.inr (v.1, v.2 + (1 : Int32))))))

set_option maxRecDepth 20000 in
set_option maxHeartbeats 2000000 in
theorem S_St_fewestBehind_B25 {C : QC} (hc : OKX C RX5 cX5_fewestBehind 6 2 (some .int)) (hSH : q_SH C = SHK) (x1 : Int32) (x2 : Int32) (x4 : Int32) (M : QM) (v : Int32 × Int32) {res : (Int32) ⊕ (Int32 × Int32)} (h : St_fewestBehind_B25 x1 x2 x4 M v = some res) (ke : ∀ x : Int32, res = .inl x → WX C 6 78 [(3, .int x)] [] M) (kb : ∀ x : Int32 × Int32, res = .inr x → WX C 6 25 [(0, .ref 14), (1, .int x1), (2, .int x2), (3, .int x.1), (4, .int x4), (5, .int x.2)] [] M) : WX C 6 25 [(0, .ref 14), (1, .int x1), (2, .int x2), (3, .int v.1), (4, .int x4), (5, .int v.2)] [] M := by
  unfold St_fewestBehind_B25 at h
  refine x_iload hc dX5_fewestBehind_25 5 rfl ?_
  refine x_bipush hc dX5_fewestBehind_27 kb_8 ?_
  refine x_icmp_ge (tgt := 78) hc dX5_fewestBehind_29 (by decide) (fun hb => ?_) (fun hb => ?_)
  · have h := ite_t hb h
    cases h
    exact x_sub (ke v.1 rfl) [3] rfl
  · have h := ite_f hb h
    refine x_iload hc dX5_fewestBehind_32 4 rfl ?_
    refine x_iload hc dX5_fewestBehind_34 5 rfl ?_
    refine x_ishr hc dX5_fewestBehind_36 ?_
    refine x_if_eq (tgt := 78) hc dX5_fewestBehind_37 (by decide) (fun hb => ?_) (fun hb => ?_)
    · have h := ite_t hb h
      cases h
      exact x_sub (ke v.1 rfl) [3] rfl
    · have h := ite_f hb h
      refine x_iload hc dX5_fewestBehind_40 4 rfl ?_
      refine x_iload hc dX5_fewestBehind_42 5 rfl ?_
      refine x_ishr hc dX5_fewestBehind_44 ?_
      refine x_iconst hc dX5_fewestBehind_45 kc_1 ?_
      refine x_iand hc dX5_fewestBehind_46 ?_
      refine x_iconst hc dX5_fewestBehind_47 kc_1 ?_
      refine x_icmp_ne (tgt := 72) hc dX5_fewestBehind_48 (by decide) (fun hb => ?_) (fun hb => ?_)
      · have h := ite_f hb h
        refine x_iinc (v := v.2 + (1 : Int32)) (L2 := [(5, .int (v.2 + (1 : Int32))), (0, .ref 14), (1, .int x1), (2, .int x2), (3, .int v.1), (4, .int x4)]) hc dX5_fewestBehind_72 5 rfl (by rw [kc_1]) (by decide) rfl ?_
        refine x_goto (tgt := 25) hc dX5_fewestBehind_75 (by decide) ?_
        cases h
        exact x_sub (kb (v.1, v.2 + (1 : Int32)) rfl) [1, 2, 3, 4, 5, 0] rfl
      · have h := ite_t hb h
        refine x_iload_n hc dX5_fewestBehind_51 rfl 3 rfl ?_
        refine x_aload_n hc dX5_fewestBehind_52 rfl 0 rfl ?_
        refine x_aload_n hc dX5_fewestBehind_53 rfl 0 rfl ?_
        refine x_iload_n hc dX5_fewestBehind_54 rfl 1 rfl ?_
        refine x_bipush hc dX5_fewestBehind_55 kb_60 ?_
        refine x_imul hc dX5_fewestBehind_57 ?_
        refine x_iload_n hc dX5_fewestBehind_58 rfl 2 rfl ?_
        refine x_iadd hc dX5_fewestBehind_59 ?_
        refine x_iload hc dX5_fewestBehind_60 5 rfl ?_
        obtain ⟨q3, h3, h⟩ := bd_some h
        refine x_callVi (As := [.int ((x1 * (60 : Int32)) + x2), .int v.2]) (st := [.ref 14, .int v.1]) (o := 14) hc dX5_fewestBehind_62 cv_X5_pairBehind lk_RX5_78 (q_s hSH sh_14) rfl rfl (q_cn hSH (S_St_pairBehind h3)) (by decide) (Nat.le_of_ble_eq_true rfl) ?_
        obtain ⟨q4, h4, h⟩ := bd_some h
        refine x_callVi (As := [.int q3]) (st := [.int v.1]) (o := 14) hc dX5_fewestBehind_65 cv_X5_stepsOfPair lk_RX5_106 (q_s hSH sh_14) rfl rfl (q_cn hSH (S_St_stepsOfPair h4)) (by decide) (Nat.le_of_ble_eq_true rfl) ?_
        refine x_mmin hc dX5_fewestBehind_68 mw_mmin lk_RX5_109 (by decide) (Nat.le_of_ble_eq_true rfl) ?_
        refine x_istore_n (L2 := [(3, .int (if q4 < v.1 then q4 else v.1)), (0, .ref 14), (1, .int x1), (2, .int x2), (4, .int x4), (5, .int v.2)]) hc dX5_fewestBehind_71 rfl (by decide) rfl ?_
        refine x_iinc (v := v.2 + (1 : Int32)) (L2 := [(5, .int (v.2 + (1 : Int32))), (3, .int (if q4 < v.1 then q4 else v.1)), (0, .ref 14), (1, .int x1), (2, .int x2), (4, .int x4)]) hc dX5_fewestBehind_72 5 rfl (by rw [kc_1]) (by decide) rfl ?_
        refine x_goto (tgt := 25) hc dX5_fewestBehind_75 (by decide) ?_
        cases h
        exact x_sub (kb (if q4 < v.1 then q4 else v.1, v.2 + (1 : Int32)) rfl) [2, 3, 4, 1, 5, 0] rfl

theorem S_St_fewestBehind_L25 {C : QC} (hc : OKX C RX5 cX5_fewestBehind 6 2 (some .int)) (hSH : q_SH C = SHK) (x1 : Int32) (x2 : Int32) (x4 : Int32) (M : QM) {n : Nat} {v : Int32 × Int32} {e : Int32} (h : iter (St_fewestBehind_B25 x1 x2 x4 M) n v = some e) (ke : ∀ x : Int32, e = x → WX C 6 78 [(3, .int x)] [] M) : WX C 6 25 [(0, .ref 14), (1, .int x1), (2, .int x2), (3, .int v.1), (4, .int x4), (5, .int v.2)] [] M :=
  iter_W (Wh := fun v => WX C 6 25 [(0, .ref 14), (1, .int x1), (2, .int x2), (3, .int v.1), (4, .int x4), (5, .int v.2)] [] M) (fun a res hB k1 k2 => S_St_fewestBehind_B25 hc hSH x1 x2 x4 M a hB (fun x hx => ke x (k1 _ hx).symm) k2) n v h

def St_fewestBehind (p1 : Int32) (p2 : Int32) (M : QM) : Option (Int32) :=
  Option.bind (Ne_slotsOf p1 M) (fun q1 => Option.bind (Ne_slotsOf p2 M) (fun q2 => Option.bind (iter (St_fewestBehind_B25 p1 p2 (q1 &&& q2) M) FU ((1000000 : Int32), (0 : Int32))) (fun e5 => some e5)))

set_option maxRecDepth 20000 in
set_option maxHeartbeats 2000000 in
theorem S_St_fewestBehind  {p1 : Int32} {p2 : Int32} {M : QM} {res : Int32} (h : St_fewestBehind p1 p2 M = some res) : Cn yX5_fewestBehind cX5_fewestBehind 6 (some .int) 2 SHK [.ref 14, .int p1, .int p2] M (some (.int res)) M := by
  refine q_enter (L := [(0, .ref 14), (1, .int p1), (2, .int p2)]) (by decide) (Nat.le_of_ble_eq_true rfl) rfl ?_
  intro C hc hSH hr hM
  have hc : OKX C RX5 cX5_fewestBehind 6 2 (some .int) := hc
  unfold St_fewestBehind at h
  refine x_ldc hc dX5_fewestBehind_0 kd_RX5_50 ?_
  refine x_istore_n (L2 := [(3, .int (1000000 : Int32)), (0, .ref 14), (1, .int p1), (2, .int p2)]) hc dX5_fewestBehind_2 rfl (by decide) rfl ?_
  refine x_aload_n hc dX5_fewestBehind_3 rfl 1 rfl ?_
  refine x_getR hc dX5_fewestBehind_4 fl_RX5_9 (q_s hSH sh_14) rfl ?_
  refine x_iload_n hc dX5_fewestBehind_7 rfl 2 rfl ?_
  obtain ⟨q1, h1, h⟩ := bd_some h
  refine x_callVi (As := [.int p1]) (st := []) (o := 3) hc dX5_fewestBehind_8 cv_X3_slotsOf lk_RX5_103 (q_s hSH sh_3) rfl rfl (q_cn hSH (S_Ne_slotsOf h1)) (by decide) (Nat.le_of_ble_eq_true rfl) ?_
  refine x_aload_n hc dX5_fewestBehind_11 rfl 1 rfl ?_
  refine x_getR hc dX5_fewestBehind_12 fl_RX5_9 (q_s hSH sh_14) rfl ?_
  refine x_iload_n hc dX5_fewestBehind_15 rfl 3 rfl ?_
  obtain ⟨q2, h2, h⟩ := bd_some h
  refine x_callVi (As := [.int p2]) (st := [.int q1]) (o := 3) hc dX5_fewestBehind_16 cv_X3_slotsOf lk_RX5_103 (q_s hSH sh_3) rfl rfl (q_cn hSH (S_Ne_slotsOf h2)) (by decide) (Nat.le_of_ble_eq_true rfl) ?_
  refine x_iand hc dX5_fewestBehind_19 ?_
  refine x_istore (L2 := [(4, .int (q1 &&& q2)), (3, .int (1000000 : Int32)), (0, .ref 14), (1, .int p1), (2, .int p2)]) hc dX5_fewestBehind_20 (by decide) rfl ?_
  refine x_iconst hc dX5_fewestBehind_22 kc_0 ?_
  refine x_istore (L2 := [(5, .int (0 : Int32)), (4, .int (q1 &&& q2)), (3, .int (1000000 : Int32)), (0, .ref 14), (1, .int p1), (2, .int p2)]) hc dX5_fewestBehind_23 (by decide) rfl ?_
  obtain ⟨e5, h5, h⟩ := bd_some h
  refine x_sub (S_St_fewestBehind_L25 hc hSH p1 p2 (q1 &&& q2) M (v := ((1000000 : Int32), (0 : Int32))) h5 (fun x hx => ?_)) [3, 4, 5, 2, 1, 0] rfl
  subst hx
  refine x_iload_n hc dX5_fewestBehind_78 rfl 0 rfl ?_
  cases h
  exact x_iret hc dX5_fewestBehind_79 hr hM

def St_shortenPairs_L33_J67 (x1 : Int32) (x2 : Int32) (x3 : Int32) (x4 : Int32) (x5 : Int32) (x6 : Int32) (s0 : Int32) (M : QM) : Option ((Int32 × QM) ⊕ (Int32 × Int32 × QM)) :=
  (if x6 ≤ s0 then some (.inr (x2, x5 - (1 : Int32), M)) else Option.bind (St_setSteps x3 x5 s0 M) (fun q3 => some (.inr ((1 : Int32), x5 - (1 : Int32), q3))))

set_option maxRecDepth 20000 in
set_option maxHeartbeats 2000000 in
theorem S_St_shortenPairs_L33_J67 {C : QC} (hc : OKX C RX5 cX5_shortenPairs 8 3 (some .boolean)) (hSH : q_SH C = SHK) (x1 : Int32) (x2 : Int32) (x3 : Int32) (x4 : Int32) (x5 : Int32) (x6 : Int32) (s0 : Int32) (M : QM) {res : (Int32 × QM) ⊕ (Int32 × Int32 × QM)} (h : St_shortenPairs_L33_J67 x1 x2 x3 x4 x5 x6 s0 M = some res) (ke : ∀ x : Int32 × QM, res = .inl x → WX C 8 93 [(0, .ref 14), (1, .int x1), (2, .int x.1), (3, .int x3)] [] x.2) (kb : ∀ x : Int32 × Int32 × QM, res = .inr x → WX C 8 33 [(0, .ref 14), (1, .int x1), (2, .int x.1), (3, .int x3), (4, .int x4), (5, .int x.2.1)] [] x.2.2) : WX C 8 67 [(0, .ref 14), (1, .int x1), (2, .int x2), (3, .int x3), (4, .int x4), (5, .int x5), (6, .int x6)] [.int s0] M := by
  unfold St_shortenPairs_L33_J67 at h
  refine x_istore (L2 := [(7, .int s0), (0, .ref 14), (1, .int x1), (2, .int x2), (3, .int x3), (4, .int x4), (5, .int x5), (6, .int x6)]) hc dX5_shortenPairs_67 (by decide) rfl ?_
  refine x_iload hc dX5_shortenPairs_69 0 rfl ?_
  refine x_iload hc dX5_shortenPairs_71 7 rfl ?_
  refine x_icmp_ge (tgt := 87) hc dX5_shortenPairs_73 (by decide) (fun hb => ?_) (fun hb => ?_)
  · have h := ite_t hb h
    refine x_iinc (v := x5 - (1 : Int32)) (L2 := [(5, .int (x5 - (1 : Int32))), (7, .int s0), (0, .ref 14), (1, .int x1), (2, .int x2), (3, .int x3), (4, .int x4), (6, .int x6)]) hc dX5_shortenPairs_87 6 rfl (q_dec _) (by decide) rfl ?_
    refine x_goto (tgt := 33) hc dX5_shortenPairs_90 (by decide) ?_
    cases h
    exact x_sub (kb (x2, x5 - (1 : Int32), M) rfl) [2, 3, 4, 5, 6, 0] rfl
  · have h := ite_f hb h
    refine x_aload_n hc dX5_shortenPairs_76 rfl 1 rfl ?_
    refine x_iload_n hc dX5_shortenPairs_77 rfl 4 rfl ?_
    refine x_iload hc dX5_shortenPairs_78 6 rfl ?_
    refine x_iload hc dX5_shortenPairs_80 0 rfl ?_
    obtain ⟨q3, h3, h⟩ := bd_some h
    refine x_callVv (As := [.int x3, .int x5, .int s0]) (st := []) (o := 14) hc dX5_shortenPairs_82 cv_X5_setSteps lk_RX5_96 (q_s hSH sh_14) rfl rfl (q_cn hSH (S_St_setSteps h3)) (by decide) (Nat.le_of_ble_eq_true rfl) ?_
    refine x_iconst hc dX5_shortenPairs_85 kc_1 ?_
    refine x_istore_n (L2 := [(2, .int (1 : Int32)), (7, .int s0), (0, .ref 14), (1, .int x1), (3, .int x3), (4, .int x4), (5, .int x5), (6, .int x6)]) hc dX5_shortenPairs_86 rfl (by decide) rfl ?_
    refine x_iinc (v := x5 - (1 : Int32)) (L2 := [(5, .int (x5 - (1 : Int32))), (2, .int (1 : Int32)), (7, .int s0), (0, .ref 14), (1, .int x1), (3, .int x3), (4, .int x4), (6, .int x6)]) hc dX5_shortenPairs_87 6 rfl (q_dec _) (by decide) rfl ?_
    refine x_goto (tgt := 33) hc dX5_shortenPairs_90 (by decide) ?_
    cases h
    exact x_sub (kb ((1 : Int32), x5 - (1 : Int32), q3) rfl) [3, 4, 1, 5, 6, 0] rfl

def St_shortenPairs_B33 (x1 : Int32) (x3 : Int32) (x4 : Int32) (v : Int32 × Int32 × QM) : Option ((Int32 × QM) ⊕ (Int32 × Int32 × QM)) :=
  (if v.2.1 < x4 then some (.inl (v.1, v.2.2)) else Option.bind (St_stepsOf x3 v.2.1 v.2.2) (fun q1 => (if q1 = 0 then St_shortenPairs_L33_J67 x1 v.1 x3 x4 v.2.1 q1 (0 : Int32) v.2.2 else Option.bind (St_fewestBehind x3 v.2.1 v.2.2) (fun q2 => St_shortenPairs_L33_J67 x1 v.1 x3 x4 v.2.1 q1 (q2 + (1 : Int32)) v.2.2))))

set_option maxRecDepth 20000 in
set_option maxHeartbeats 2000000 in
theorem S_St_shortenPairs_B33 {C : QC} (hc : OKX C RX5 cX5_shortenPairs 8 3 (some .boolean)) (hSH : q_SH C = SHK) (x1 : Int32) (x3 : Int32) (x4 : Int32) (v : Int32 × Int32 × QM) {res : (Int32 × QM) ⊕ (Int32 × Int32 × QM)} (h : St_shortenPairs_B33 x1 x3 x4 v = some res) (ke : ∀ x : Int32 × QM, res = .inl x → WX C 8 93 [(0, .ref 14), (1, .int x1), (2, .int x.1), (3, .int x3)] [] x.2) (kb : ∀ x : Int32 × Int32 × QM, res = .inr x → WX C 8 33 [(0, .ref 14), (1, .int x1), (2, .int x.1), (3, .int x3), (4, .int x4), (5, .int x.2.1)] [] x.2.2) : WX C 8 33 [(0, .ref 14), (1, .int x1), (2, .int v.1), (3, .int x3), (4, .int x4), (5, .int v.2.1)] [] v.2.2 := by
  unfold St_shortenPairs_B33 at h
  refine x_iload hc dX5_shortenPairs_33 5 rfl ?_
  refine x_iload hc dX5_shortenPairs_35 4 rfl ?_
  refine x_icmp_lt (tgt := 93) hc dX5_shortenPairs_37 (by decide) (fun hb => ?_) (fun hb => ?_)
  · have h := ite_t hb h
    cases h
    exact x_sub (ke (v.1, v.2.2) rfl) [0, 1, 2, 3] rfl
  · have h := ite_f hb h
    refine x_aload_n hc dX5_shortenPairs_40 rfl 0 rfl ?_
    refine x_iload_n hc dX5_shortenPairs_41 rfl 3 rfl ?_
    refine x_iload hc dX5_shortenPairs_42 5 rfl ?_
    obtain ⟨q1, h1, h⟩ := bd_some h
    refine x_callVi (As := [.int x3, .int v.2.1]) (st := []) (o := 14) hc dX5_shortenPairs_44 cv_X5_stepsOf lk_RX5_46 (q_s hSH sh_14) rfl rfl (q_cn hSH (S_St_stepsOf h1)) (by decide) (Nat.le_of_ble_eq_true rfl) ?_
    refine x_istore (L2 := [(6, .int q1), (0, .ref 14), (1, .int x1), (2, .int v.1), (3, .int x3), (4, .int x4), (5, .int v.2.1)]) hc dX5_shortenPairs_47 (by decide) rfl ?_
    refine x_iload hc dX5_shortenPairs_49 0 rfl ?_
    refine x_if_ne (tgt := 58) hc dX5_shortenPairs_51 (by decide) (fun hb => ?_) (fun hb => ?_)
    · have h := ite_f hb h
      refine x_aload_n hc dX5_shortenPairs_58 rfl 1 rfl ?_
      refine x_iload_n hc dX5_shortenPairs_59 rfl 4 rfl ?_
      refine x_iload hc dX5_shortenPairs_60 6 rfl ?_
      obtain ⟨q2, h2, h⟩ := bd_some h
      refine x_callVi (As := [.int x3, .int v.2.1]) (st := []) (o := 14) hc dX5_shortenPairs_62 cv_X5_fewestBehind lk_RX5_100 (q_s hSH sh_14) rfl rfl (q_cn hSH (S_St_fewestBehind h2)) (by decide) (Nat.le_of_ble_eq_true rfl) ?_
      refine x_iconst hc dX5_shortenPairs_65 kc_1 ?_
      refine x_iadd hc dX5_shortenPairs_66 ?_
      exact x_sub (S_St_shortenPairs_L33_J67 hc hSH x1 v.1 x3 x4 v.2.1 q1 (q2 + (1 : Int32)) v.2.2 h ke kb) [1, 2, 3, 4, 5, 6, 0] rfl
    · have h := ite_t hb h
      refine x_iconst hc dX5_shortenPairs_54 kc_0 ?_
      refine x_goto (tgt := 67) hc dX5_shortenPairs_55 (by decide) ?_
      exact x_sub (S_St_shortenPairs_L33_J67 hc hSH x1 v.1 x3 x4 v.2.1 q1 (0 : Int32) v.2.2 h ke kb) [1, 2, 3, 4, 5, 6, 0] rfl

theorem S_St_shortenPairs_L33 {C : QC} (hc : OKX C RX5 cX5_shortenPairs 8 3 (some .boolean)) (hSH : q_SH C = SHK) (x1 : Int32) (x3 : Int32) (x4 : Int32) {n : Nat} {v : Int32 × Int32 × QM} {e : Int32 × QM} (h : iter (St_shortenPairs_B33 x1 x3 x4) n v = some e) (ke : ∀ x : Int32 × QM, e = x → WX C 8 93 [(0, .ref 14), (1, .int x1), (2, .int x.1), (3, .int x3)] [] x.2) : WX C 8 33 [(0, .ref 14), (1, .int x1), (2, .int v.1), (3, .int x3), (4, .int x4), (5, .int v.2.1)] [] v.2.2 :=
  iter_W (Wh := fun v => WX C 8 33 [(0, .ref 14), (1, .int x1), (2, .int v.1), (3, .int x3), (4, .int x4), (5, .int v.2.1)] [] v.2.2) (fun a res hB k1 k2 => S_St_shortenPairs_B33 hc hSH x1 x3 x4 a hB (fun x hx => ke x (k1 _ hx).symm) k2) n v h

def St_shortenPairs_L6_J26 (x1 : Int32) (x2 : Int32) (x3 : Int32) (s0 : Int32) (M : QM) : Option ((Int32 × QM) ⊕ (Int32 × Int32 × QM)) :=
  Option.bind (iter (St_shortenPairs_B33 x1 x3 s0) FU (x2, x1 - (1 : Int32), M)) (fun e4 => some (.inr (e4.1, x3 - (1 : Int32), e4.2)))

set_option maxRecDepth 20000 in
set_option maxHeartbeats 2000000 in
theorem S_St_shortenPairs_L6_J26 {C : QC} (hc : OKX C RX5 cX5_shortenPairs 8 3 (some .boolean)) (hSH : q_SH C = SHK) (x1 : Int32) (x2 : Int32) (x3 : Int32) (s0 : Int32) (M : QM) {res : (Int32 × QM) ⊕ (Int32 × Int32 × QM)} (h : St_shortenPairs_L6_J26 x1 x2 x3 s0 M = some res) (ke : ∀ x : Int32 × QM, res = .inl x → WX C 8 99 [(2, .int x.1)] [] x.2) (kb : ∀ x : Int32 × Int32 × QM, res = .inr x → WX C 8 6 [(0, .ref 14), (1, .int x1), (2, .int x.1), (3, .int x.2.1)] [] x.2.2) : WX C 8 26 [(0, .ref 14), (1, .int x1), (2, .int x2), (3, .int x3)] [.int s0] M := by
  unfold St_shortenPairs_L6_J26 at h
  refine x_istore (L2 := [(4, .int s0), (0, .ref 14), (1, .int x1), (2, .int x2), (3, .int x3)]) hc dX5_shortenPairs_26 (by decide) rfl ?_
  refine x_iload_n hc dX5_shortenPairs_28 rfl 2 rfl ?_
  refine x_iconst hc dX5_shortenPairs_29 kc_1 ?_
  refine x_isub hc dX5_shortenPairs_30 ?_
  refine x_istore (L2 := [(5, .int (x1 - (1 : Int32))), (4, .int s0), (0, .ref 14), (1, .int x1), (2, .int x2), (3, .int x3)]) hc dX5_shortenPairs_31 (by decide) rfl ?_
  obtain ⟨e4, h4, h⟩ := bd_some h
  refine x_sub (S_St_shortenPairs_L33 hc hSH x1 x3 s0 (v := (x2, x1 - (1 : Int32), M)) h4 (fun x hx => ?_)) [2, 3, 4, 5, 1, 0] rfl
  subst hx
  refine x_iinc (v := x3 - (1 : Int32)) (L2 := [(3, .int (x3 - (1 : Int32))), (0, .ref 14), (1, .int x1), (2, .int e4.1)]) hc dX5_shortenPairs_93 3 rfl (q_dec _) (by decide) rfl ?_
  refine x_goto (tgt := 6) hc dX5_shortenPairs_96 (by decide) ?_
  cases h
  exact x_sub (kb (e4.1, x3 - (1 : Int32), e4.2) rfl) [1, 2, 3, 0] rfl

def St_shortenPairs_B6 (x1 : Int32) (v : Int32 × Int32 × QM) : Option ((Int32 × QM) ⊕ (Int32 × Int32 × QM)) :=
  (if v.2.1 < 0 then some (.inl (v.1, v.2.2)) else (if (v.2.2.1 14 5) ≤ v.2.1 then St_shortenPairs_L6_J26 x1 v.1 v.2.1 (0 : Int32) v.2.2 else St_shortenPairs_L6_J26 x1 v.1 v.2.1 (v.2.2.1 14 5) v.2.2))

set_option maxRecDepth 20000 in
set_option maxHeartbeats 2000000 in
theorem S_St_shortenPairs_B6 {C : QC} (hc : OKX C RX5 cX5_shortenPairs 8 3 (some .boolean)) (hSH : q_SH C = SHK) (x1 : Int32) (v : Int32 × Int32 × QM) {res : (Int32 × QM) ⊕ (Int32 × Int32 × QM)} (h : St_shortenPairs_B6 x1 v = some res) (ke : ∀ x : Int32 × QM, res = .inl x → WX C 8 99 [(2, .int x.1)] [] x.2) (kb : ∀ x : Int32 × Int32 × QM, res = .inr x → WX C 8 6 [(0, .ref 14), (1, .int x1), (2, .int x.1), (3, .int x.2.1)] [] x.2.2) : WX C 8 6 [(0, .ref 14), (1, .int x1), (2, .int v.1), (3, .int v.2.1)] [] v.2.2 := by
  unfold St_shortenPairs_B6 at h
  refine x_iload_n hc dX5_shortenPairs_6 rfl 3 rfl ?_
  refine x_if_lt (tgt := 99) hc dX5_shortenPairs_7 (by decide) (fun hb => ?_) (fun hb => ?_)
  · have h := ite_t hb h
    cases h
    exact x_sub (ke (v.1, v.2.2) rfl) [2] rfl
  · have h := ite_f hb h
    refine x_iload_n hc dX5_shortenPairs_10 rfl 3 rfl ?_
    refine x_aload_n hc dX5_shortenPairs_11 rfl 0 rfl ?_
    refine x_getI hc dX5_shortenPairs_12 fl_RX5_29 (q_s hSH sh_14) rfl ?_
    refine x_icmp_ge (tgt := 25) hc dX5_shortenPairs_15 (by decide) (fun hb => ?_) (fun hb => ?_)
    · have h := ite_t hb h
      refine x_iconst hc dX5_shortenPairs_25 kc_0 ?_
      exact x_sub (S_St_shortenPairs_L6_J26 hc hSH x1 v.1 v.2.1 (0 : Int32) v.2.2 h ke kb) [0, 1, 2, 3] rfl
    · have h := ite_f hb h
      refine x_aload_n hc dX5_shortenPairs_18 rfl 0 rfl ?_
      refine x_getI hc dX5_shortenPairs_19 fl_RX5_29 (q_s hSH sh_14) rfl ?_
      refine x_goto (tgt := 26) hc dX5_shortenPairs_22 (by decide) ?_
      exact x_sub (S_St_shortenPairs_L6_J26 hc hSH x1 v.1 v.2.1 (v.2.2.1 14 5) v.2.2 h ke kb) [0, 1, 2, 3] rfl

theorem S_St_shortenPairs_L6 {C : QC} (hc : OKX C RX5 cX5_shortenPairs 8 3 (some .boolean)) (hSH : q_SH C = SHK) (x1 : Int32) {n : Nat} {v : Int32 × Int32 × QM} {e : Int32 × QM} (h : iter (St_shortenPairs_B6 x1) n v = some e) (ke : ∀ x : Int32 × QM, e = x → WX C 8 99 [(2, .int x.1)] [] x.2) : WX C 8 6 [(0, .ref 14), (1, .int x1), (2, .int v.1), (3, .int v.2.1)] [] v.2.2 :=
  iter_W (Wh := fun v => WX C 8 6 [(0, .ref 14), (1, .int x1), (2, .int v.1), (3, .int v.2.1)] [] v.2.2) (fun a res hB k1 k2 => S_St_shortenPairs_B6 hc hSH x1 a hB (fun x hx => ke x (k1 _ hx).symm) k2) n v h

def St_shortenPairs (p1 : Int32) (M : QM) : Option (Int32 × QM) :=
  Option.bind (iter (St_shortenPairs_B6 p1) FU ((0 : Int32), p1 - (1 : Int32), M)) (fun e5 => ck (isb e5.1) (some (e5.1, e5.2)))

set_option maxRecDepth 20000 in
set_option maxHeartbeats 2000000 in
theorem S_St_shortenPairs  {p1 : Int32} {M : QM} {res : Int32 × QM} (h : St_shortenPairs p1 M = some res) : Cn yX5_shortenPairs cX5_shortenPairs 8 (some .boolean) 3 SHK [.ref 14, .int p1] M (some (.int res.1)) res.2 := by
  refine q_enter (L := [(0, .ref 14), (1, .int p1)]) (by decide) (Nat.le_of_ble_eq_true rfl) rfl ?_
  intro C hc hSH hr hM
  have hc : OKX C RX5 cX5_shortenPairs 8 3 (some .boolean) := hc
  unfold St_shortenPairs at h
  refine x_iconst hc dX5_shortenPairs_0 kc_0 ?_
  refine x_istore_n (L2 := [(2, .int (0 : Int32)), (0, .ref 14), (1, .int p1)]) hc dX5_shortenPairs_1 rfl (by decide) rfl ?_
  refine x_iload_n hc dX5_shortenPairs_2 rfl 2 rfl ?_
  refine x_iconst hc dX5_shortenPairs_3 kc_1 ?_
  refine x_isub hc dX5_shortenPairs_4 ?_
  refine x_istore_n (L2 := [(3, .int (p1 - (1 : Int32))), (2, .int (0 : Int32)), (0, .ref 14), (1, .int p1)]) hc dX5_shortenPairs_5 rfl (by decide) rfl ?_
  obtain ⟨e5, h5, h⟩ := bd_some h
  refine x_sub (S_St_shortenPairs_L6 hc hSH p1 (v := ((0 : Int32), p1 - (1 : Int32), M)) h5 (fun x hx => ?_)) [2, 3, 1, 0] rfl
  subst hx
  refine x_iload_n hc dX5_shortenPairs_99 rfl 0 rfl ?_
  obtain ⟨b6, h⟩ := ck_some h
  cases h
  exact x_zret hc dX5_shortenPairs_100 (isb_nar b6) hr hM

def St_catchUp_B26 (x1 : Int32) (v : Int32 × Int32 × QM) : Option ((QM) ⊕ (Int32 × Int32 × QM)) :=
  (if (3600 : Int32) ≤ v.2.1 then some (.inl v.2.2) else (if v.1 = 0 then some (.inl v.2.2) else Option.bind (St_shortenPairs x1 v.2.2) (fun q3 => some (.inr (q3.1, v.2.1 + (1 : Int32), q3.2)))))

set_option maxRecDepth 20000 in
set_option maxHeartbeats 2000000 in
theorem S_St_catchUp_B26 {C : QC} (hc : OKX C RX5 cX5_catchUp 4 4 none) (hSH : q_SH C = SHK) (x1 : Int32) (v : Int32 × Int32 × QM) {res : (QM) ⊕ (Int32 × Int32 × QM)} (h : St_catchUp_B26 x1 v = some res) (ke : ∀ x : QM, res = .inl x → WX C 4 49 [(0, .ref 14), (1, .int x1)] [] x) (kb : ∀ x : Int32 × Int32 × QM, res = .inr x → WX C 4 26 [(0, .ref 14), (1, .int x1), (2, .int x.1), (3, .int x.2.1)] [] x.2.2) : WX C 4 26 [(0, .ref 14), (1, .int x1), (2, .int v.1), (3, .int v.2.1)] [] v.2.2 := by
  unfold St_catchUp_B26 at h
  refine x_iload_n hc dX5_catchUp_26 rfl 3 rfl ?_
  refine x_sipush hc dX5_catchUp_27 ks_3600 ?_
  refine x_icmp_ge (tgt := 49) hc dX5_catchUp_30 (by decide) (fun hb => ?_) (fun hb => ?_)
  · have h := ite_t hb h
    cases h
    exact x_sub (ke v.2.2 rfl) [0, 1] rfl
  · have h := ite_f hb h
    refine x_iload_n hc dX5_catchUp_33 rfl 2 rfl ?_
    refine x_if_eq (tgt := 49) hc dX5_catchUp_34 (by decide) (fun hb => ?_) (fun hb => ?_)
    · have h := ite_t hb h
      cases h
      exact x_sub (ke v.2.2 rfl) [0, 1] rfl
    · have h := ite_f hb h
      refine x_aload_n hc dX5_catchUp_37 rfl 0 rfl ?_
      refine x_iload_n hc dX5_catchUp_38 rfl 1 rfl ?_
      obtain ⟨q3, h3, h⟩ := bd_some h
      refine x_callVi (As := [.int x1]) (st := []) (o := 14) hc dX5_catchUp_39 cv_X5_shortenPairs lk_RX5_42 (q_s hSH sh_14) rfl rfl (q_cn hSH (S_St_shortenPairs h3)) (by decide) (Nat.le_of_ble_eq_true rfl) ?_
      refine x_istore_n (L2 := [(2, .int q3.1), (0, .ref 14), (1, .int x1), (3, .int v.2.1)]) hc dX5_catchUp_42 rfl (by decide) rfl ?_
      refine x_iinc (v := v.2.1 + (1 : Int32)) (L2 := [(3, .int (v.2.1 + (1 : Int32))), (2, .int q3.1), (0, .ref 14), (1, .int x1)]) hc dX5_catchUp_43 3 rfl (by rw [kc_1]) (by decide) rfl ?_
      refine x_goto (tgt := 26) hc dX5_catchUp_46 (by decide) ?_
      cases h
      exact x_sub (kb (q3.1, v.2.1 + (1 : Int32), q3.2) rfl) [2, 3, 1, 0] rfl

theorem S_St_catchUp_L26 {C : QC} (hc : OKX C RX5 cX5_catchUp 4 4 none) (hSH : q_SH C = SHK) (x1 : Int32) {n : Nat} {v : Int32 × Int32 × QM} {e : QM} (h : iter (St_catchUp_B26 x1) n v = some e) (ke : ∀ x : QM, e = x → WX C 4 49 [(0, .ref 14), (1, .int x1)] [] x) : WX C 4 26 [(0, .ref 14), (1, .int x1), (2, .int v.1), (3, .int v.2.1)] [] v.2.2 :=
  iter_W (Wh := fun v => WX C 4 26 [(0, .ref 14), (1, .int x1), (2, .int v.1), (3, .int v.2.1)] [] v.2.2) (fun a res hB k1 k2 => S_St_catchUp_B26 hc hSH x1 a hB (fun x hx => ke x (k1 _ hx).symm) k2) n v h

def St_catchUp_J49 (x1 : Int32) (M : QM) : Option (QM) :=
  some (u_i M 14 5 x1)

set_option maxRecDepth 20000 in
set_option maxHeartbeats 2000000 in
theorem S_St_catchUp_J49 {C : QC} (hc : OKX C RX5 cX5_catchUp 4 4 none) (hSH : q_SH C = SHK) (x1 : Int32) (M : QM) {res : QM} (h : St_catchUp_J49 x1 M = some res) (hr : q_r C = none) (hM : q_M C = res) : WX C 4 49 [(0, .ref 14), (1, .int x1)] [] M := by
  unfold St_catchUp_J49 at h
  refine x_aload_n hc dX5_catchUp_49 rfl 0 rfl ?_
  refine x_iload_n hc dX5_catchUp_50 rfl 1 rfl ?_
  refine x_putI hc dX5_catchUp_51 fl_RX5_29 (fw_5_5 _) (q_s hSH sh_14) rfl ?_
  cases h
  exact x_vret hc dX5_catchUp_54 hr hM

def St_catchUp (M : QM) : Option (QM) :=
  Option.bind (Ne_nodes M) (fun q1 => (if (M.1 14 5) < q1 then Option.bind (St_startPairs q1 M) (fun q2 => Option.bind (iter (St_catchUp_B26 q1) FU ((1 : Int32), (0 : Int32), q2)) (fun e4 => St_catchUp_J49 q1 e4)) else some M))

set_option maxRecDepth 20000 in
set_option maxHeartbeats 2000000 in
theorem S_St_catchUp  {M : QM} {res : QM} (h : St_catchUp M = some res) : Cn yX5_catchUp cX5_catchUp 4 none 4 SHK [.ref 14] M (none) res := by
  refine q_enter (L := [(0, .ref 14)]) (by decide) (Nat.le_of_ble_eq_true rfl) rfl ?_
  intro C hc hSH hr hM
  have hc : OKX C RX5 cX5_catchUp 4 4 none := hc
  unfold St_catchUp at h
  refine x_aload_n hc dX5_catchUp_0 rfl 0 rfl ?_
  refine x_getR hc dX5_catchUp_1 fl_RX5_9 (q_s hSH sh_14) rfl ?_
  obtain ⟨q1, h1, h⟩ := bd_some h
  refine x_callVi (As := []) (st := []) (o := 3) hc dX5_catchUp_4 cv_X3_nodes lk_RX5_32 (q_s hSH sh_3) rfl rfl (q_cn hSH (S_Ne_nodes h1)) (by decide) (Nat.le_of_ble_eq_true rfl) ?_
  refine x_istore_n (L2 := [(1, .int q1), (0, .ref 14)]) hc dX5_catchUp_7 rfl (by decide) rfl ?_
  refine x_aload_n hc dX5_catchUp_8 rfl 1 rfl ?_
  refine x_getI hc dX5_catchUp_9 fl_RX5_29 (q_s hSH sh_14) rfl ?_
  refine x_iload_n hc dX5_catchUp_12 rfl 0 rfl ?_
  refine x_icmp_lt (tgt := 17) hc dX5_catchUp_13 (by decide) (fun hb => ?_) (fun hb => ?_)
  · have h := ite_t hb h
    refine x_aload_n hc dX5_catchUp_17 rfl 1 rfl ?_
    refine x_iload_n hc dX5_catchUp_18 rfl 0 rfl ?_
    obtain ⟨q2, h2, h⟩ := bd_some h
    refine x_callVv (As := [.int q1]) (st := []) (o := 14) hc dX5_catchUp_19 cv_X5_startPairs lk_RX5_38 (q_s hSH sh_14) rfl rfl (q_cn hSH (S_St_startPairs h2)) (by decide) (Nat.le_of_ble_eq_true rfl) ?_
    refine x_iconst hc dX5_catchUp_22 kc_1 ?_
    refine x_istore_n (L2 := [(2, .int (1 : Int32)), (1, .int q1), (0, .ref 14)]) hc dX5_catchUp_23 rfl (by decide) rfl ?_
    refine x_iconst hc dX5_catchUp_24 kc_0 ?_
    refine x_istore_n (L2 := [(3, .int (0 : Int32)), (2, .int (1 : Int32)), (1, .int q1), (0, .ref 14)]) hc dX5_catchUp_25 rfl (by decide) rfl ?_
    obtain ⟨e4, h4, h⟩ := bd_some h
    refine x_sub (S_St_catchUp_L26 hc hSH q1 (v := ((1 : Int32), (0 : Int32), q2)) h4 (fun x hx => ?_)) [3, 2, 1, 0] rfl
    subst hx
    exact x_sub (S_St_catchUp_J49 hc hSH q1 e4 h hr hM) [0, 1] rfl
  · have h := ite_f hb h
    cases h
    exact x_vret hc dX5_catchUp_16 hr hM

def St_stepsDown (p1 : Int32) (p2 : Int32) (M : QM) : Option (Int32) :=
  Option.bind (St_mayStand p1 p2 M) (fun q1 => (if q1 = 0 then Option.bind (St_stepsOf p1 p2 M) (fun q2 => some q2) else some (-6 : Int32)))

set_option maxRecDepth 20000 in
set_option maxHeartbeats 2000000 in
theorem S_St_stepsDown  {p1 : Int32} {p2 : Int32} {M : QM} {res : Int32} (h : St_stepsDown p1 p2 M = some res) : Cn yX5_stepsDown cX5_stepsDown 3 (some .int) 3 SHK [.ref 14, .int p1, .int p2] M (some (.int res)) M := by
  refine q_enter (L := [(0, .ref 14), (1, .int p1), (2, .int p2)]) (by decide) (Nat.le_of_ble_eq_true rfl) rfl ?_
  intro C hc hSH hr hM
  have hc : OKX C RX5 cX5_stepsDown 3 3 (some .int) := hc
  unfold St_stepsDown at h
  refine x_aload_n hc dX5_stepsDown_0 rfl 0 rfl ?_
  refine x_iload_n hc dX5_stepsDown_1 rfl 1 rfl ?_
  refine x_iload_n hc dX5_stepsDown_2 rfl 2 rfl ?_
  obtain ⟨q1, h1, h⟩ := bd_some h
  refine x_callVi (As := [.int p1, .int p2]) (st := []) (o := 14) hc dX5_stepsDown_3 cv_X5_mayStand lk_RX5_51 (q_s hSH sh_14) rfl rfl (q_cn hSH (S_St_mayStand h1)) (by decide) (Nat.le_of_ble_eq_true rfl) ?_
  refine x_if_eq (tgt := 14) hc dX5_stepsDown_6 (by decide) (fun hb => ?_) (fun hb => ?_)
  · have h := ite_t hb h
    refine x_aload_n hc dX5_stepsDown_14 rfl 0 rfl ?_
    refine x_iload_n hc dX5_stepsDown_15 rfl 1 rfl ?_
    refine x_iload_n hc dX5_stepsDown_16 rfl 2 rfl ?_
    obtain ⟨q2, h2, h⟩ := bd_some h
    refine x_callVi (As := [.int p1, .int p2]) (st := []) (o := 14) hc dX5_stepsDown_17 cv_X5_stepsOf lk_RX5_46 (q_s hSH sh_14) rfl rfl (q_cn hSH (S_St_stepsOf h2)) (by decide) (Nat.le_of_ble_eq_true rfl) ?_
    cases h
    exact x_iret hc dX5_stepsDown_20 hr hM
  · have h := ite_f hb h
    refine x_bipush hc dX5_stepsDown_9 kb_m6 ?_
    refine x_goto (tgt := 20) hc dX5_stepsDown_11 (by decide) ?_
    cases h
    exact x_iret hc dX5_stepsDown_20 hr hM

def St_firstSlotDown_B2 (x1 : Int32) (M : QM) (v : Int32) : Option (((Int32) ⊕ (Unit)) ⊕ (Int32)) :=
  (if (8 : Int32) ≤ v then some (.inl (.inr ())) else Option.bind (St_pairBehind x1 v M) (fun q1 => (if q1 = (-6 : Int32) then some (.inr (v + (1 : Int32))) else Option.bind (St_stepsOfPair q1 M) (fun q2 => Option.bind (St_stepsOfPair x1 M) (fun q3 => (if q2 = (q3 - (1 : Int32)) then some (.inl (.inl v)) else some (.inr (v + (1 : Int32)))))))))

set_option maxRecDepth 20000 in
set_option maxHeartbeats 2000000 in
theorem S_St_firstSlotDown_B2 {C : QC} (hc : OKX C RX5 cX5_firstSlotDown 4 2 (some .int)) (hSH : q_SH C = SHK) (x1 : Int32) (M : QM) (v : Int32) {res : ((Int32) ⊕ (Unit)) ⊕ (Int32)} (h : St_firstSlotDown_B2 x1 M v = some res) (kr : ∀ x : Int32, res = .inl (.inl x) → q_r C = some (.int x) ∧ q_M C = M) (ke : ∀ x : Unit, res = .inl (.inr x) → WX C 4 44 [] [] M) (kb : ∀ x : Int32, res = .inr x → WX C 4 2 [(0, .ref 14), (1, .int x1), (2, .int x)] [] M) : WX C 4 2 [(0, .ref 14), (1, .int x1), (2, .int v)] [] M := by
  unfold St_firstSlotDown_B2 at h
  refine x_iload_n hc dX5_firstSlotDown_2 rfl 2 rfl ?_
  refine x_bipush hc dX5_firstSlotDown_3 kb_8 ?_
  refine x_icmp_ge (tgt := 44) hc dX5_firstSlotDown_5 (by decide) (fun hb => ?_) (fun hb => ?_)
  · have h := ite_t hb h
    cases h
    exact x_sub (ke () rfl) [] rfl
  · have h := ite_f hb h
    refine x_aload_n hc dX5_firstSlotDown_8 rfl 0 rfl ?_
    refine x_iload_n hc dX5_firstSlotDown_9 rfl 1 rfl ?_
    refine x_iload_n hc dX5_firstSlotDown_10 rfl 2 rfl ?_
    obtain ⟨q1, h1, h⟩ := bd_some h
    refine x_callVi (As := [.int x1, .int v]) (st := []) (o := 14) hc dX5_firstSlotDown_11 cv_X5_pairBehind lk_RX5_78 (q_s hSH sh_14) rfl rfl (q_cn hSH (S_St_pairBehind h1)) (by decide) (Nat.le_of_ble_eq_true rfl) ?_
    refine x_istore_n (L2 := [(3, .int q1), (0, .ref 14), (1, .int x1), (2, .int v)]) hc dX5_firstSlotDown_14 rfl (by decide) rfl ?_
    refine x_iload_n hc dX5_firstSlotDown_15 rfl 0 rfl ?_
    refine x_bipush hc dX5_firstSlotDown_16 kb_m6 ?_
    refine x_icmp_eq (tgt := 38) hc dX5_firstSlotDown_18 (by decide) (fun hb => ?_) (fun hb => ?_)
    · have h := ite_t hb h
      refine x_iinc (v := v + (1 : Int32)) (L2 := [(2, .int (v + (1 : Int32))), (3, .int q1), (0, .ref 14), (1, .int x1)]) hc dX5_firstSlotDown_38 3 rfl (by rw [kc_1]) (by decide) rfl ?_
      refine x_goto (tgt := 2) hc dX5_firstSlotDown_41 (by decide) ?_
      cases h
      exact x_sub (kb (v + (1 : Int32)) rfl) [2, 3, 0] rfl
    · have h := ite_f hb h
      refine x_aload_n hc dX5_firstSlotDown_21 rfl 1 rfl ?_
      refine x_iload_n hc dX5_firstSlotDown_22 rfl 0 rfl ?_
      obtain ⟨q2, h2, h⟩ := bd_some h
      refine x_callVi (As := [.int q1]) (st := []) (o := 14) hc dX5_firstSlotDown_23 cv_X5_stepsOfPair lk_RX5_106 (q_s hSH sh_14) rfl rfl (q_cn hSH (S_St_stepsOfPair h2)) (by decide) (Nat.le_of_ble_eq_true rfl) ?_
      refine x_aload_n hc dX5_firstSlotDown_26 rfl 1 rfl ?_
      refine x_iload_n hc dX5_firstSlotDown_27 rfl 2 rfl ?_
      obtain ⟨q3, h3, h⟩ := bd_some h
      refine x_callVi (As := [.int x1]) (st := [.int q2]) (o := 14) hc dX5_firstSlotDown_28 cv_X5_stepsOfPair lk_RX5_106 (q_s hSH sh_14) rfl rfl (q_cn hSH (S_St_stepsOfPair h3)) (by decide) (Nat.le_of_ble_eq_true rfl) ?_
      refine x_iconst hc dX5_firstSlotDown_31 kc_1 ?_
      refine x_isub hc dX5_firstSlotDown_32 ?_
      refine x_icmp_ne (tgt := 38) hc dX5_firstSlotDown_33 (by decide) (fun hb => ?_) (fun hb => ?_)
      · have h := ite_f hb h
        refine x_iinc (v := v + (1 : Int32)) (L2 := [(2, .int (v + (1 : Int32))), (3, .int q1), (0, .ref 14), (1, .int x1)]) hc dX5_firstSlotDown_38 3 rfl (by rw [kc_1]) (by decide) rfl ?_
        refine x_goto (tgt := 2) hc dX5_firstSlotDown_41 (by decide) ?_
        cases h
        exact x_sub (kb (v + (1 : Int32)) rfl) [2, 3, 0] rfl
      · have h := ite_t hb h
        refine x_iload_n hc dX5_firstSlotDown_36 rfl 3 rfl ?_
        cases h
        exact x_iret hc dX5_firstSlotDown_37 (kr _ rfl).1 (kr _ rfl).2

theorem S_St_firstSlotDown_L2 {C : QC} (hc : OKX C RX5 cX5_firstSlotDown 4 2 (some .int)) (hSH : q_SH C = SHK) (x1 : Int32) (M : QM) {n : Nat} {v : Int32} {e : (Int32) ⊕ (Unit)} (h : iter (St_firstSlotDown_B2 x1 M) n v = some e) (kr : ∀ x : Int32, e = .inl x → q_r C = some (.int x) ∧ q_M C = M) (ke : ∀ x : Unit, e = .inr x → WX C 4 44 [] [] M) : WX C 4 2 [(0, .ref 14), (1, .int x1), (2, .int v)] [] M :=
  iter_W (Wh := fun v => WX C 4 2 [(0, .ref 14), (1, .int x1), (2, .int v)] [] M) (fun a res hB k1 k2 => S_St_firstSlotDown_B2 hc hSH x1 M a hB (fun x hx => kr x (k1 _ hx).symm) (fun x hx => ke x (k1 _ hx).symm) k2) n v h

def St_firstSlotDown (p1 : Int32) (M : QM) : Option (Int32) :=
  Option.bind (iter (St_firstSlotDown_B2 p1 M) FU (0 : Int32)) (fun e4 => Sum.elim (fun r4 => some r4) (fun y4 => some (-6 : Int32)) e4)

set_option maxRecDepth 20000 in
set_option maxHeartbeats 2000000 in
theorem S_St_firstSlotDown  {p1 : Int32} {M : QM} {res : Int32} (h : St_firstSlotDown p1 M = some res) : Cn yX5_firstSlotDown cX5_firstSlotDown 4 (some .int) 2 SHK [.ref 14, .int p1] M (some (.int res)) M := by
  refine q_enter (L := [(0, .ref 14), (1, .int p1)]) (by decide) (Nat.le_of_ble_eq_true rfl) rfl ?_
  intro C hc hSH hr hM
  have hc : OKX C RX5 cX5_firstSlotDown 4 2 (some .int) := hc
  unfold St_firstSlotDown at h
  refine x_iconst hc dX5_firstSlotDown_0 kc_0 ?_
  refine x_istore_n (L2 := [(2, .int (0 : Int32)), (0, .ref 14), (1, .int p1)]) hc dX5_firstSlotDown_1 rfl (by decide) rfl ?_
  obtain ⟨e4, h4, h⟩ := bd_some h
  refine x_sub (S_St_firstSlotDown_L2 hc hSH p1 M (v := (0 : Int32)) h4 (fun r4 hx => ?_) (fun y4 hx => ?_)) [1, 2, 0] rfl
  · subst hx
    have h := sum_l h
    cases h
    exact ⟨hr, hM⟩
  · subst hx
    have h := sum_r h
    refine x_bipush hc dX5_firstSlotDown_44 kb_m6 ?_
    cases h
    exact x_iret hc dX5_firstSlotDown_46 hr hM

def St_pairAfter_B11 (x3 : Int32) (M : QM) (v : Int32 × Int32) : Option ((Int32) ⊕ (Int32 × Int32)) :=
  (if x3 ≤ v.2 then some (.inl v.1) else Option.bind (St_firstSlotDown v.1 M) (fun q1 => Option.bind (St_pairBehind v.1 q1 M) (fun q2 => some (.inr (q2, v.2 + (1 : Int32))))))

set_option maxRecDepth 20000 in
set_option maxHeartbeats 2000000 in
theorem S_St_pairAfter_B11 {C : QC} (hc : OKX C RX5 cX5_pairAfter 6 3 (some .int)) (hSH : q_SH C = SHK) (x3 : Int32) (M : QM) (v : Int32 × Int32) {res : (Int32) ⊕ (Int32 × Int32)} (h : St_pairAfter_B11 x3 M v = some res) (ke : ∀ x : Int32, res = .inl x → WX C 6 37 [(4, .int x)] [] M) (kb : ∀ x : Int32 × Int32, res = .inr x → WX C 6 11 [(0, .ref 14), (3, .int x3), (4, .int x.1), (5, .int x.2)] [] M) : WX C 6 11 [(0, .ref 14), (3, .int x3), (4, .int v.1), (5, .int v.2)] [] M := by
  unfold St_pairAfter_B11 at h
  refine x_iload hc dX5_pairAfter_11 3 rfl ?_
  refine x_iload_n hc dX5_pairAfter_13 rfl 1 rfl ?_
  refine x_icmp_ge (tgt := 37) hc dX5_pairAfter_14 (by decide) (fun hb => ?_) (fun hb => ?_)
  · have h := ite_t hb h
    cases h
    exact x_sub (ke v.1 rfl) [2] rfl
  · have h := ite_f hb h
    refine x_aload_n hc dX5_pairAfter_17 rfl 0 rfl ?_
    refine x_iload hc dX5_pairAfter_18 2 rfl ?_
    refine x_aload_n hc dX5_pairAfter_20 rfl 0 rfl ?_
    refine x_iload hc dX5_pairAfter_21 2 rfl ?_
    obtain ⟨q1, h1, h⟩ := bd_some h
    refine x_callVi (As := [.int v.1]) (st := [.int v.1, .ref 14]) (o := 14) hc dX5_pairAfter_23 cv_X5_firstSlotDown lk_RX5_66 (q_s hSH sh_14) rfl rfl (q_cn hSH (S_St_firstSlotDown h1)) (by decide) (Nat.le_of_ble_eq_true rfl) ?_
    obtain ⟨q2, h2, h⟩ := bd_some h
    refine x_callVi (As := [.int v.1, .int q1]) (st := []) (o := 14) hc dX5_pairAfter_26 cv_X5_pairBehind lk_RX5_78 (q_s hSH sh_14) rfl rfl (q_cn hSH (S_St_pairBehind h2)) (by decide) (Nat.le_of_ble_eq_true rfl) ?_
    refine x_istore (L2 := [(4, .int q2), (0, .ref 14), (3, .int x3), (5, .int v.2)]) hc dX5_pairAfter_29 (by decide) rfl ?_
    refine x_iinc (v := v.2 + (1 : Int32)) (L2 := [(5, .int (v.2 + (1 : Int32))), (4, .int q2), (0, .ref 14), (3, .int x3)]) hc dX5_pairAfter_31 3 rfl (by rw [kc_1]) (by decide) rfl ?_
    refine x_goto (tgt := 11) hc dX5_pairAfter_34 (by decide) ?_
    cases h
    exact x_sub (kb (q2, v.2 + (1 : Int32)) rfl) [2, 3, 1, 0] rfl

theorem S_St_pairAfter_L11 {C : QC} (hc : OKX C RX5 cX5_pairAfter 6 3 (some .int)) (hSH : q_SH C = SHK) (x3 : Int32) (M : QM) {n : Nat} {v : Int32 × Int32} {e : Int32} (h : iter (St_pairAfter_B11 x3 M) n v = some e) (ke : ∀ x : Int32, e = x → WX C 6 37 [(4, .int x)] [] M) : WX C 6 11 [(0, .ref 14), (3, .int x3), (4, .int v.1), (5, .int v.2)] [] M :=
  iter_W (Wh := fun v => WX C 6 11 [(0, .ref 14), (3, .int x3), (4, .int v.1), (5, .int v.2)] [] M) (fun a res hB k1 k2 => S_St_pairAfter_B11 hc hSH x3 M a hB (fun x hx => ke x (k1 _ hx).symm) k2) n v h

def St_pairAfter (p1 : Int32) (p2 : Int32) (p3 : Int32) (M : QM) : Option (Int32) :=
  Option.bind (iter (St_pairAfter_B11 p3 M) FU ((p1 * (60 : Int32)) + p2, (0 : Int32))) (fun e3 => some e3)

set_option maxRecDepth 20000 in
set_option maxHeartbeats 2000000 in
theorem S_St_pairAfter  {p1 : Int32} {p2 : Int32} {p3 : Int32} {M : QM} {res : Int32} (h : St_pairAfter p1 p2 p3 M = some res) : Cn yX5_pairAfter cX5_pairAfter 6 (some .int) 3 SHK [.ref 14, .int p1, .int p2, .int p3] M (some (.int res)) M := by
  refine q_enter (L := [(0, .ref 14), (1, .int p1), (2, .int p2), (3, .int p3)]) (by decide) (Nat.le_of_ble_eq_true rfl) rfl ?_
  intro C hc hSH hr hM
  have hc : OKX C RX5 cX5_pairAfter 6 3 (some .int) := hc
  unfold St_pairAfter at h
  refine x_iload_n hc dX5_pairAfter_0 rfl 1 rfl ?_
  refine x_bipush hc dX5_pairAfter_1 kb_60 ?_
  refine x_imul hc dX5_pairAfter_3 ?_
  refine x_iload_n hc dX5_pairAfter_4 rfl 2 rfl ?_
  refine x_iadd hc dX5_pairAfter_5 ?_
  refine x_istore (L2 := [(4, .int ((p1 * (60 : Int32)) + p2)), (0, .ref 14), (1, .int p1), (2, .int p2), (3, .int p3)]) hc dX5_pairAfter_6 (by decide) rfl ?_
  refine x_iconst hc dX5_pairAfter_8 kc_0 ?_
  refine x_istore (L2 := [(5, .int (0 : Int32)), (4, .int ((p1 * (60 : Int32)) + p2)), (0, .ref 14), (1, .int p1), (2, .int p2), (3, .int p3)]) hc dX5_pairAfter_9 (by decide) rfl ?_
  obtain ⟨e3, h3, h⟩ := bd_some h
  refine x_sub (S_St_pairAfter_L11 hc hSH p3 M (v := ((p1 * (60 : Int32)) + p2, (0 : Int32))) h3 (fun x hx => ?_)) [2, 5, 1, 0] rfl
  subst hx
  refine x_iload hc dX5_pairAfter_37 0 rfl ?_
  cases h
  exact x_iret hc dX5_pairAfter_39 hr hM

def St_endOfWay (p1 : Int32) (p2 : Int32) (M : QM) : Option (Int32) :=
  Option.bind (St_stepsDown p1 p2 M) (fun q1 => (if q1 = (-6 : Int32) then some (-6 : Int32) else Option.bind (St_pairAfter p1 p2 q1 M) (fun q2 => some (((100 : Int32) * (q2 / (60 : Int32))) + (q2 - q2 / (60 : Int32) * (60 : Int32))))))

set_option maxRecDepth 20000 in
set_option maxHeartbeats 2000000 in
theorem S_St_endOfWay  {p1 : Int32} {p2 : Int32} {M : QM} {res : Int32} (h : St_endOfWay p1 p2 M = some res) : Cn yX5_endOfWay cX5_endOfWay 5 (some .int) 4 SHK [.ref 14, .int p1, .int p2] M (some (.int res)) M := by
  refine q_enter (L := [(0, .ref 14), (1, .int p1), (2, .int p2)]) (by decide) (Nat.le_of_ble_eq_true rfl) rfl ?_
  intro C hc hSH hr hM
  have hc : OKX C RX5 cX5_endOfWay 5 4 (some .int) := hc
  unfold St_endOfWay at h
  refine x_aload_n hc dX5_endOfWay_0 rfl 0 rfl ?_
  refine x_iload_n hc dX5_endOfWay_1 rfl 1 rfl ?_
  refine x_iload_n hc dX5_endOfWay_2 rfl 2 rfl ?_
  obtain ⟨q1, h1, h⟩ := bd_some h
  refine x_callVi (As := [.int p1, .int p2]) (st := []) (o := 14) hc dX5_endOfWay_3 cv_X5_stepsDown lk_RX5_55 (q_s hSH sh_14) rfl rfl (q_cn hSH (S_St_stepsDown h1)) (by decide) (Nat.le_of_ble_eq_true rfl) ?_
  refine x_istore_n (L2 := [(3, .int q1), (0, .ref 14), (1, .int p1), (2, .int p2)]) hc dX5_endOfWay_6 rfl (by decide) rfl ?_
  refine x_iload_n hc dX5_endOfWay_7 rfl 0 rfl ?_
  refine x_bipush hc dX5_endOfWay_8 kb_m6 ?_
  refine x_icmp_ne (tgt := 16) hc dX5_endOfWay_10 (by decide) (fun hb => ?_) (fun hb => ?_)
  · have h := ite_f hb h
    refine x_aload_n hc dX5_endOfWay_16 rfl 1 rfl ?_
    refine x_iload_n hc dX5_endOfWay_17 rfl 2 rfl ?_
    refine x_iload_n hc dX5_endOfWay_18 rfl 3 rfl ?_
    refine x_iload_n hc dX5_endOfWay_19 rfl 0 rfl ?_
    obtain ⟨q2, h2, h⟩ := bd_some h
    refine x_callVi (As := [.int p1, .int p2, .int q1]) (st := []) (o := 14) hc dX5_endOfWay_20 cv_X5_pairAfter lk_RX5_58 (q_s hSH sh_14) rfl rfl (q_cn hSH (S_St_pairAfter h2)) (by decide) (Nat.le_of_ble_eq_true rfl) ?_
    refine x_istore (L2 := [(4, .int q2), (3, .int q1), (0, .ref 14), (1, .int p1), (2, .int p2)]) hc dX5_endOfWay_23 (by decide) rfl ?_
    refine x_bipush hc dX5_endOfWay_25 kb_100 ?_
    refine x_iload hc dX5_endOfWay_27 0 rfl ?_
    refine x_bipush hc dX5_endOfWay_29 kb_60 ?_
    refine x_idiv hc dX5_endOfWay_31 (by decide) ?_
    refine x_imul hc dX5_endOfWay_32 ?_
    refine x_iload hc dX5_endOfWay_33 0 rfl ?_
    refine x_bipush hc dX5_endOfWay_35 kb_60 ?_
    refine x_irem hc dX5_endOfWay_37 (by decide) ?_
    refine x_iadd hc dX5_endOfWay_38 ?_
    cases h
    exact x_iret hc dX5_endOfWay_39 hr hM
  · have h := ite_t hb h
    refine x_bipush hc dX5_endOfWay_13 kb_m6 ?_
    cases h
    exact x_iret hc dX5_endOfWay_15 hr hM

def St_forget (M : QM) : Option (QM) :=
  some (u_i M 14 5 (0 : Int32))

set_option maxRecDepth 20000 in
set_option maxHeartbeats 2000000 in
theorem S_St_forget  {M : QM} {res : QM} (h : St_forget M = some res) : Cn yX5_forget cX5_forget 1 none 0 SHK [.ref 14] M (none) res := by
  refine q_enter (L := [(0, .ref 14)]) (by decide) (Nat.le_of_ble_eq_true rfl) rfl ?_
  intro C hc hSH hr hM
  have hc : OKX C RX5 cX5_forget 1 0 none := hc
  unfold St_forget at h
  refine x_aload_n hc dX5_forget_0 rfl 0 rfl ?_
  refine x_iconst hc dX5_forget_1 kc_0 ?_
  refine x_putI hc dX5_forget_2 fl_RX5_29 (fw_5_5 _) (q_s hSH sh_14) rfl ?_
  cases h
  exact x_vret hc dX5_forget_5 hr hM

def St_reachedAt (p1 : Int32) (M : QM) : Option (Int32) :=
  (if p1 < 0 then some (-6 : Int32) else (if (60 : Int32) ≤ p1 then some (-6 : Int32) else ck (inb p1 60) (some (M.1 16 p1.toNatClampNeg))))

set_option maxRecDepth 20000 in
set_option maxHeartbeats 2000000 in
theorem S_St_reachedAt  {p1 : Int32} {M : QM} {res : Int32} (h : St_reachedAt p1 M = some res) : Cn yX5_reachedAt cX5_reachedAt 2 (some .int) 0 SHK [.ref 14, .int p1] M (some (.int res)) M := by
  refine q_enter (L := [(0, .ref 14), (1, .int p1)]) (by decide) (Nat.le_of_ble_eq_true rfl) rfl ?_
  intro C hc hSH hr hM
  have hc : OKX C RX5 cX5_reachedAt 2 0 (some .int) := hc
  unfold St_reachedAt at h
  refine x_iload_n hc dX5_reachedAt_0 rfl 1 rfl ?_
  refine x_if_lt (tgt := 19) hc dX5_reachedAt_1 (by decide) (fun hb => ?_) (fun hb => ?_)
  · have h := ite_t hb h
    refine x_bipush hc dX5_reachedAt_19 kb_m6 ?_
    cases h
    exact x_iret hc dX5_reachedAt_21 hr hM
  · have h := ite_f hb h
    refine x_iload_n hc dX5_reachedAt_4 rfl 1 rfl ?_
    refine x_bipush hc dX5_reachedAt_5 kb_60 ?_
    refine x_icmp_ge (tgt := 19) hc dX5_reachedAt_7 (by decide) (fun hb => ?_) (fun hb => ?_)
    · have h := ite_t hb h
      refine x_bipush hc dX5_reachedAt_19 kb_m6 ?_
      cases h
      exact x_iret hc dX5_reachedAt_21 hr hM
    · have h := ite_f hb h
      refine x_aload_n hc dX5_reachedAt_10 rfl 0 rfl ?_
      refine x_getR hc dX5_reachedAt_11 fl_RX5_19 (q_s hSH sh_14) rfl ?_
      refine x_iload_n hc dX5_reachedAt_14 rfl 1 rfl ?_
      obtain ⟨b1, h⟩ := ck_some h
      refine x_iald hc dX5_reachedAt_15 (q_s hSH sh_16) (inb_in b1) ?_
      refine x_goto (tgt := 21) hc dX5_reachedAt_16 (by decide) ?_
      cases h
      exact x_iret hc dX5_reachedAt_21 hr hM

def St_isAlikeEarlier_B2 (x1 : Int32) (M : QM) (v : Int32) : Option (((Int32) ⊕ (Unit)) ⊕ (Int32)) :=
  (if x1 ≤ v then some (.inl (.inr ())) else Option.bind (St_reachedAt v M) (fun q1 => Option.bind (St_reachedAt x1 M) (fun q2 => Option.bind (St_areAlike q1 q2 M) (fun q3 => (if q3 = 0 then some (.inr (v + (1 : Int32))) else some (.inl (.inl (1 : Int32))))))))

set_option maxRecDepth 20000 in
set_option maxHeartbeats 2000000 in
theorem S_St_isAlikeEarlier_B2 {C : QC} (hc : OKX C RX5 cX5_isAlikeEarlier 3 4 (some .boolean)) (hSH : q_SH C = SHK) (x1 : Int32) (M : QM) (v : Int32) {res : ((Int32) ⊕ (Unit)) ⊕ (Int32)} (h : St_isAlikeEarlier_B2 x1 M v = some res) (kr : ∀ x : Int32, res = .inl (.inl x) → q_r C = some (.int x) ∧ q_M C = M) (ke : ∀ x : Unit, res = .inl (.inr x) → WX C 3 32 [] [] M) (kb : ∀ x : Int32, res = .inr x → WX C 3 2 [(0, .ref 14), (1, .int x1), (2, .int x)] [] M) : WX C 3 2 [(0, .ref 14), (1, .int x1), (2, .int v)] [] M := by
  unfold St_isAlikeEarlier_B2 at h
  refine x_iload_n hc dX5_isAlikeEarlier_2 rfl 2 rfl ?_
  refine x_iload_n hc dX5_isAlikeEarlier_3 rfl 1 rfl ?_
  refine x_icmp_ge (tgt := 32) hc dX5_isAlikeEarlier_4 (by decide) (fun hb => ?_) (fun hb => ?_)
  · have h := ite_t hb h
    cases h
    exact x_sub (ke () rfl) [] rfl
  · have h := ite_f hb h
    refine x_aload_n hc dX5_isAlikeEarlier_7 rfl 0 rfl ?_
    refine x_aload_n hc dX5_isAlikeEarlier_8 rfl 0 rfl ?_
    refine x_iload_n hc dX5_isAlikeEarlier_9 rfl 2 rfl ?_
    obtain ⟨q1, h1, h⟩ := bd_some h
    refine x_callVi (As := [.int v]) (st := [.ref 14]) (o := 14) hc dX5_isAlikeEarlier_10 cv_X5_reachedAt lk_RX5_81 (q_s hSH sh_14) rfl rfl (q_cn hSH (S_St_reachedAt h1)) (by decide) (Nat.le_of_ble_eq_true rfl) ?_
    refine x_aload_n hc dX5_isAlikeEarlier_13 rfl 0 rfl ?_
    refine x_iload_n hc dX5_isAlikeEarlier_14 rfl 1 rfl ?_
    obtain ⟨q2, h2, h⟩ := bd_some h
    refine x_callVi (As := [.int x1]) (st := [.int q1, .ref 14]) (o := 14) hc dX5_isAlikeEarlier_15 cv_X5_reachedAt lk_RX5_81 (q_s hSH sh_14) rfl rfl (q_cn hSH (S_St_reachedAt h2)) (by decide) (Nat.le_of_ble_eq_true rfl) ?_
    obtain ⟨q3, h3, h⟩ := bd_some h
    refine x_callVi (As := [.int q1, .int q2]) (st := []) (o := 14) hc dX5_isAlikeEarlier_18 cv_X5_areAlike lk_RX5_84 (q_s hSH sh_14) rfl rfl (q_cn hSH (S_St_areAlike h3)) (by decide) (Nat.le_of_ble_eq_true rfl) ?_
    refine x_if_eq (tgt := 26) hc dX5_isAlikeEarlier_21 (by decide) (fun hb => ?_) (fun hb => ?_)
    · have h := ite_t hb h
      refine x_iinc (v := v + (1 : Int32)) (L2 := [(2, .int (v + (1 : Int32))), (0, .ref 14), (1, .int x1)]) hc dX5_isAlikeEarlier_26 2 rfl (by rw [kc_1]) (by decide) rfl ?_
      refine x_goto (tgt := 2) hc dX5_isAlikeEarlier_29 (by decide) ?_
      cases h
      exact x_sub (kb (v + (1 : Int32)) rfl) [1, 2, 0] rfl
    · have h := ite_f hb h
      refine x_iconst hc dX5_isAlikeEarlier_24 kc_1 ?_
      cases h
      exact x_zret hc dX5_isAlikeEarlier_25 nar_1 (kr _ rfl).1 (kr _ rfl).2

theorem S_St_isAlikeEarlier_L2 {C : QC} (hc : OKX C RX5 cX5_isAlikeEarlier 3 4 (some .boolean)) (hSH : q_SH C = SHK) (x1 : Int32) (M : QM) {n : Nat} {v : Int32} {e : (Int32) ⊕ (Unit)} (h : iter (St_isAlikeEarlier_B2 x1 M) n v = some e) (kr : ∀ x : Int32, e = .inl x → q_r C = some (.int x) ∧ q_M C = M) (ke : ∀ x : Unit, e = .inr x → WX C 3 32 [] [] M) : WX C 3 2 [(0, .ref 14), (1, .int x1), (2, .int v)] [] M :=
  iter_W (Wh := fun v => WX C 3 2 [(0, .ref 14), (1, .int x1), (2, .int v)] [] M) (fun a res hB k1 k2 => S_St_isAlikeEarlier_B2 hc hSH x1 M a hB (fun x hx => kr x (k1 _ hx).symm) (fun x hx => ke x (k1 _ hx).symm) k2) n v h

def St_isAlikeEarlier (p1 : Int32) (M : QM) : Option (Int32) :=
  Option.bind (iter (St_isAlikeEarlier_B2 p1 M) FU (0 : Int32)) (fun e4 => Sum.elim (fun r4 => some r4) (fun y4 => some (0 : Int32)) e4)

set_option maxRecDepth 20000 in
set_option maxHeartbeats 2000000 in
theorem S_St_isAlikeEarlier  {p1 : Int32} {M : QM} {res : Int32} (h : St_isAlikeEarlier p1 M = some res) : Cn yX5_isAlikeEarlier cX5_isAlikeEarlier 3 (some .boolean) 4 SHK [.ref 14, .int p1] M (some (.int res)) M := by
  refine q_enter (L := [(0, .ref 14), (1, .int p1)]) (by decide) (Nat.le_of_ble_eq_true rfl) rfl ?_
  intro C hc hSH hr hM
  have hc : OKX C RX5 cX5_isAlikeEarlier 3 4 (some .boolean) := hc
  unfold St_isAlikeEarlier at h
  refine x_iconst hc dX5_isAlikeEarlier_0 kc_0 ?_
  refine x_istore_n (L2 := [(2, .int (0 : Int32)), (0, .ref 14), (1, .int p1)]) hc dX5_isAlikeEarlier_1 rfl (by decide) rfl ?_
  obtain ⟨e4, h4, h⟩ := bd_some h
  refine x_sub (S_St_isAlikeEarlier_L2 hc hSH p1 M (v := (0 : Int32)) h4 (fun r4 hx => ?_) (fun y4 hx => ?_)) [1, 2, 0] rfl
  · subst hx
    have h := sum_l h
    cases h
    exact ⟨hr, hM⟩
  · subst hx
    have h := sum_r h
    refine x_iconst hc dX5_isAlikeEarlier_32 kc_0 ?_
    cases h
    exact x_zret hc dX5_isAlikeEarlier_33 nar_0 hr hM

def St_pairsThatMay_B17 (x2 : Int32) (M : QM) (v : Int32 × Int32) : Option ((Int32) ⊕ (Int32 × Int32)) :=
  Option.bind (Ne_nodes M) (fun q2 => (if q2 ≤ v.2 then some (.inl v.1) else (if x2 = v.2 then some (.inr (v.1, v.2 + (1 : Int32))) else Option.bind (St_mayStand x2 v.2 M) (fun q3 => (if q3 = 0 then some (.inr (v.1, v.2 + (1 : Int32))) else some (.inr (v.1 + (1 : Int32), v.2 + (1 : Int32))))))))

set_option maxRecDepth 20000 in
set_option maxHeartbeats 2000000 in
theorem S_St_pairsThatMay_B17 {C : QC} (hc : OKX C RX5 cX5_pairsThatMay 4 3 (some .int)) (hSH : q_SH C = SHK) (x2 : Int32) (M : QM) (v : Int32 × Int32) {res : (Int32) ⊕ (Int32 × Int32)} (h : St_pairsThatMay_B17 x2 M v = some res) (ke : ∀ x : Int32, res = .inl x → WX C 4 51 [(0, .ref 14), (1, .int x), (2, .int x2)] [] M) (kb : ∀ x : Int32 × Int32, res = .inr x → WX C 4 17 [(0, .ref 14), (1, .int x.1), (2, .int x2), (3, .int x.2)] [] M) : WX C 4 17 [(0, .ref 14), (1, .int v.1), (2, .int x2), (3, .int v.2)] [] M := by
  unfold St_pairsThatMay_B17 at h
  refine x_iload_n hc dX5_pairsThatMay_17 rfl 3 rfl ?_
  refine x_aload_n hc dX5_pairsThatMay_18 rfl 0 rfl ?_
  refine x_getR hc dX5_pairsThatMay_19 fl_RX5_9 (q_s hSH sh_14) rfl ?_
  obtain ⟨q2, h2, h⟩ := bd_some h
  refine x_callVi (As := []) (st := [.int v.2]) (o := 3) hc dX5_pairsThatMay_22 cv_X3_nodes lk_RX5_32 (q_s hSH sh_3) rfl rfl (q_cn hSH (S_Ne_nodes h2)) (by decide) (Nat.le_of_ble_eq_true rfl) ?_
  refine x_icmp_ge (tgt := 51) hc dX5_pairsThatMay_25 (by decide) (fun hb => ?_) (fun hb => ?_)
  · have h := ite_t hb h
    cases h
    exact x_sub (ke v.1 rfl) [0, 1, 2] rfl
  · have h := ite_f hb h
    refine x_iload_n hc dX5_pairsThatMay_28 rfl 2 rfl ?_
    refine x_iload_n hc dX5_pairsThatMay_29 rfl 3 rfl ?_
    refine x_icmp_eq (tgt := 45) hc dX5_pairsThatMay_30 (by decide) (fun hb => ?_) (fun hb => ?_)
    · have h := ite_t hb h
      refine x_iinc (v := v.2 + (1 : Int32)) (L2 := [(3, .int (v.2 + (1 : Int32))), (0, .ref 14), (1, .int v.1), (2, .int x2)]) hc dX5_pairsThatMay_45 3 rfl (by rw [kc_1]) (by decide) rfl ?_
      refine x_goto (tgt := 17) hc dX5_pairsThatMay_48 (by decide) ?_
      cases h
      exact x_sub (kb (v.1, v.2 + (1 : Int32)) rfl) [1, 2, 3, 0] rfl
    · have h := ite_f hb h
      refine x_aload_n hc dX5_pairsThatMay_33 rfl 0 rfl ?_
      refine x_iload_n hc dX5_pairsThatMay_34 rfl 2 rfl ?_
      refine x_iload_n hc dX5_pairsThatMay_35 rfl 3 rfl ?_
      obtain ⟨q3, h3, h⟩ := bd_some h
      refine x_callVi (As := [.int x2, .int v.2]) (st := []) (o := 14) hc dX5_pairsThatMay_36 cv_X5_mayStand lk_RX5_51 (q_s hSH sh_14) rfl rfl (q_cn hSH (S_St_mayStand h3)) (by decide) (Nat.le_of_ble_eq_true rfl) ?_
      refine x_if_eq (tgt := 45) hc dX5_pairsThatMay_39 (by decide) (fun hb => ?_) (fun hb => ?_)
      · have h := ite_t hb h
        refine x_iinc (v := v.2 + (1 : Int32)) (L2 := [(3, .int (v.2 + (1 : Int32))), (0, .ref 14), (1, .int v.1), (2, .int x2)]) hc dX5_pairsThatMay_45 3 rfl (by rw [kc_1]) (by decide) rfl ?_
        refine x_goto (tgt := 17) hc dX5_pairsThatMay_48 (by decide) ?_
        cases h
        exact x_sub (kb (v.1, v.2 + (1 : Int32)) rfl) [1, 2, 3, 0] rfl
      · have h := ite_f hb h
        refine x_iinc (v := v.1 + (1 : Int32)) (L2 := [(1, .int (v.1 + (1 : Int32))), (0, .ref 14), (2, .int x2), (3, .int v.2)]) hc dX5_pairsThatMay_42 1 rfl (by rw [kc_1]) (by decide) rfl ?_
        refine x_iinc (v := v.2 + (1 : Int32)) (L2 := [(3, .int (v.2 + (1 : Int32))), (1, .int (v.1 + (1 : Int32))), (0, .ref 14), (2, .int x2)]) hc dX5_pairsThatMay_45 3 rfl (by rw [kc_1]) (by decide) rfl ?_
        refine x_goto (tgt := 17) hc dX5_pairsThatMay_48 (by decide) ?_
        cases h
        exact x_sub (kb (v.1 + (1 : Int32), v.2 + (1 : Int32)) rfl) [2, 1, 3, 0] rfl

theorem S_St_pairsThatMay_L17 {C : QC} (hc : OKX C RX5 cX5_pairsThatMay 4 3 (some .int)) (hSH : q_SH C = SHK) (x2 : Int32) (M : QM) {n : Nat} {v : Int32 × Int32} {e : Int32} (h : iter (St_pairsThatMay_B17 x2 M) n v = some e) (ke : ∀ x : Int32, e = x → WX C 4 51 [(0, .ref 14), (1, .int x), (2, .int x2)] [] M) : WX C 4 17 [(0, .ref 14), (1, .int v.1), (2, .int x2), (3, .int v.2)] [] M :=
  iter_W (Wh := fun v => WX C 4 17 [(0, .ref 14), (1, .int v.1), (2, .int x2), (3, .int v.2)] [] M) (fun a res hB k1 k2 => S_St_pairsThatMay_B17 hc hSH x2 M a hB (fun x hx => ke x (k1 _ hx).symm) k2) n v h

def St_pairsThatMay_B4 (M : QM) (v : Int32 × Int32) : Option ((Int32) ⊕ (Int32 × Int32)) :=
  Option.bind (Ne_nodes M) (fun q1 => (if q1 ≤ v.2 then some (.inl v.1) else Option.bind (iter (St_pairsThatMay_B17 v.2 M) FU (v.1, (0 : Int32))) (fun e4 => some (.inr (e4, v.2 + (1 : Int32))))))

set_option maxRecDepth 20000 in
set_option maxHeartbeats 2000000 in
theorem S_St_pairsThatMay_B4 {C : QC} (hc : OKX C RX5 cX5_pairsThatMay 4 3 (some .int)) (hSH : q_SH C = SHK) (M : QM) (v : Int32 × Int32) {res : (Int32) ⊕ (Int32 × Int32)} (h : St_pairsThatMay_B4 M v = some res) (ke : ∀ x : Int32, res = .inl x → WX C 4 57 [(1, .int x)] [] M) (kb : ∀ x : Int32 × Int32, res = .inr x → WX C 4 4 [(0, .ref 14), (1, .int x.1), (2, .int x.2)] [] M) : WX C 4 4 [(0, .ref 14), (1, .int v.1), (2, .int v.2)] [] M := by
  unfold St_pairsThatMay_B4 at h
  refine x_iload_n hc dX5_pairsThatMay_4 rfl 2 rfl ?_
  refine x_aload_n hc dX5_pairsThatMay_5 rfl 0 rfl ?_
  refine x_getR hc dX5_pairsThatMay_6 fl_RX5_9 (q_s hSH sh_14) rfl ?_
  obtain ⟨q1, h1, h⟩ := bd_some h
  refine x_callVi (As := []) (st := [.int v.2]) (o := 3) hc dX5_pairsThatMay_9 cv_X3_nodes lk_RX5_32 (q_s hSH sh_3) rfl rfl (q_cn hSH (S_Ne_nodes h1)) (by decide) (Nat.le_of_ble_eq_true rfl) ?_
  refine x_icmp_ge (tgt := 57) hc dX5_pairsThatMay_12 (by decide) (fun hb => ?_) (fun hb => ?_)
  · have h := ite_t hb h
    cases h
    exact x_sub (ke v.1 rfl) [1] rfl
  · have h := ite_f hb h
    refine x_iconst hc dX5_pairsThatMay_15 kc_0 ?_
    refine x_istore_n (L2 := [(3, .int (0 : Int32)), (0, .ref 14), (1, .int v.1), (2, .int v.2)]) hc dX5_pairsThatMay_16 rfl (by decide) rfl ?_
    obtain ⟨e4, h4, h⟩ := bd_some h
    refine x_sub (S_St_pairsThatMay_L17 hc hSH v.2 M (v := (v.1, (0 : Int32))) h4 (fun x hx => ?_)) [1, 2, 3, 0] rfl
    subst hx
    refine x_iinc (v := v.2 + (1 : Int32)) (L2 := [(2, .int (v.2 + (1 : Int32))), (0, .ref 14), (1, .int e4)]) hc dX5_pairsThatMay_51 2 rfl (by rw [kc_1]) (by decide) rfl ?_
    refine x_goto (tgt := 4) hc dX5_pairsThatMay_54 (by decide) ?_
    cases h
    exact x_sub (kb (e4, v.2 + (1 : Int32)) rfl) [1, 2, 0] rfl

theorem S_St_pairsThatMay_L4 {C : QC} (hc : OKX C RX5 cX5_pairsThatMay 4 3 (some .int)) (hSH : q_SH C = SHK) (M : QM) {n : Nat} {v : Int32 × Int32} {e : Int32} (h : iter (St_pairsThatMay_B4 M) n v = some e) (ke : ∀ x : Int32, e = x → WX C 4 57 [(1, .int x)] [] M) : WX C 4 4 [(0, .ref 14), (1, .int v.1), (2, .int v.2)] [] M :=
  iter_W (Wh := fun v => WX C 4 4 [(0, .ref 14), (1, .int v.1), (2, .int v.2)] [] M) (fun a res hB k1 k2 => S_St_pairsThatMay_B4 hc hSH M a hB (fun x hx => ke x (k1 _ hx).symm) k2) n v h

def St_pairsThatMay (M : QM) : Option (Int32) :=
  Option.bind (iter (St_pairsThatMay_B4 M) FU ((0 : Int32), (0 : Int32))) (fun e5 => some e5)

set_option maxRecDepth 20000 in
set_option maxHeartbeats 2000000 in
theorem S_St_pairsThatMay  {M : QM} {res : Int32} (h : St_pairsThatMay M = some res) : Cn yX5_pairsThatMay cX5_pairsThatMay 4 (some .int) 3 SHK [.ref 14] M (some (.int res)) M := by
  refine q_enter (L := [(0, .ref 14)]) (by decide) (Nat.le_of_ble_eq_true rfl) rfl ?_
  intro C hc hSH hr hM
  have hc : OKX C RX5 cX5_pairsThatMay 4 3 (some .int) := hc
  unfold St_pairsThatMay at h
  refine x_iconst hc dX5_pairsThatMay_0 kc_0 ?_
  refine x_istore_n (L2 := [(1, .int (0 : Int32)), (0, .ref 14)]) hc dX5_pairsThatMay_1 rfl (by decide) rfl ?_
  refine x_iconst hc dX5_pairsThatMay_2 kc_0 ?_
  refine x_istore_n (L2 := [(2, .int (0 : Int32)), (1, .int (0 : Int32)), (0, .ref 14)]) hc dX5_pairsThatMay_3 rfl (by decide) rfl ?_
  obtain ⟨e5, h5, h⟩ := bd_some h
  refine x_sub (S_St_pairsThatMay_L4 hc hSH M (v := ((0 : Int32), (0 : Int32))) h5 (fun x hx => ?_)) [2, 1, 0] rfl
  subst hx
  refine x_iload_n hc dX5_pairsThatMay_57 rfl 0 rfl ?_
  cases h
  exact x_iret hc dX5_pairsThatMay_58 hr hM

def St_reachAlso (p1 : Int32) (p2 : Int32) (M : QM) : Option (Int32 × QM) :=
  (if p1 < 0 then some (p2, M) else (if (60 : Int32) ≤ p1 then some (p2, M) else ck (inb p1 60) ((if (M.1 17 p1.toNatClampNeg) = (M.1 14 4) then some (p2, M) else (if p2 < 0 then some (p2, M) else (if p2 < (60 : Int32) then ck (inb p1 60) (ck (inb p2 60) (some (p2 + (1 : Int32), u_i (u_i M 17 p1.toNatClampNeg (M.1 14 4)) 16 p2.toNatClampNeg p1))) else some (p2, M)))))))

set_option maxRecDepth 20000 in
set_option maxHeartbeats 2000000 in
theorem S_St_reachAlso  {p1 : Int32} {p2 : Int32} {M : QM} {res : Int32 × QM} (h : St_reachAlso p1 p2 M = some res) : Cn yX5_reachAlso cX5_reachAlso 3 (some .int) 0 SHK [.ref 14, .int p1, .int p2] M (some (.int res.1)) res.2 := by
  refine q_enter (L := [(0, .ref 14), (1, .int p1), (2, .int p2)]) (by decide) (Nat.le_of_ble_eq_true rfl) rfl ?_
  intro C hc hSH hr hM
  have hc : OKX C RX5 cX5_reachAlso 3 0 (some .int) := hc
  unfold St_reachAlso at h
  refine x_iload_n hc dX5_reachAlso_0 rfl 1 rfl ?_
  refine x_if_lt (tgt := 23) hc dX5_reachAlso_1 (by decide) (fun hb => ?_) (fun hb => ?_)
  · have h := ite_t hb h
    refine x_iload_n hc dX5_reachAlso_23 rfl 2 rfl ?_
    cases h
    exact x_iret hc dX5_reachAlso_24 hr hM
  · have h := ite_f hb h
    refine x_iload_n hc dX5_reachAlso_4 rfl 1 rfl ?_
    refine x_bipush hc dX5_reachAlso_5 kb_60 ?_
    refine x_icmp_ge (tgt := 23) hc dX5_reachAlso_7 (by decide) (fun hb => ?_) (fun hb => ?_)
    · have h := ite_t hb h
      refine x_iload_n hc dX5_reachAlso_23 rfl 2 rfl ?_
      cases h
      exact x_iret hc dX5_reachAlso_24 hr hM
    · have h := ite_f hb h
      refine x_aload_n hc dX5_reachAlso_10 rfl 0 rfl ?_
      refine x_getR hc dX5_reachAlso_11 fl_RX5_22 (q_s hSH sh_14) rfl ?_
      refine x_iload_n hc dX5_reachAlso_14 rfl 1 rfl ?_
      obtain ⟨b1, h⟩ := ck_some h
      refine x_iald hc dX5_reachAlso_15 (q_s hSH sh_17) (inb_in b1) ?_
      refine x_aload_n hc dX5_reachAlso_16 rfl 0 rfl ?_
      refine x_getI hc dX5_reachAlso_17 fl_RX5_25 (q_s hSH sh_14) rfl ?_
      refine x_icmp_ne (tgt := 25) hc dX5_reachAlso_20 (by decide) (fun hb => ?_) (fun hb => ?_)
      · have h := ite_f hb h
        refine x_iload_n hc dX5_reachAlso_25 rfl 2 rfl ?_
        refine x_if_lt (tgt := 35) hc dX5_reachAlso_26 (by decide) (fun hb => ?_) (fun hb => ?_)
        · have h := ite_t hb h
          refine x_iload_n hc dX5_reachAlso_35 rfl 2 rfl ?_
          cases h
          exact x_iret hc dX5_reachAlso_36 hr hM
        · have h := ite_f hb h
          refine x_iload_n hc dX5_reachAlso_29 rfl 2 rfl ?_
          refine x_bipush hc dX5_reachAlso_30 kb_60 ?_
          refine x_icmp_lt (tgt := 37) hc dX5_reachAlso_32 (by decide) (fun hb => ?_) (fun hb => ?_)
          · have h := ite_t hb h
            refine x_aload_n hc dX5_reachAlso_37 rfl 0 rfl ?_
            refine x_getR hc dX5_reachAlso_38 fl_RX5_22 (q_s hSH sh_14) rfl ?_
            refine x_iload_n hc dX5_reachAlso_41 rfl 1 rfl ?_
            refine x_aload_n hc dX5_reachAlso_42 rfl 0 rfl ?_
            refine x_getI hc dX5_reachAlso_43 fl_RX5_25 (q_s hSH sh_14) rfl ?_
            obtain ⟨b2, h⟩ := ck_some h
            refine x_iast hc dX5_reachAlso_46 (q_s hSH sh_17) (inb_in b2) ?_
            refine x_aload_n hc dX5_reachAlso_47 rfl 0 rfl ?_
            refine x_getR hc dX5_reachAlso_48 fl_RX5_19 (q_s hSH sh_14) rfl ?_
            refine x_iload_n hc dX5_reachAlso_51 rfl 2 rfl ?_
            refine x_iload_n hc dX5_reachAlso_52 rfl 1 rfl ?_
            obtain ⟨b3, h⟩ := ck_some h
            refine x_iast hc dX5_reachAlso_53 (q_s hSH sh_16) (inb_in b3) ?_
            refine x_iload_n hc dX5_reachAlso_54 rfl 2 rfl ?_
            refine x_iconst hc dX5_reachAlso_55 kc_1 ?_
            refine x_iadd hc dX5_reachAlso_56 ?_
            cases h
            exact x_iret hc dX5_reachAlso_57 hr hM
          · have h := ite_f hb h
            refine x_iload_n hc dX5_reachAlso_35 rfl 2 rfl ?_
            cases h
            exact x_iret hc dX5_reachAlso_36 hr hM
      · have h := ite_t hb h
        refine x_iload_n hc dX5_reachAlso_23 rfl 2 rfl ?_
        cases h
        exact x_iret hc dX5_reachAlso_24 hr hM

def St_reachFrom_B33 (x3 : Int32) (v : Int32 × Int32 × QM) : Option ((Int32 × QM) ⊕ (Int32 × Int32 × QM)) :=
  (if (8 : Int32) ≤ v.2.1 then some (.inl (v.1, v.2.2)) else Option.bind (St_reachedAt x3 v.2.2) (fun q2 => Option.bind (Ne_partAt q2 v.2.1 v.2.2) (fun q3 => Option.bind (St_reachAlso q3 v.1 v.2.2) (fun q4 => some (.inr (q4.1, v.2.1 + (1 : Int32), q4.2))))))

set_option maxRecDepth 20000 in
set_option maxHeartbeats 2000000 in
theorem S_St_reachFrom_B33 {C : QC} (hc : OKX C RX5 cX5_reachFrom 5 1 (some .int)) (hSH : q_SH C = SHK) (x3 : Int32) (v : Int32 × Int32 × QM) {res : (Int32 × QM) ⊕ (Int32 × Int32 × QM)} (h : St_reachFrom_B33 x3 v = some res) (ke : ∀ x : Int32 × QM, res = .inl x → WX C 5 66 [(0, .ref 14), (2, .int x.1), (3, .int x3)] [] x.2) (kb : ∀ x : Int32 × Int32 × QM, res = .inr x → WX C 5 33 [(0, .ref 14), (2, .int x.1), (3, .int x3), (4, .int x.2.1)] [] x.2.2) : WX C 5 33 [(0, .ref 14), (2, .int v.1), (3, .int x3), (4, .int v.2.1)] [] v.2.2 := by
  unfold St_reachFrom_B33 at h
  refine x_iload hc dX5_reachFrom_33 3 rfl ?_
  refine x_bipush hc dX5_reachFrom_35 kb_8 ?_
  refine x_icmp_ge (tgt := 66) hc dX5_reachFrom_37 (by decide) (fun hb => ?_) (fun hb => ?_)
  · have h := ite_t hb h
    cases h
    exact x_sub (ke (v.1, v.2.2) rfl) [0, 1, 2] rfl
  · have h := ite_f hb h
    refine x_aload_n hc dX5_reachFrom_40 rfl 0 rfl ?_
    refine x_aload_n hc dX5_reachFrom_41 rfl 0 rfl ?_
    refine x_getR hc dX5_reachFrom_42 fl_RX5_9 (q_s hSH sh_14) rfl ?_
    refine x_aload_n hc dX5_reachFrom_45 rfl 0 rfl ?_
    refine x_iload_n hc dX5_reachFrom_46 rfl 2 rfl ?_
    obtain ⟨q2, h2, h⟩ := bd_some h
    refine x_callVi (As := [.int x3]) (st := [.ref 3, .ref 14]) (o := 14) hc dX5_reachFrom_47 cv_X5_reachedAt lk_RX5_81 (q_s hSH sh_14) rfl rfl (q_cn hSH (S_St_reachedAt h2)) (by decide) (Nat.le_of_ble_eq_true rfl) ?_
    refine x_iload hc dX5_reachFrom_50 3 rfl ?_
    obtain ⟨q3, h3, h⟩ := bd_some h
    refine x_callVi (As := [.int q2, .int v.2.1]) (st := [.ref 14]) (o := 3) hc dX5_reachFrom_52 cv_X3_partAt lk_RX5_90 (q_s hSH sh_3) rfl rfl (q_cn hSH (S_Ne_partAt h3)) (by decide) (Nat.le_of_ble_eq_true rfl) ?_
    refine x_iload_n hc dX5_reachFrom_55 rfl 1 rfl ?_
    obtain ⟨q4, h4, h⟩ := bd_some h
    refine x_callVi (As := [.int q3, .int v.1]) (st := []) (o := 14) hc dX5_reachFrom_56 cv_X5_reachAlso lk_RX5_87 (q_s hSH sh_14) rfl rfl (q_cn hSH (S_St_reachAlso h4)) (by decide) (Nat.le_of_ble_eq_true rfl) ?_
    refine x_istore_n (L2 := [(2, .int q4.1), (0, .ref 14), (3, .int x3), (4, .int v.2.1)]) hc dX5_reachFrom_59 rfl (by decide) rfl ?_
    refine x_iinc (v := v.2.1 + (1 : Int32)) (L2 := [(4, .int (v.2.1 + (1 : Int32))), (2, .int q4.1), (0, .ref 14), (3, .int x3)]) hc dX5_reachFrom_60 3 rfl (by rw [kc_1]) (by decide) rfl ?_
    refine x_goto (tgt := 33) hc dX5_reachFrom_63 (by decide) ?_
    cases h
    exact x_sub (kb (q4.1, v.2.1 + (1 : Int32), q4.2) rfl) [2, 1, 3, 0] rfl

theorem S_St_reachFrom_L33 {C : QC} (hc : OKX C RX5 cX5_reachFrom 5 1 (some .int)) (hSH : q_SH C = SHK) (x3 : Int32) {n : Nat} {v : Int32 × Int32 × QM} {e : Int32 × QM} (h : iter (St_reachFrom_B33 x3) n v = some e) (ke : ∀ x : Int32 × QM, e = x → WX C 5 66 [(0, .ref 14), (2, .int x.1), (3, .int x3)] [] x.2) : WX C 5 33 [(0, .ref 14), (2, .int v.1), (3, .int x3), (4, .int v.2.1)] [] v.2.2 :=
  iter_W (Wh := fun v => WX C 5 33 [(0, .ref 14), (2, .int v.1), (3, .int x3), (4, .int v.2.1)] [] v.2.2) (fun a res hB k1 k2 => S_St_reachFrom_B33 hc hSH x3 a hB (fun x hx => ke x (k1 _ hx).symm) k2) n v h

def St_reachFrom_B19 (v : Int32 × Int32 × QM) : Option ((Int32 × QM) ⊕ (Int32 × Int32 × QM)) :=
  (if v.1 ≤ v.2.1 then some (.inl (v.1, v.2.2)) else (if (60 : Int32) ≤ v.2.1 then some (.inl (v.1, v.2.2)) else Option.bind (iter (St_reachFrom_B33 v.2.1) FU (v.1, (0 : Int32), v.2.2)) (fun e5 => some (.inr (e5.1, v.2.1 + (1 : Int32), e5.2)))))

set_option maxRecDepth 20000 in
set_option maxHeartbeats 2000000 in
theorem S_St_reachFrom_B19 {C : QC} (hc : OKX C RX5 cX5_reachFrom 5 1 (some .int)) (hSH : q_SH C = SHK) (v : Int32 × Int32 × QM) {res : (Int32 × QM) ⊕ (Int32 × Int32 × QM)} (h : St_reachFrom_B19 v = some res) (ke : ∀ x : Int32 × QM, res = .inl x → WX C 5 72 [(2, .int x.1)] [] x.2) (kb : ∀ x : Int32 × Int32 × QM, res = .inr x → WX C 5 19 [(0, .ref 14), (2, .int x.1), (3, .int x.2.1)] [] x.2.2) : WX C 5 19 [(0, .ref 14), (2, .int v.1), (3, .int v.2.1)] [] v.2.2 := by
  unfold St_reachFrom_B19 at h
  refine x_iload_n hc dX5_reachFrom_19 rfl 2 rfl ?_
  refine x_iload_n hc dX5_reachFrom_20 rfl 1 rfl ?_
  refine x_icmp_ge (tgt := 72) hc dX5_reachFrom_21 (by decide) (fun hb => ?_) (fun hb => ?_)
  · have h := ite_t hb h
    cases h
    exact x_sub (ke (v.1, v.2.2) rfl) [1] rfl
  · have h := ite_f hb h
    refine x_iload_n hc dX5_reachFrom_24 rfl 2 rfl ?_
    refine x_bipush hc dX5_reachFrom_25 kb_60 ?_
    refine x_icmp_ge (tgt := 72) hc dX5_reachFrom_27 (by decide) (fun hb => ?_) (fun hb => ?_)
    · have h := ite_t hb h
      cases h
      exact x_sub (ke (v.1, v.2.2) rfl) [1] rfl
    · have h := ite_f hb h
      refine x_iconst hc dX5_reachFrom_30 kc_0 ?_
      refine x_istore (L2 := [(4, .int (0 : Int32)), (0, .ref 14), (2, .int v.1), (3, .int v.2.1)]) hc dX5_reachFrom_31 (by decide) rfl ?_
      obtain ⟨e5, h5, h⟩ := bd_some h
      refine x_sub (S_St_reachFrom_L33 hc hSH v.2.1 (v := (v.1, (0 : Int32), v.2.2)) h5 (fun x hx => ?_)) [1, 2, 3, 0] rfl
      subst hx
      refine x_iinc (v := v.2.1 + (1 : Int32)) (L2 := [(3, .int (v.2.1 + (1 : Int32))), (0, .ref 14), (2, .int e5.1)]) hc dX5_reachFrom_66 2 rfl (by rw [kc_1]) (by decide) rfl ?_
      refine x_goto (tgt := 19) hc dX5_reachFrom_69 (by decide) ?_
      cases h
      exact x_sub (kb (e5.1, v.2.1 + (1 : Int32), e5.2) rfl) [1, 2, 0] rfl

theorem S_St_reachFrom_L19 {C : QC} (hc : OKX C RX5 cX5_reachFrom 5 1 (some .int)) (hSH : q_SH C = SHK) {n : Nat} {v : Int32 × Int32 × QM} {e : Int32 × QM} (h : iter (St_reachFrom_B19) n v = some e) (ke : ∀ x : Int32 × QM, e = x → WX C 5 72 [(2, .int x.1)] [] x.2) : WX C 5 19 [(0, .ref 14), (2, .int v.1), (3, .int v.2.1)] [] v.2.2 :=
  iter_W (Wh := fun v => WX C 5 19 [(0, .ref 14), (2, .int v.1), (3, .int v.2.1)] [] v.2.2) (fun a res hB k1 k2 => S_St_reachFrom_B19 hc hSH a hB (fun x hx => ke x (k1 _ hx).symm) k2) n v h

def St_reachFrom (p1 : Int32) (M : QM) : Option (Int32 × QM) :=
  Option.bind (St_reachAlso p1 (0 : Int32) (u_i M 14 4 ((M.1 14 4) + (1 : Int32)))) (fun q1 => Option.bind (iter (St_reachFrom_B19) FU (q1.1, (0 : Int32), q1.2)) (fun e6 => some (e6.1, e6.2)))

set_option maxRecDepth 20000 in
set_option maxHeartbeats 2000000 in
theorem S_St_reachFrom  {p1 : Int32} {M : QM} {res : Int32 × QM} (h : St_reachFrom p1 M = some res) : Cn yX5_reachFrom cX5_reachFrom 5 (some .int) 1 SHK [.ref 14, .int p1] M (some (.int res.1)) res.2 := by
  refine q_enter (L := [(0, .ref 14), (1, .int p1)]) (by decide) (Nat.le_of_ble_eq_true rfl) rfl ?_
  intro C hc hSH hr hM
  have hc : OKX C RX5 cX5_reachFrom 5 1 (some .int) := hc
  unfold St_reachFrom at h
  refine x_aload_n hc dX5_reachFrom_0 rfl 0 rfl ?_
  refine x_dup hc dX5_reachFrom_1 rfl ?_
  refine x_getI hc dX5_reachFrom_2 fl_RX5_25 (q_s hSH sh_14) rfl ?_
  refine x_iconst hc dX5_reachFrom_5 kc_1 ?_
  refine x_iadd hc dX5_reachFrom_6 ?_
  refine x_putI hc dX5_reachFrom_7 fl_RX5_25 (fw_5_4 _) (q_s hSH sh_14) rfl ?_
  refine x_aload_n hc dX5_reachFrom_10 rfl 0 rfl ?_
  refine x_iload_n hc dX5_reachFrom_11 rfl 1 rfl ?_
  refine x_iconst hc dX5_reachFrom_12 kc_0 ?_
  obtain ⟨q1, h1, h⟩ := bd_some h
  refine x_callVi (As := [.int p1, .int (0 : Int32)]) (st := []) (o := 14) hc dX5_reachFrom_13 cv_X5_reachAlso lk_RX5_87 (q_s hSH sh_14) rfl rfl (q_cn hSH (S_St_reachAlso h1)) (by decide) (Nat.le_of_ble_eq_true rfl) ?_
  refine x_istore_n (L2 := [(2, .int q1.1), (0, .ref 14), (1, .int p1)]) hc dX5_reachFrom_16 rfl (by decide) rfl ?_
  refine x_iconst hc dX5_reachFrom_17 kc_0 ?_
  refine x_istore_n (L2 := [(3, .int (0 : Int32)), (2, .int q1.1), (0, .ref 14), (1, .int p1)]) hc dX5_reachFrom_18 rfl (by decide) rfl ?_
  obtain ⟨e6, h6, h⟩ := bd_some h
  refine x_sub (S_St_reachFrom_L19 hc hSH (v := (q1.1, (0 : Int32), q1.2)) h6 (fun x hx => ?_)) [2, 1, 0] rfl
  subst hx
  refine x_iload_n hc dX5_reachFrom_72 rfl 0 rfl ?_
  cases h
  exact x_iret hc dX5_reachFrom_73 hr hM

def St_stepThrough (p0 : Int32) (p1 : Int32) (M : QM) : Option (Int32) :=
  (if p0 = (42 : Int32) then some (8 : Int32) else (if p0 = (62 : Int32) then some ((9 : Int32) + p1) else some p1))

set_option maxRecDepth 20000 in
set_option maxHeartbeats 2000000 in
theorem S_St_stepThrough  {p0 : Int32} {p1 : Int32} {M : QM} {res : Int32} (h : St_stepThrough p0 p1 M = some res) : Cn yX5_stepThrough cX5_stepThrough 2 (some .int) 0 SHK [.int p0, .int p1] M (some (.int res)) M := by
  refine q_enter (L := [(0, .int p0), (1, .int p1)]) (by decide) (Nat.le_of_ble_eq_true rfl) rfl ?_
  intro C hc hSH hr hM
  have hc : OKX C RX5 cX5_stepThrough 2 0 (some .int) := hc
  unfold St_stepThrough at h
  refine x_iload_n hc dX5_stepThrough_0 rfl 0 rfl ?_
  refine x_bipush hc dX5_stepThrough_1 kb_42 ?_
  refine x_icmp_ne (tgt := 9) hc dX5_stepThrough_3 (by decide) (fun hb => ?_) (fun hb => ?_)
  · have h := ite_f hb h
    refine x_iload_n hc dX5_stepThrough_9 rfl 0 rfl ?_
    refine x_bipush hc dX5_stepThrough_10 kb_62 ?_
    refine x_icmp_ne (tgt := 22) hc dX5_stepThrough_12 (by decide) (fun hb => ?_) (fun hb => ?_)
    · have h := ite_f hb h
      refine x_iload_n hc dX5_stepThrough_22 rfl 1 rfl ?_
      cases h
      exact x_iret hc dX5_stepThrough_23 hr hM
    · have h := ite_t hb h
      refine x_bipush hc dX5_stepThrough_15 kb_9 ?_
      refine x_iload_n hc dX5_stepThrough_17 rfl 1 rfl ?_
      refine x_iadd hc dX5_stepThrough_18 ?_
      refine x_goto (tgt := 23) hc dX5_stepThrough_19 (by decide) ?_
      cases h
      exact x_iret hc dX5_stepThrough_23 hr hM
  · have h := ite_t hb h
    refine x_bipush hc dX5_stepThrough_6 kb_8 ?_
    cases h
    exact x_iret hc dX5_stepThrough_8 hr hM

def St_stepDown (p1 : Int32) (p2 : Int32) (p3 : Int32) (M : QM) : Option (Int32) :=
  (if p3 < 0 then some (-6 : Int32) else Option.bind (St_stepsDown p1 p2 M) (fun q1 => (if p3 < q1 then Option.bind (St_pairAfter p1 p2 p3 M) (fun q2 => Option.bind (Ne_signOf (q2 / (60 : Int32)) M) (fun q3 => Option.bind (St_firstSlotDown q2 M) (fun q4 => Option.bind (St_stepThrough q3 q4 M) (fun q5 => some q5)))) else some (-6 : Int32))))

set_option maxRecDepth 20000 in
set_option maxHeartbeats 2000000 in
theorem S_St_stepDown  {p1 : Int32} {p2 : Int32} {p3 : Int32} {M : QM} {res : Int32} (h : St_stepDown p1 p2 p3 M = some res) : Cn yX5_stepDown cX5_stepDown 5 (some .int) 4 SHK [.ref 14, .int p1, .int p2, .int p3] M (some (.int res)) M := by
  refine q_enter (L := [(0, .ref 14), (1, .int p1), (2, .int p2), (3, .int p3)]) (by decide) (Nat.le_of_ble_eq_true rfl) rfl ?_
  intro C hc hSH hr hM
  have hc : OKX C RX5 cX5_stepDown 5 4 (some .int) := hc
  unfold St_stepDown at h
  refine x_iload_n hc dX5_stepDown_0 rfl 3 rfl ?_
  refine x_if_lt (tgt := 14) hc dX5_stepDown_1 (by decide) (fun hb => ?_) (fun hb => ?_)
  · have h := ite_t hb h
    refine x_bipush hc dX5_stepDown_14 kb_m6 ?_
    cases h
    exact x_iret hc dX5_stepDown_16 hr hM
  · have h := ite_f hb h
    refine x_iload_n hc dX5_stepDown_4 rfl 3 rfl ?_
    refine x_aload_n hc dX5_stepDown_5 rfl 0 rfl ?_
    refine x_iload_n hc dX5_stepDown_6 rfl 1 rfl ?_
    refine x_iload_n hc dX5_stepDown_7 rfl 2 rfl ?_
    obtain ⟨q1, h1, h⟩ := bd_some h
    refine x_callVi (As := [.int p1, .int p2]) (st := [.int p3]) (o := 14) hc dX5_stepDown_8 cv_X5_stepsDown lk_RX5_55 (q_s hSH sh_14) rfl rfl (q_cn hSH (S_St_stepsDown h1)) (by decide) (Nat.le_of_ble_eq_true rfl) ?_
    refine x_icmp_lt (tgt := 17) hc dX5_stepDown_11 (by decide) (fun hb => ?_) (fun hb => ?_)
    · have h := ite_t hb h
      refine x_aload_n hc dX5_stepDown_17 rfl 0 rfl ?_
      refine x_iload_n hc dX5_stepDown_18 rfl 1 rfl ?_
      refine x_iload_n hc dX5_stepDown_19 rfl 2 rfl ?_
      refine x_iload_n hc dX5_stepDown_20 rfl 3 rfl ?_
      obtain ⟨q2, h2, h⟩ := bd_some h
      refine x_callVi (As := [.int p1, .int p2, .int p3]) (st := []) (o := 14) hc dX5_stepDown_21 cv_X5_pairAfter lk_RX5_58 (q_s hSH sh_14) rfl rfl (q_cn hSH (S_St_pairAfter h2)) (by decide) (Nat.le_of_ble_eq_true rfl) ?_
      refine x_istore (L2 := [(4, .int q2), (0, .ref 14), (1, .int p1), (2, .int p2), (3, .int p3)]) hc dX5_stepDown_24 (by decide) rfl ?_
      refine x_aload_n hc dX5_stepDown_26 rfl 1 rfl ?_
      refine x_getR hc dX5_stepDown_27 fl_RX5_9 (q_s hSH sh_14) rfl ?_
      refine x_iload hc dX5_stepDown_30 0 rfl ?_
      refine x_bipush hc dX5_stepDown_32 kb_60 ?_
      refine x_idiv hc dX5_stepDown_34 (by decide) ?_
      obtain ⟨q3, h3, h⟩ := bd_some h
      refine x_callVi (As := [.int (q2 / (60 : Int32))]) (st := []) (o := 3) hc dX5_stepDown_35 cv_X3_signOf lk_RX5_62 (q_s hSH sh_3) rfl rfl (q_cn hSH (S_Ne_signOf h3)) (by decide) (Nat.le_of_ble_eq_true rfl) ?_
      refine x_aload_n hc dX5_stepDown_38 rfl 1 rfl ?_
      refine x_iload hc dX5_stepDown_39 0 rfl ?_
      obtain ⟨q4, h4, h⟩ := bd_some h
      refine x_callVi (As := [.int q2]) (st := [.int q3]) (o := 14) hc dX5_stepDown_41 cv_X5_firstSlotDown lk_RX5_66 (q_s hSH sh_14) rfl rfl (q_cn hSH (S_St_firstSlotDown h4)) (by decide) (Nat.le_of_ble_eq_true rfl) ?_
      obtain ⟨q5, h5, h⟩ := bd_some h
      refine x_callSi (As := [.int q3, .int q4]) (st := []) hc dX5_stepDown_44 cs_X5_stepThrough lk_RX5_69 rfl (q_cn hSH (S_St_stepThrough h5)) (by decide) (Nat.le_of_ble_eq_true rfl) ?_
      cases h
      exact x_iret hc dX5_stepDown_47 hr hM
    · have h := ite_f hb h
      refine x_bipush hc dX5_stepDown_14 kb_m6 ?_
      cases h
      exact x_iret hc dX5_stepDown_16 hr hM

def St_unlikeWithin_B11 (x2 : Int32) (M : QM) (v : Int32 × Int32) : Option ((Int32) ⊕ (Int32 × Int32)) :=
  (if x2 ≤ v.2 then some (.inl v.1) else Option.bind (St_isAlikeEarlier v.2 M) (fun q2 => (if q2 = 0 then some (.inr (v.1 + (1 : Int32), v.2 + (1 : Int32))) else some (.inr (v.1, v.2 + (1 : Int32))))))

set_option maxRecDepth 20000 in
set_option maxHeartbeats 2000000 in
theorem S_St_unlikeWithin_B11 {C : QC} (hc : OKX C RX5 cX5_unlikeWithin 5 5 (some .int)) (hSH : q_SH C = SHK) (x2 : Int32) (M : QM) (v : Int32 × Int32) {res : (Int32) ⊕ (Int32 × Int32)} (h : St_unlikeWithin_B11 x2 M v = some res) (ke : ∀ x : Int32, res = .inl x → WX C 5 35 [(3, .int x)] [] M) (kb : ∀ x : Int32 × Int32, res = .inr x → WX C 5 11 [(0, .ref 14), (2, .int x2), (3, .int x.1), (4, .int x.2)] [] M) : WX C 5 11 [(0, .ref 14), (2, .int x2), (3, .int v.1), (4, .int v.2)] [] M := by
  unfold St_unlikeWithin_B11 at h
  refine x_iload hc dX5_unlikeWithin_11 3 rfl ?_
  refine x_iload_n hc dX5_unlikeWithin_13 rfl 1 rfl ?_
  refine x_icmp_ge (tgt := 35) hc dX5_unlikeWithin_14 (by decide) (fun hb => ?_) (fun hb => ?_)
  · have h := ite_t hb h
    cases h
    exact x_sub (ke v.1 rfl) [2] rfl
  · have h := ite_f hb h
    refine x_aload_n hc dX5_unlikeWithin_17 rfl 0 rfl ?_
    refine x_iload hc dX5_unlikeWithin_18 3 rfl ?_
    obtain ⟨q2, h2, h⟩ := bd_some h
    refine x_callVi (As := [.int v.2]) (st := []) (o := 14) hc dX5_unlikeWithin_20 cv_X5_isAlikeEarlier lk_RX5_75 (q_s hSH sh_14) rfl rfl (q_cn hSH (S_St_isAlikeEarlier h2)) (by decide) (Nat.le_of_ble_eq_true rfl) ?_
    refine x_if_ne (tgt := 29) hc dX5_unlikeWithin_23 (by decide) (fun hb => ?_) (fun hb => ?_)
    · have h := ite_f hb h
      refine x_iinc (v := v.2 + (1 : Int32)) (L2 := [(4, .int (v.2 + (1 : Int32))), (0, .ref 14), (2, .int x2), (3, .int v.1)]) hc dX5_unlikeWithin_29 3 rfl (by rw [kc_1]) (by decide) rfl ?_
      refine x_goto (tgt := 11) hc dX5_unlikeWithin_32 (by decide) ?_
      cases h
      exact x_sub (kb (v.1, v.2 + (1 : Int32)) rfl) [1, 2, 3, 0] rfl
    · have h := ite_t hb h
      refine x_iinc (v := v.1 + (1 : Int32)) (L2 := [(3, .int (v.1 + (1 : Int32))), (0, .ref 14), (2, .int x2), (4, .int v.2)]) hc dX5_unlikeWithin_26 2 rfl (by rw [kc_1]) (by decide) rfl ?_
      refine x_iinc (v := v.2 + (1 : Int32)) (L2 := [(4, .int (v.2 + (1 : Int32))), (3, .int (v.1 + (1 : Int32))), (0, .ref 14), (2, .int x2)]) hc dX5_unlikeWithin_29 3 rfl (by rw [kc_1]) (by decide) rfl ?_
      refine x_goto (tgt := 11) hc dX5_unlikeWithin_32 (by decide) ?_
      cases h
      exact x_sub (kb (v.1 + (1 : Int32), v.2 + (1 : Int32)) rfl) [2, 3, 1, 0] rfl

theorem S_St_unlikeWithin_L11 {C : QC} (hc : OKX C RX5 cX5_unlikeWithin 5 5 (some .int)) (hSH : q_SH C = SHK) (x2 : Int32) (M : QM) {n : Nat} {v : Int32 × Int32} {e : Int32} (h : iter (St_unlikeWithin_B11 x2 M) n v = some e) (ke : ∀ x : Int32, e = x → WX C 5 35 [(3, .int x)] [] M) : WX C 5 11 [(0, .ref 14), (2, .int x2), (3, .int v.1), (4, .int v.2)] [] M :=
  iter_W (Wh := fun v => WX C 5 11 [(0, .ref 14), (2, .int x2), (3, .int v.1), (4, .int v.2)] [] M) (fun a res hB k1 k2 => S_St_unlikeWithin_B11 hc hSH x2 M a hB (fun x hx => ke x (k1 _ hx).symm) k2) n v h

def St_unlikeWithin (p1 : Int32) (M : QM) : Option (Int32 × QM) :=
  Option.bind (St_reachFrom p1 M) (fun q1 => Option.bind (iter (St_unlikeWithin_B11 q1.1 q1.2) FU ((0 : Int32), (0 : Int32))) (fun e3 => some (e3, q1.2)))

set_option maxRecDepth 20000 in
set_option maxHeartbeats 2000000 in
theorem S_St_unlikeWithin  {p1 : Int32} {M : QM} {res : Int32 × QM} (h : St_unlikeWithin p1 M = some res) : Cn yX5_unlikeWithin cX5_unlikeWithin 5 (some .int) 5 SHK [.ref 14, .int p1] M (some (.int res.1)) res.2 := by
  refine q_enter (L := [(0, .ref 14), (1, .int p1)]) (by decide) (Nat.le_of_ble_eq_true rfl) rfl ?_
  intro C hc hSH hr hM
  have hc : OKX C RX5 cX5_unlikeWithin 5 5 (some .int) := hc
  unfold St_unlikeWithin at h
  refine x_aload_n hc dX5_unlikeWithin_0 rfl 0 rfl ?_
  refine x_iload_n hc dX5_unlikeWithin_1 rfl 1 rfl ?_
  obtain ⟨q1, h1, h⟩ := bd_some h
  refine x_callVi (As := [.int p1]) (st := []) (o := 14) hc dX5_unlikeWithin_2 cv_X5_reachFrom lk_RX5_72 (q_s hSH sh_14) rfl rfl (q_cn hSH (S_St_reachFrom h1)) (by decide) (Nat.le_of_ble_eq_true rfl) ?_
  refine x_istore_n (L2 := [(2, .int q1.1), (0, .ref 14), (1, .int p1)]) hc dX5_unlikeWithin_5 rfl (by decide) rfl ?_
  refine x_iconst hc dX5_unlikeWithin_6 kc_0 ?_
  refine x_istore_n (L2 := [(3, .int (0 : Int32)), (2, .int q1.1), (0, .ref 14), (1, .int p1)]) hc dX5_unlikeWithin_7 rfl (by decide) rfl ?_
  refine x_iconst hc dX5_unlikeWithin_8 kc_0 ?_
  refine x_istore (L2 := [(4, .int (0 : Int32)), (3, .int (0 : Int32)), (2, .int q1.1), (0, .ref 14), (1, .int p1)]) hc dX5_unlikeWithin_9 (by decide) rfl ?_
  obtain ⟨e3, h3, h⟩ := bd_some h
  refine x_sub (S_St_unlikeWithin_L11 hc hSH q1.1 q1.2 (v := ((0 : Int32), (0 : Int32))) h3 (fun x hx => ?_)) [3, 2, 1, 0] rfl
  subst hx
  refine x_iload_n hc dX5_unlikeWithin_35 rfl 0 rfl ?_
  cases h
  exact x_iret hc dX5_unlikeWithin_36 hr hM

