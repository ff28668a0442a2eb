set_option maxRecDepth 20000 in
theorem ks_480 : (Int16.ofInt (480)).toInt32 = 480 := by decide
set_option maxRecDepth 20000 in
theorem ks_800 : (Int16.ofInt (800)).toInt32 = 800 := by decide
set_option maxRecDepth 20000 in
theorem ks_600 : (Int16.ofInt (600)).toInt32 = 600 := by decide
set_option maxRecDepth 20000 in
theorem kb_101 : (Int8.ofInt (101)).toInt32 = 101 := by decide
set_option maxRecDepth 20000 in
theorem ol_RX4_3 : Cond.methodLink RX4 3 objectInit ∈ lw_good := q_mem 99 rfl rfl
set_option maxRecDepth 20000 in
theorem oi_inst : Cond.instanceMethod objectInit ∈ lw_good := q_mem 92 rfl rfl
set_option maxRecDepth 20000 in
theorem oi_code : Cond.code objectInit ⟨#[0xb1]⟩ 1 none ∈ lw_good := q_mem 93 rfl rfl
set_option maxRecDepth 20000 in
theorem ac_int : Cond.arrayClass .int ∈ lw_good := q_mem 107 rfl rfl
set_option maxRecDepth 20000 in
theorem ff_4_0 (a : Nat) : FF RX4 4 0 (.ref a) := ⟨_, .array .int, rfl, rfl, rfl, by decide +kernel, rfl, rfl⟩
def rm_X4 : Room := { frames := 2, cells := 1, slots := 100, locals := 80 }
set_option maxRecDepth 100000 in
set_option maxHeartbeats 8000000 in
theorem I_X4 (w : QW) (h0  : Nat) : Ci yX4_init cX4_init 1 rm_X4 w [.ref h0] [(h0, .inr (4, [.null, .int 0]))] (fun u => ∃ (q1 : Nat), u = [(h0, .inr (4, [.ref q1, .int (0 : Int32)])), (q1, .inl (w.2.2.1, 100, .inl (fun _ => 0)))]) := by
  refine y_enter (L := [(0, .ref h0)]) (by decide) rfl (Nat.le_of_ble_eq_true rfl) rfl ?_
  intro C hc hw hin hv
  subst hw
  have hc : OKY C RX4 cX4_init 1 rm_X4 := hc
  refine y_aload_n hc dX4_init_0 rfl 0 rfl ?_
  refine y_objInit hc dX4_init_1 ol_RX4_3 oi_inst oi_code (by decide) (by decide) ?_
  refine y_aload_n hc dX4_init_4 rfl 0 rfl ?_
  refine y_bipush hc dX4_init_5 kb_100 ?_
  refine y_newI (N := 100) hc dX4_init_7 ac_int (by decide) (by decide) (by decide) (by decide) (by decide) (fun q1 => ?_)
  refine y_putF hc hin dX4_init_9 fl_RX4_9 (ff_4_0 _) 0 rfl (Nat.le_of_ble_eq_true rfl) ?_
  refine y_aload_n hc dX4_init_12 rfl 0 rfl ?_
  refine y_iconst hc dX4_init_13 kc_0 ?_
  refine y_putI hc dX4_init_14 fl_RX4_15 (fw_4_1 _) 0 rfl (Nat.le_of_ble_eq_true rfl) ?_
  exact hv _ _ _ _ _ dX4_init_17 ⟨q1, rfl⟩ rfl rfl

set_option maxRecDepth 20000 in
theorem ol_RX3_3 : Cond.methodLink RX3 3 objectInit ∈ lw_good := q_mem 113 rfl rfl
set_option maxRecDepth 20000 in
theorem ff_3_0 (v : Int32) : FF RX3 3 0 (.int v) := ⟨_, .int, rfl, rfl, rfl, by decide +kernel, rfl, rfl⟩
set_option maxRecDepth 20000 in
theorem ff_3_1 (a : Nat) : FF RX3 3 1 (.ref a) := ⟨_, .array .int, rfl, rfl, rfl, by decide +kernel, rfl, rfl⟩
set_option maxRecDepth 20000 in
theorem ff_3_2 (a : Nat) : FF RX3 3 2 (.ref a) := ⟨_, .array .int, rfl, rfl, rfl, by decide +kernel, rfl, rfl⟩
set_option maxRecDepth 20000 in
theorem ff_3_3 (a : Nat) : FF RX3 3 3 (.ref a) := ⟨_, .array .int, rfl, rfl, rfl, by decide +kernel, rfl, rfl⟩
set_option maxRecDepth 20000 in
theorem ff_3_4 (a : Nat) : FF RX3 3 4 (.ref a) := ⟨_, .array .int, rfl, rfl, rfl, by decide +kernel, rfl, rfl⟩
def rm_X3_60 : Room := { frames := 2, cells := 4, slots := 608, locals := 80 }
set_option maxRecDepth 100000 in
set_option maxHeartbeats 8000000 in
theorem I_X3_60 (w : QW) (h0  : Nat) : Ci yX3_init cX3_init 2 rm_X3_60 w [.ref h0, .int (60 : Int32)] [(h0, .inr (3, [.int 0, .null, .null, .null, .null, .int 0]))] (fun u => ∃ (q1 q2 q3 q4 : Nat), u = [(h0, .inr (3, [.int (60 : Int32), .ref q1, .ref q2, .ref q3, .ref q4, .int (0 : Int32)])), (q1, .inl (w.2.2.1, 60, .inl (fun _ => 0))), (q2, .inl (w.2.2.1, 60, .inl (fun _ => 0))), (q3, .inl (w.2.2.1, 480, .inl (fun _ => 0))), (q4, .inl (w.2.2.1, 8, .inl (fm1.1 0)))]) := by
  refine y_enter (L := [(0, .ref h0), (1, .int (60 : Int32))]) (by decide) rfl (Nat.le_of_ble_eq_true rfl) rfl ?_
  intro C hc hw hin hv
  subst hw
  have hc : OKY C RX3 cX3_init 2 rm_X3_60 := hc
  refine y_aload_n hc dX3_init_0 rfl 0 rfl ?_
  refine y_objInit hc dX3_init_1 ol_RX3_3 oi_inst oi_code (by decide) (by decide) ?_
  refine y_aload_n hc dX3_init_4 rfl 0 rfl ?_
  refine y_iload_n hc dX3_init_5 rfl 1 rfl ?_
  refine y_if_le (tgt := 13) hc dX3_init_6 (by decide) (fun hb => absurd hb (by decide)) (fun _ => ?_)
  refine y_iload_n hc dX3_init_9 rfl 1 rfl ?_
  refine y_goto (tgt := 14) hc dX3_init_10 (by decide) ?_
  refine y_putF hc hin dX3_init_14 fl_RX3_9 (ff_3_0 _) 0 rfl (Nat.le_of_ble_eq_true rfl) ?_
  refine y_aload_n hc dX3_init_17 rfl 0 rfl ?_
  refine y_aload_n hc dX3_init_18 rfl 0 rfl ?_
  refine y_get hc dX3_init_19 fl_RX3_9 0 rfl rfl ?_
  refine y_newI (N := 60) hc dX3_init_22 ac_int (by decide) (by decide) (by decide) (by decide) (by decide) (fun q1 => ?_)
  refine y_putF hc hin dX3_init_24 fl_RX3_15 (ff_3_1 _) 0 rfl (Nat.le_of_ble_eq_true rfl) ?_
  refine y_aload_n hc dX3_init_27 rfl 0 rfl ?_
  refine y_aload_n hc dX3_init_28 rfl 0 rfl ?_
  refine y_get hc dX3_init_29 fl_RX3_9 0 rfl rfl ?_
  refine y_newI (N := 60) hc dX3_init_32 ac_int (by decide) (by decide) (by decide) (by decide) (by decide) (fun q2 => ?_)
  refine y_putF hc hin dX3_init_34 fl_RX3_19 (ff_3_2 _) 0 rfl (Nat.le_of_ble_eq_true rfl) ?_
  refine y_aload_n hc dX3_init_37 rfl 0 rfl ?_
  refine y_aload_n hc dX3_init_38 rfl 0 rfl ?_
  refine y_get hc dX3_init_39 fl_RX3_9 0 rfl rfl ?_
  refine y_bipush hc dX3_init_42 kb_8 ?_
  refine y_imul hc dX3_init_44 ?_
  refine y_newI (N := 480) hc dX3_init_45 ac_int (by decide) (by decide) (by decide) (by decide) (by decide) (fun q3 => ?_)
  refine y_putF hc hin dX3_init_47 fl_RX3_22 (ff_3_3 _) 0 rfl (Nat.le_of_ble_eq_true rfl) ?_
  refine y_aload_n hc dX3_init_50 rfl 0 rfl ?_
  refine y_bipush hc dX3_init_51 kb_8 ?_
  refine y_newI (N := 8) hc dX3_init_53 ac_int (by decide) (by decide) (by decide) (by decide) (by decide) (fun q4 => ?_)
  refine y_putF hc hin dX3_init_55 fl_RX3_25 (ff_3_4 _) 0 rfl (Nat.le_of_ble_eq_true rfl) ?_
  refine y_aload_n hc dX3_init_58 rfl 0 rfl ?_
  refine y_get hc dX3_init_59 fl_RX3_25 0 rfl rfl ?_
  refine y_bipush hc dX3_init_62 kb_m6 ?_
  refine y_callS (As := [.ref 0, .int (-6 : Int32)]) (st := []) (wr := [(h0, .inr (3, [.int (60 : Int32), .ref q1, .ref q2, .ref q3, .ref q4, .int 0])), (q1, .inl ((d_w C).2.2.1, 60, .inl (fun _ => 0))), (q2, .inl ((d_w C).2.2.1, 60, .inl (fun _ => 0))), (q3, .inl ((d_w C).2.2.1, 480, .inl (fun _ => 0)))]) (SH := SHF) (M := fm0) (M1 := fm1) hc dX3_init_64 cs_J7_fill_53178 lk_RX3_28 (fun _ => q4) (q_injF _) rfl fm_ok [4] [0, 1, 2, 3] rfl rfl rfl (by decide) (by decide) (by decide) (by decide) (Nat.le_of_ble_eq_true rfl) ?_
  refine y_aload_n hc dX3_init_67 rfl 0 rfl ?_
  refine y_iconst hc dX3_init_68 kc_0 ?_
  refine y_putI hc dX3_init_69 fl_RX3_34 (fw_3_5 _) 0 rfl (Nat.le_of_ble_eq_true rfl) ?_
  exact hv _ _ _ _ _ dX3_init_72 ⟨q1, q2, q3, q4, rfl⟩ rfl rfl

def rm_X3_100 : Room := { frames := 2, cells := 4, slots := 1008, locals := 80 }
set_option maxRecDepth 100000 in
set_option maxHeartbeats 8000000 in
theorem I_X3_100 (w : QW) (h0  : Nat) : Ci yX3_init cX3_init 2 rm_X3_100 w [.ref h0, .int (100 : Int32)] [(h0, .inr (3, [.int 0, .null, .null, .null, .null, .int 0]))] (fun u => ∃ (q1 q2 q3 q4 : Nat), u = [(h0, .inr (3, [.int (100 : Int32), .ref q1, .ref q2, .ref q3, .ref q4, .int (0 : Int32)])), (q1, .inl (w.2.2.1, 100, .inl (fun _ => 0))), (q2, .inl (w.2.2.1, 100, .inl (fun _ => 0))), (q3, .inl (w.2.2.1, 800, .inl (fun _ => 0))), (q4, .inl (w.2.2.1, 8, .inl (fm1.1 0)))]) := by
  refine y_enter (L := [(0, .ref h0), (1, .int (100 : Int32))]) (by decide) rfl (Nat.le_of_ble_eq_true rfl) rfl ?_
  intro C hc hw hin hv
  subst hw
  have hc : OKY C RX3 cX3_init 2 rm_X3_100 := hc
  refine y_aload_n hc dX3_init_0 rfl 0 rfl ?_
  refine y_objInit hc dX3_init_1 ol_RX3_3 oi_inst oi_code (by decide) (by decide) ?_
  refine y_aload_n hc dX3_init_4 rfl 0 rfl ?_
  refine y_iload_n hc dX3_init_5 rfl 1 rfl ?_
  refine y_if_le (tgt := 13) hc dX3_init_6 (by decide) (fun hb => absurd hb (by decide)) (fun _ => ?_)
  refine y_iload_n hc dX3_init_9 rfl 1 rfl ?_
  refine y_goto (tgt := 14) hc dX3_init_10 (by decide) ?_
  refine y_putF hc hin dX3_init_14 fl_RX3_9 (ff_3_0 _) 0 rfl (Nat.le_of_ble_eq_true rfl) ?_
  refine y_aload_n hc dX3_init_17 rfl 0 rfl ?_
  refine y_aload_n hc dX3_init_18 rfl 0 rfl ?_
  refine y_get hc dX3_init_19 fl_RX3_9 0 rfl rfl ?_
  refine y_newI (N := 100) hc dX3_init_22 ac_int (by decide) (by decide) (by decide) (by decide) (by decide) (fun q1 => ?_)
  refine y_putF hc hin dX3_init_24 fl_RX3_15 (ff_3_1 _) 0 rfl (Nat.le_of_ble_eq_true rfl) ?_
  refine y_aload_n hc dX3_init_27 rfl 0 rfl ?_
  refine y_aload_n hc dX3_init_28 rfl 0 rfl ?_
  refine y_get hc dX3_init_29 fl_RX3_9 0 rfl rfl ?_
  refine y_newI (N := 100) hc dX3_init_32 ac_int (by decide) (by decide) (by decide) (by decide) (by decide) (fun q2 => ?_)
  refine y_putF hc hin dX3_init_34 fl_RX3_19 (ff_3_2 _) 0 rfl (Nat.le_of_ble_eq_true rfl) ?_
  refine y_aload_n hc dX3_init_37 rfl 0 rfl ?_
  refine y_aload_n hc dX3_init_38 rfl 0 rfl ?_
  refine y_get hc dX3_init_39 fl_RX3_9 0 rfl rfl ?_
  refine y_bipush hc dX3_init_42 kb_8 ?_
  refine y_imul hc dX3_init_44 ?_
  refine y_newI (N := 800) hc dX3_init_45 ac_int (by decide) (by decide) (by decide) (by decide) (by decide) (fun q3 => ?_)
  refine y_putF hc hin dX3_init_47 fl_RX3_22 (ff_3_3 _) 0 rfl (Nat.le_of_ble_eq_true rfl) ?_
  refine y_aload_n hc dX3_init_50 rfl 0 rfl ?_
  refine y_bipush hc dX3_init_51 kb_8 ?_
  refine y_newI (N := 8) hc dX3_init_53 ac_int (by decide) (by decide) (by decide) (by decide) (by decide) (fun q4 => ?_)
  refine y_putF hc hin dX3_init_55 fl_RX3_25 (ff_3_4 _) 0 rfl (Nat.le_of_ble_eq_true rfl) ?_
  refine y_aload_n hc dX3_init_58 rfl 0 rfl ?_
  refine y_get hc dX3_init_59 fl_RX3_25 0 rfl rfl ?_
  refine y_bipush hc dX3_init_62 kb_m6 ?_
  refine y_callS (As := [.ref 0, .int (-6 : Int32)]) (st := []) (wr := [(h0, .inr (3, [.int (100 : Int32), .ref q1, .ref q2, .ref q3, .ref q4, .int 0])), (q1, .inl ((d_w C).2.2.1, 100, .inl (fun _ => 0))), (q2, .inl ((d_w C).2.2.1, 100, .inl (fun _ => 0))), (q3, .inl ((d_w C).2.2.1, 800, .inl (fun _ => 0)))]) (SH := SHF) (M := fm0) (M1 := fm1) hc dX3_init_64 cs_J7_fill_53178 lk_RX3_28 (fun _ => q4) (q_injF _) rfl fm_ok [4] [0, 1, 2, 3] rfl rfl rfl (by decide) (by decide) (by decide) (by decide) (Nat.le_of_ble_eq_true rfl) ?_
  refine y_aload_n hc dX3_init_67 rfl 0 rfl ?_
  refine y_iconst hc dX3_init_68 kc_0 ?_
  refine y_putI hc dX3_init_69 fl_RX3_34 (fw_3_5 _) 0 rfl (Nat.le_of_ble_eq_true rfl) ?_
  exact hv _ _ _ _ _ dX3_init_72 ⟨q1, q2, q3, q4, rfl⟩ rfl rfl

set_option maxRecDepth 20000 in
theorem ol_RX6_3 : Cond.methodLink RX6 3 objectInit ∈ lw_good := q_mem 141 rfl rfl
set_option maxRecDepth 20000 in
theorem ff_6_0 (a : Nat) : FF RX6 6 0 (.ref a) := ⟨_, .object "KindNets$Pad", rfl, rfl, rfl, by decide +kernel, rfl, rfl⟩
set_option maxRecDepth 20000 in
theorem cl_RX6_15 : Cond.classLink RX6 15 RX3 ∈ lw_good := q_mem 142 rfl rfl
set_option maxRecDepth 20000 in
theorem it_3 : Cond.instantiable RX3 6 ∈ lw_good := q_mem 109 rfl rfl
set_option maxRecDepth 20000 in
theorem ii_3 : Cond.initialized RX3 ∈ lw_good := q_mem 75 rfl rfl
set_option maxRecDepth 20000 in
theorem df_3 : ∀ j, j < 6 → defaultValue (tyX3 j) = vp_V [.int 0, .null, .null, .null, .null, .int 0] j := by
  intro j hj
  match j, hj with
  | 0, _ => rfl
  | 1, _ => rfl
  | 2, _ => rfl
  | 3, _ => rfl
  | 4, _ => rfl
  | 5, _ => rfl
  | (z + 6), h => omega
set_option maxRecDepth 20000 in
theorem ic_X3 : Cond.code yX3_init cX3_init 2 none ∈ lw_good := q_mem 112 rfl rfl
set_option maxRecDepth 20000 in
theorem im_X3 : Cond.instanceMethod yX3_init ∈ lw_good := q_mem 111 rfl rfl
set_option maxRecDepth 20000 in
theorem lki_RX6_17 : Cond.methodLink RX6 17 yX3_init ∈ lw_good := q_mem 143 rfl rfl
set_option maxRecDepth 20000 in
theorem ff_6_1 (a : Nat) : FF RX6 6 1 (.ref a) := ⟨_, .object "KindNets$Net", rfl, rfl, rfl, by decide +kernel, rfl, rfl⟩
def rm_X6 : Room := { frames := 3, cells := 5, slots := 1014, locals := 120 }
set_option maxRecDepth 100000 in
set_option maxHeartbeats 8000000 in
theorem I_X6 (w : QW) (h0 a1 : Nat) : Ci yX6_init cX6_init 2 rm_X6 w [.ref h0, .ref a1] [(h0, .inr (6, [.null, .null, .int 0, .int 0]))] (fun u => ∃ (q1 q2 q3 q4 q5 : Nat), u = [(h0, .inr (6, [.ref a1, .ref q1, .int (0 : Int32), .int (0 : Int32)])), (q1, .inr (3, [.int (100 : Int32), .ref q2, .ref q3, .ref q4, .ref q5, .int (0 : Int32)])), (q2, .inl (w.2.2.1, 100, .inl (fun _ => 0))), (q3, .inl (w.2.2.1, 100, .inl (fun _ => 0))), (q4, .inl (w.2.2.1, 800, .inl (fun _ => 0))), (q5, .inl (w.2.2.1, 8, .inl (fm1.1 0)))]) := by
  refine y_enter (L := [(0, .ref h0), (1, .ref a1)]) (by decide) rfl (Nat.le_of_ble_eq_true rfl) rfl ?_
  intro C hc hw hin hv
  subst hw
  have hc : OKY C RX6 cX6_init 2 rm_X6 := hc
  refine y_aload_n hc dX6_init_0 rfl 0 rfl ?_
  refine y_objInit hc dX6_init_1 ol_RX6_3 oi_inst oi_code (by decide) (by decide) ?_
  refine y_aload_n hc dX6_init_4 rfl 0 rfl ?_
  refine y_aload_n hc dX6_init_5 rfl 1 rfl ?_
  refine y_putF hc hin dX6_init_6 fl_RX6_9 (ff_6_0 _) 0 rfl (Nat.le_of_ble_eq_true rfl) ?_
  refine y_aload_n hc dX6_init_9 rfl 0 rfl ?_
  refine y_new (ci := 3) (N := 6) (Cn := RX3) (T := TX3) (ty := tyX3) (fs := [.int 0, .null, .null, .null, .null, .int 0]) hc dX6_init_10 cl_RX6_15 it_3 ii_3 rfl tyX3_ok df_3 (by decide) (by decide) (fun q1 => ?_)
  refine y_dup hc dX6_init_13 rfl ?_
  refine y_bipush hc dX6_init_14 kb_100 ?_
  refine y_init (As := [.int (100 : Int32)]) (st := [.ref q1, .ref h0]) (wr := [(h0, .inr (6, [.ref a1, .null, .int 0, .int 0]))]) hc dX6_init_16 ic_X3 ii_3 im_X3 lki_RX6_17 rfl (by decide +kernel) rfl 1 [0] rfl rfl (by decide) (by decide) (I_X3_100 (d_w C) q1 ) (by decide) (by decide) (Nat.le_of_ble_eq_true rfl) (fun u hu => ?_)
  obtain ⟨q2, q3, q4, q5, rfl⟩ := hu
  refine y_putF hc hin dX6_init_19 fl_RX6_20 (ff_6_1 _) 0 rfl (Nat.le_of_ble_eq_true rfl) ?_
  refine y_aload_n hc dX6_init_22 rfl 0 rfl ?_
  refine y_iconst hc dX6_init_23 kc_0 ?_
  refine y_putI hc dX6_init_24 fl_RX6_24 (fw_6_2 _) 0 rfl (Nat.le_of_ble_eq_true rfl) ?_
  refine y_aload_n hc dX6_init_27 rfl 0 rfl ?_
  refine y_iconst hc dX6_init_28 kc_0 ?_
  refine y_putI hc dX6_init_29 fl_RX6_28 (fw_6_3 _ (Or.inl rfl)) 0 rfl (Nat.le_of_ble_eq_true rfl) ?_
  exact hv _ _ _ _ _ dX6_init_32 ⟨q1, q2, q3, q4, q5, rfl⟩ rfl rfl

set_option maxRecDepth 20000 in
theorem ol_RX5_3 : Cond.methodLink RX5 3 objectInit ∈ lw_good := q_mem 162 rfl rfl
set_option maxRecDepth 20000 in
theorem ff_5_0 (a : Nat) : FF RX5 5 0 (.ref a) := ⟨_, .object "KindNets$Net", rfl, rfl, rfl, by decide +kernel, rfl, rfl⟩
set_option maxRecDepth 20000 in
theorem ff_5_1 (a : Nat) : FF RX5 5 1 (.ref a) := ⟨_, .array .int, rfl, rfl, rfl, by decide +kernel, rfl, rfl⟩
set_option maxRecDepth 20000 in
theorem ff_5_2 (a : Nat) : FF RX5 5 2 (.ref a) := ⟨_, .array .int, rfl, rfl, rfl, by decide +kernel, rfl, rfl⟩
set_option maxRecDepth 20000 in
theorem ff_5_3 (a : Nat) : FF RX5 5 3 (.ref a) := ⟨_, .array .int, rfl, rfl, rfl, by decide +kernel, rfl, rfl⟩
def rm_X5 : Room := { frames := 2, cells := 3, slots := 3720, locals := 80 }
set_option maxRecDepth 100000 in
set_option maxHeartbeats 8000000 in
theorem I_X5 (w : QW) (h0 a1 : Nat) : Ci yX5_init cX5_init 2 rm_X5 w [.ref h0, .ref a1] [(h0, .inr (5, [.null, .null, .null, .null, .int 0, .int 0]))] (fun u => ∃ (q1 q2 q3 : Nat), u = [(h0, .inr (5, [.ref a1, .ref q1, .ref q2, .ref q3, .int (0 : Int32), .int (0 : Int32)])), (q1, .inl (w.2.2.1, 3600, .inl (fun _ => 0))), (q2, .inl (w.2.2.1, 60, .inl (fun _ => 0))), (q3, .inl (w.2.2.1, 60, .inl (fun _ => 0)))]) := by
  refine y_enter (L := [(0, .ref h0), (1, .ref a1)]) (by decide) rfl (Nat.le_of_ble_eq_true rfl) rfl ?_
  intro C hc hw hin hv
  subst hw
  have hc : OKY C RX5 cX5_init 2 rm_X5 := hc
  refine y_aload_n hc dX5_init_0 rfl 0 rfl ?_
  refine y_objInit hc dX5_init_1 ol_RX5_3 oi_inst oi_code (by decide) (by decide) ?_
  refine y_aload_n hc dX5_init_4 rfl 0 rfl ?_
  refine y_aload_n hc dX5_init_5 rfl 1 rfl ?_
  refine y_putF hc hin dX5_init_6 fl_RX5_9 (ff_5_0 _) 0 rfl (Nat.le_of_ble_eq_true rfl) ?_
  refine y_aload_n hc dX5_init_9 rfl 0 rfl ?_
  refine y_sipush hc dX5_init_10 ks_3600 ?_
  refine y_newI (N := 3600) hc dX5_init_13 ac_int (by decide) (by decide) (by decide) (by decide) (by decide) (fun q1 => ?_)
  refine y_putF hc hin dX5_init_15 fl_RX5_15 (ff_5_1 _) 0 rfl (Nat.le_of_ble_eq_true rfl) ?_
  refine y_aload_n hc dX5_init_18 rfl 0 rfl ?_
  refine y_bipush hc dX5_init_19 kb_60 ?_
  refine y_newI (N := 60) hc dX5_init_21 ac_int (by decide) (by decide) (by decide) (by decide) (by decide) (fun q2 => ?_)
  refine y_putF hc hin dX5_init_23 fl_RX5_19 (ff_5_2 _) 0 rfl (Nat.le_of_ble_eq_true rfl) ?_
  refine y_aload_n hc dX5_init_26 rfl 0 rfl ?_
  refine y_bipush hc dX5_init_27 kb_60 ?_
  refine y_newI (N := 60) hc dX5_init_29 ac_int (by decide) (by decide) (by decide) (by decide) (by decide) (fun q3 => ?_)
  refine y_putF hc hin dX5_init_31 fl_RX5_22 (ff_5_3 _) 0 rfl (Nat.le_of_ble_eq_true rfl) ?_
  refine y_aload_n hc dX5_init_34 rfl 0 rfl ?_
  refine y_iconst hc dX5_init_35 kc_0 ?_
  refine y_putI hc dX5_init_36 fl_RX5_25 (fw_5_4 _) 0 rfl (Nat.le_of_ble_eq_true rfl) ?_
  refine y_aload_n hc dX5_init_39 rfl 0 rfl ?_
  refine y_iconst hc dX5_init_40 kc_0 ?_
  refine y_putI hc dX5_init_41 fl_RX5_29 (fw_5_5 _) 0 rfl (Nat.le_of_ble_eq_true rfl) ?_
  exact hv _ _ _ _ _ dX5_init_44 ⟨q1, q2, q3, rfl⟩ rfl rfl

set_option maxRecDepth 20000 in
theorem ol_RX1_3 : Cond.methodLink RX1 3 objectInit ∈ lw_good := q_mem 187 rfl rfl
set_option maxRecDepth 20000 in
theorem ff_1_0 (a : Nat) : FF RX1 1 0 (.ref a) := ⟨_, .object "KindNets$Net", rfl, rfl, rfl, by decide +kernel, rfl, rfl⟩
set_option maxRecDepth 20000 in
theorem ff_1_1 (a : Nat) : FF RX1 1 1 (.ref a) := ⟨_, .object "KindNets$Standing", rfl, rfl, rfl, by decide +kernel, rfl, rfl⟩
set_option maxRecDepth 20000 in
theorem ff_1_2 (a : Nat) : FF RX1 1 2 (.ref a) := ⟨_, .array .int, rfl, rfl, rfl, by decide +kernel, rfl, rfl⟩
set_option maxRecDepth 20000 in
theorem ff_1_3 (a : Nat) : FF RX1 1 3 (.ref a) := ⟨_, .array .int, rfl, rfl, rfl, by decide +kernel, rfl, rfl⟩
set_option maxRecDepth 20000 in
theorem ff_1_4 (a : Nat) : FF RX1 1 4 (.ref a) := ⟨_, .array .int, rfl, rfl, rfl, by decide +kernel, rfl, rfl⟩
set_option maxRecDepth 20000 in
theorem ff_1_5 (a : Nat) : FF RX1 1 5 (.ref a) := ⟨_, .array .int, rfl, rfl, rfl, by decide +kernel, rfl, rfl⟩
set_option maxRecDepth 20000 in
theorem ff_1_6 (a : Nat) : FF RX1 1 6 (.ref a) := ⟨_, .array .int, rfl, rfl, rfl, by decide +kernel, rfl, rfl⟩
def rm_X1 : Room := { frames := 2, cells := 5, slots := 300, locals := 80 }
set_option maxRecDepth 100000 in
set_option maxHeartbeats 8000000 in
theorem I_X1 (w : QW) (h0 a1 a2 : Nat) : Ci yX1_init cX1_init 3 rm_X1 w [.ref h0, .ref a1, .ref a2] [(h0, .inr (1, [.null, .null, .null, .null, .null, .null, .null, .int 0, .int 0, .int 0]))] (fun u => ∃ (q1 q2 q3 q4 q5 : Nat), u = [(h0, .inr (1, [.ref a1, .ref a2, .ref q1, .ref q2, .ref q3, .ref q4, .ref q5, .int (0 : Int32), .int (0 : Int32), .int (0 : Int32)])), (q1, .inl (w.2.2.1, 60, .inl (fun _ => 0))), (q2, .inl (w.2.2.1, 60, .inl (fun _ => 0))), (q3, .inl (w.2.2.1, 60, .inl (fun _ => 0))), (q4, .inl (w.2.2.1, 60, .inl (fun _ => 0))), (q5, .inl (w.2.2.1, 60, .inl (fun _ => 0)))]) := by
  refine y_enter (L := [(0, .ref h0), (1, .ref a1), (2, .ref a2)]) (by decide) rfl (Nat.le_of_ble_eq_true rfl) rfl ?_
  intro C hc hw hin hv
  subst hw
  have hc : OKY C RX1 cX1_init 3 rm_X1 := hc
  refine y_aload_n hc dX1_init_0 rfl 0 rfl ?_
  refine y_objInit hc dX1_init_1 ol_RX1_3 oi_inst oi_code (by decide) (by decide) ?_
  refine y_aload_n hc dX1_init_4 rfl 0 rfl ?_
  refine y_aload_n hc dX1_init_5 rfl 1 rfl ?_
  refine y_putF hc hin dX1_init_6 fl_RX1_9 (ff_1_0 _) 0 rfl (Nat.le_of_ble_eq_true rfl) ?_
  refine y_aload_n hc dX1_init_9 rfl 0 rfl ?_
  refine y_aload_n hc dX1_init_10 rfl 2 rfl ?_
  refine y_putF hc hin dX1_init_11 fl_RX1_15 (ff_1_1 _) 0 rfl (Nat.le_of_ble_eq_true rfl) ?_
  refine y_aload_n hc dX1_init_14 rfl 0 rfl ?_
  refine y_bipush hc dX1_init_15 kb_60 ?_
  refine y_newI (N := 60) hc dX1_init_17 ac_int (by decide) (by decide) (by decide) (by decide) (by decide) (fun q1 => ?_)
  refine y_putF hc hin dX1_init_19 fl_RX1_19 (ff_1_2 _) 0 rfl (Nat.le_of_ble_eq_true rfl) ?_
  refine y_aload_n hc dX1_init_22 rfl 0 rfl ?_
  refine y_bipush hc dX1_init_23 kb_60 ?_
  refine y_newI (N := 60) hc dX1_init_25 ac_int (by decide) (by decide) (by decide) (by decide) (by decide) (fun q2 => ?_)
  refine y_putF hc hin dX1_init_27 fl_RX1_23 (ff_1_3 _) 0 rfl (Nat.le_of_ble_eq_true rfl) ?_
  refine y_aload_n hc dX1_init_30 rfl 0 rfl ?_
  refine y_bipush hc dX1_init_31 kb_60 ?_
  refine y_newI (N := 60) hc dX1_init_33 ac_int (by decide) (by decide) (by decide) (by decide) (by decide) (fun q3 => ?_)
  refine y_putF hc hin dX1_init_35 fl_RX1_26 (ff_1_4 _) 0 rfl (Nat.le_of_ble_eq_true rfl) ?_
  refine y_aload_n hc dX1_init_38 rfl 0 rfl ?_
  refine y_bipush hc dX1_init_39 kb_60 ?_
  refine y_newI (N := 60) hc dX1_init_41 ac_int (by decide) (by decide) (by decide) (by decide) (by decide) (fun q4 => ?_)
  refine y_putF hc hin dX1_init_43 fl_RX1_29 (ff_1_5 _) 0 rfl (Nat.le_of_ble_eq_true rfl) ?_
  refine y_aload_n hc dX1_init_46 rfl 0 rfl ?_
  refine y_bipush hc dX1_init_47 kb_60 ?_
  refine y_newI (N := 60) hc dX1_init_49 ac_int (by decide) (by decide) (by decide) (by decide) (by decide) (fun q5 => ?_)
  refine y_putF hc hin dX1_init_51 fl_RX1_32 (ff_1_6 _) 0 rfl (Nat.le_of_ble_eq_true rfl) ?_
  refine y_aload_n hc dX1_init_54 rfl 0 rfl ?_
  refine y_iconst hc dX1_init_55 kc_0 ?_
  refine y_putI hc dX1_init_56 fl_RX1_35 (fw_1_7 _) 0 rfl (Nat.le_of_ble_eq_true rfl) ?_
  refine y_aload_n hc dX1_init_59 rfl 0 rfl ?_
  refine y_iconst hc dX1_init_60 kc_0 ?_
  refine y_putI hc dX1_init_61 fl_RX1_39 (fw_1_8 _) 0 rfl (Nat.le_of_ble_eq_true rfl) ?_
  refine y_aload_n hc dX1_init_64 rfl 0 rfl ?_
  refine y_iconst hc dX1_init_65 kc_0 ?_
  refine y_putI hc dX1_init_66 fl_RX1_42 (fw_1_9 _ (Or.inl rfl)) 0 rfl (Nat.le_of_ble_eq_true rfl) ?_
  exact hv _ _ _ _ _ dX1_init_69 ⟨q1, q2, q3, q4, q5, rfl⟩ rfl rfl

set_option maxRecDepth 20000 in
theorem ol_RX7_3 : Cond.methodLink RX7 3 objectInit ∈ lw_good := q_mem 224 rfl rfl
set_option maxRecDepth 20000 in
theorem ff_7_0 (a : Nat) : FF RX7 7 0 (.ref a) := ⟨_, .object "KindNets$Pad", rfl, rfl, rfl, by decide +kernel, rfl, rfl⟩
set_option maxRecDepth 20000 in
theorem ff_7_1 (a : Nat) : FF RX7 7 1 (.ref a) := ⟨_, .object "KindNets$Net", rfl, rfl, rfl, by decide +kernel, rfl, rfl⟩
set_option maxRecDepth 20000 in
theorem ff_7_2 (a : Nat) : FF RX7 7 2 (.ref a) := ⟨_, .array .int, rfl, rfl, rfl, by decide +kernel, rfl, rfl⟩
set_option maxRecDepth 20000 in
theorem ff_7_3 (a : Nat) : FF RX7 7 3 (.ref a) := ⟨_, .array .int, rfl, rfl, rfl, by decide +kernel, rfl, rfl⟩
set_option maxRecDepth 20000 in
theorem ff_7_4 (a : Nat) : FF RX7 7 4 (.ref a) := ⟨_, .array .int, rfl, rfl, rfl, by decide +kernel, rfl, rfl⟩
def rm_X7 : Room := { frames := 2, cells := 3, slots := 300, locals := 80 }
set_option maxRecDepth 100000 in
set_option maxHeartbeats 8000000 in
theorem I_X7 (w : QW) (h0 a1 a2 : Nat) : Ci yX7_init cX7_init 3 rm_X7 w [.ref h0, .ref a1, .ref a2] [(h0, .inr (7, [.null, .null, .null, .null, .null, .int 0, .int 0, .int 0, .int 0, .int 0]))] (fun u => ∃ (q1 q2 q3 : Nat), u = [(h0, .inr (7, [.ref a1, .ref a2, .ref q1, .ref q2, .ref q3, .int (0 : Int32), .int (0 : Int32), .int (-7 : Int32), .int (0 : Int32), .int (-6 : Int32)])), (q1, .inl (w.2.2.1, 100, .inl (fun _ => 0))), (q2, .inl (w.2.2.1, 100, .inl (fun _ => 0))), (q3, .inl (w.2.2.1, 100, .inl (fun _ => 0)))]) := by
  refine y_enter (L := [(0, .ref h0), (1, .ref a1), (2, .ref a2)]) (by decide) rfl (Nat.le_of_ble_eq_true rfl) rfl ?_
  intro C hc hw hin hv
  subst hw
  have hc : OKY C RX7 cX7_init 3 rm_X7 := hc
  refine y_aload_n hc dX7_init_0 rfl 0 rfl ?_
  refine y_objInit hc dX7_init_1 ol_RX7_3 oi_inst oi_code (by decide) (by decide) ?_
  refine y_aload_n hc dX7_init_4 rfl 0 rfl ?_
  refine y_aload_n hc dX7_init_5 rfl 1 rfl ?_
  refine y_putF hc hin dX7_init_6 fl_RX7_9 (ff_7_0 _) 0 rfl (Nat.le_of_ble_eq_true rfl) ?_
  refine y_aload_n hc dX7_init_9 rfl 0 rfl ?_
  refine y_aload_n hc dX7_init_10 rfl 2 rfl ?_
  refine y_putF hc hin dX7_init_11 fl_RX7_15 (ff_7_1 _) 0 rfl (Nat.le_of_ble_eq_true rfl) ?_
  refine y_aload_n hc dX7_init_14 rfl 0 rfl ?_
  refine y_bipush hc dX7_init_15 kb_100 ?_
  refine y_newI (N := 100) hc dX7_init_17 ac_int (by decide) (by decide) (by decide) (by decide) (by decide) (fun q1 => ?_)
  refine y_putF hc hin dX7_init_19 fl_RX7_19 (ff_7_2 _) 0 rfl (Nat.le_of_ble_eq_true rfl) ?_
  refine y_aload_n hc dX7_init_22 rfl 0 rfl ?_
  refine y_bipush hc dX7_init_23 kb_100 ?_
  refine y_newI (N := 100) hc dX7_init_25 ac_int (by decide) (by decide) (by decide) (by decide) (by decide) (fun q2 => ?_)
  refine y_putF hc hin dX7_init_27 fl_RX7_23 (ff_7_3 _) 0 rfl (Nat.le_of_ble_eq_true rfl) ?_
  refine y_aload_n hc dX7_init_30 rfl 0 rfl ?_
  refine y_bipush hc dX7_init_31 kb_100 ?_
  refine y_newI (N := 100) hc dX7_init_33 ac_int (by decide) (by decide) (by decide) (by decide) (by decide) (fun q3 => ?_)
  refine y_putF hc hin dX7_init_35 fl_RX7_26 (ff_7_4 _) 0 rfl (Nat.le_of_ble_eq_true rfl) ?_
  refine y_aload_n hc dX7_init_38 rfl 0 rfl ?_
  refine y_iconst hc dX7_init_39 kc_0 ?_
  refine y_putI hc dX7_init_40 fl_RX7_29 (fw_7_5 _) 0 rfl (Nat.le_of_ble_eq_true rfl) ?_
  refine y_aload_n hc dX7_init_43 rfl 0 rfl ?_
  refine y_iconst hc dX7_init_44 kc_0 ?_
  refine y_putI hc dX7_init_45 fl_RX7_33 (fw_7_6 _) 0 rfl (Nat.le_of_ble_eq_true rfl) ?_
  refine y_aload_n hc dX7_init_48 rfl 0 rfl ?_
  refine y_bipush hc dX7_init_49 kb_m7 ?_
  refine y_putI hc dX7_init_51 fl_RX7_36 (fw_7_7 _) 0 rfl (Nat.le_of_ble_eq_true rfl) ?_
  refine y_aload_n hc dX7_init_54 rfl 0 rfl ?_
  refine y_iconst hc dX7_init_55 kc_0 ?_
  refine y_putI hc dX7_init_56 fl_RX7_39 (fw_7_8 _) 0 rfl (Nat.le_of_ble_eq_true rfl) ?_
  refine y_aload_n hc dX7_init_59 rfl 0 rfl ?_
  refine y_bipush hc dX7_init_60 kb_m6 ?_
  refine y_putI hc dX7_init_62 fl_RX7_42 (fw_7_9 _) 0 rfl (Nat.le_of_ble_eq_true rfl) ?_
  exact hv _ _ _ _ _ dX7_init_65 ⟨q1, q2, q3, rfl⟩ rfl rfl

set_option maxRecDepth 20000 in
theorem ol_RX0_3 : Cond.methodLink RX0 3 objectInit ∈ lw_good := q_mem 261 rfl rfl
set_option maxRecDepth 20000 in
theorem ff_0_0 (a : Nat) : FF RX0 0 0 (.ref a) := ⟨_, .object "KindNets$Net", rfl, rfl, rfl, by decide +kernel, rfl, rfl⟩
set_option maxRecDepth 20000 in
theorem ac_long : Cond.arrayClass .long ∈ lw_good := q_mem 275 rfl rfl
set_option maxRecDepth 20000 in
theorem ff_0_1 (a : Nat) : FF RX0 0 1 (.ref a) := ⟨_, .array .long, rfl, rfl, rfl, by decide +kernel, rfl, rfl⟩
set_option maxRecDepth 20000 in
theorem ff_0_2 (a : Nat) : FF RX0 0 2 (.ref a) := ⟨_, .array .long, rfl, rfl, rfl, by decide +kernel, rfl, rfl⟩
def rm_X0 : Room := { frames := 2, cells := 2, slots := 793, locals := 80 }
set_option maxRecDepth 100000 in
set_option maxHeartbeats 8000000 in
theorem I_X0 (w : QW) (h0 a1 : Nat) : Ci yX0_init cX0_init 2 rm_X0 w [.ref h0, .ref a1] [(h0, .inr (0, [.null, .null, .null, .int 0]))] (fun u => ∃ (q1 q2 : Nat), u = [(h0, .inr (0, [.ref a1, .ref q1, .ref q2, .int (0 : Int32)])), (q1, .inl (w.2.2.2.1, 780, .inr (.inl (fun _ => 0)))), (q2, .inl (w.2.2.2.1, 13, .inr (.inl (fun _ => 0))))]) := by
  refine y_enter (L := [(0, .ref h0), (1, .ref a1)]) (by decide) rfl (Nat.le_of_ble_eq_true rfl) rfl ?_
  intro C hc hw hin hv
  subst hw
  have hc : OKY C RX0 cX0_init 2 rm_X0 := hc
  refine y_aload_n hc dX0_init_0 rfl 0 rfl ?_
  refine y_objInit hc dX0_init_1 ol_RX0_3 oi_inst oi_code (by decide) (by decide) ?_
  refine y_aload_n hc dX0_init_4 rfl 0 rfl ?_
  refine y_aload_n hc dX0_init_5 rfl 1 rfl ?_
  refine y_putF hc hin dX0_init_6 fl_RX0_9 (ff_0_0 _) 0 rfl (Nat.le_of_ble_eq_true rfl) ?_
  refine y_aload_n hc dX0_init_9 rfl 0 rfl ?_
  refine y_sipush hc dX0_init_10 ks_780 ?_
  refine y_newJ (N := 780) hc dX0_init_13 ac_long (by decide) (by decide) (by decide) (by decide) (by decide) (fun q1 => ?_)
  refine y_putF hc hin dX0_init_15 fl_RX0_15 (ff_0_1 _) 0 rfl (Nat.le_of_ble_eq_true rfl) ?_
  refine y_aload_n hc dX0_init_18 rfl 0 rfl ?_
  refine y_bipush hc dX0_init_19 kb_13 ?_
  refine y_newJ (N := 13) hc dX0_init_21 ac_long (by decide) (by decide) (by decide) (by decide) (by decide) (fun q2 => ?_)
  refine y_putF hc hin dX0_init_23 fl_RX0_19 (ff_0_2 _) 0 rfl (Nat.le_of_ble_eq_true rfl) ?_
  refine y_aload_n hc dX0_init_26 rfl 0 rfl ?_
  refine y_iconst hc dX0_init_27 kc_0 ?_
  refine y_putI hc dX0_init_28 fl_RX0_22 (fw_0_3 _) 0 rfl (Nat.le_of_ble_eq_true rfl) ?_
  exact hv _ _ _ _ _ dX0_init_31 ⟨q1, q2, rfl⟩ rfl rfl

set_option maxRecDepth 20000 in
theorem ol_RX2_5 : Cond.methodLink RX2 5 objectInit ∈ lw_good := q_mem 281 rfl rfl
set_option maxRecDepth 20000 in
theorem ff_2_0 (a : Nat) : FF RX2 2 0 (.ref a) := ⟨_, .object "KindNets$Net", rfl, rfl, rfl, by decide +kernel, rfl, rfl⟩
set_option maxRecDepth 20000 in
theorem ff_2_1 (a : Nat) : FF RX2 2 1 (.ref a) := ⟨_, .array .int, rfl, rfl, rfl, by decide +kernel, rfl, rfl⟩
def rm_X2 : Room := { frames := 2, cells := 1, slots := 60, locals := 80 }
set_option maxRecDepth 100000 in
set_option maxHeartbeats 8000000 in
theorem I_X2 (w : QW) (h0 a1 : Nat) : Ci yX2_init cX2_init 2 rm_X2 w [.ref h0, .ref a1] [(h0, .inr (2, [.null, .null, .int 0]))] (fun u => ∃ (q1 : Nat), u = [(h0, .inr (2, [.ref a1, .ref q1, .int (0 : Int32)])), (q1, .inl (w.2.2.1, 60, .inl (fun _ => 0)))]) := by
  refine y_enter (L := [(0, .ref h0), (1, .ref a1)]) (by decide) rfl (Nat.le_of_ble_eq_true rfl) rfl ?_
  intro C hc hw hin hv
  subst hw
  have hc : OKY C RX2 cX2_init 2 rm_X2 := hc
  refine y_aload_n hc dX2_init_0 rfl 0 rfl ?_
  refine y_objInit hc dX2_init_1 ol_RX2_5 oi_inst oi_code (by decide) (by decide) ?_
  refine y_aload_n hc dX2_init_4 rfl 0 rfl ?_
  refine y_aload_n hc dX2_init_5 rfl 1 rfl ?_
  refine y_putF hc hin dX2_init_6 fl_RX2_11 (ff_2_0 _) 0 rfl (Nat.le_of_ble_eq_true rfl) ?_
  refine y_aload_n hc dX2_init_9 rfl 0 rfl ?_
  refine y_bipush hc dX2_init_10 kb_60 ?_
  refine y_newI (N := 60) hc dX2_init_12 ac_int (by decide) (by decide) (by decide) (by decide) (by decide) (fun q1 => ?_)
  refine y_putF hc hin dX2_init_14 fl_RX2_15 (ff_2_1 _) 0 rfl (Nat.le_of_ble_eq_true rfl) ?_
  refine y_aload_n hc dX2_init_17 rfl 0 rfl ?_
  refine y_iconst hc dX2_init_18 kc_0 ?_
  refine y_putI hc dX2_init_19 fl_RX2_19 (fw_2_2 _) 0 rfl (Nat.le_of_ble_eq_true rfl) ?_
  exact hv _ _ _ _ _ dX2_init_22 ⟨q1, rfl⟩ rfl rfl

set_option maxRecDepth 20000 in
theorem ol_RX8_1 : Cond.methodLink RX8 1 objectInit ∈ lw_good := q_mem 91 rfl rfl
set_option maxRecDepth 20000 in
theorem cl_RX8_7 : Cond.classLink RX8 7 RX4 ∈ lw_good := q_mem 94 rfl rfl
set_option maxRecDepth 20000 in
theorem it_4 : Cond.instantiable RX4 2 ∈ lw_good := q_mem 95 rfl rfl
set_option maxRecDepth 20000 in
theorem ii_4 : Cond.initialized RX4 ∈ lw_good := q_mem 74 rfl rfl
set_option maxRecDepth 20000 in
theorem df_4 : ∀ j, j < 2 → defaultValue (tyX4 j) = vp_V [.null, .int 0] j := by
  intro j hj
  match j, hj with
  | 0, _ => rfl
  | 1, _ => rfl
  | (z + 2), h => omega
set_option maxRecDepth 20000 in
theorem ic_X4 : Cond.code yX4_init cX4_init 1 none ∈ lw_good := q_mem 98 rfl rfl
set_option maxRecDepth 20000 in
theorem im_X4 : Cond.instanceMethod yX4_init ∈ lw_good := q_mem 97 rfl rfl
set_option maxRecDepth 20000 in
theorem lki_RX8_9 : Cond.methodLink RX8 9 yX4_init ∈ lw_good := q_mem 96 rfl rfl
set_option maxRecDepth 20000 in
theorem ff_8_0 (a : Nat) : FF RX8 8 0 (.ref a) := ⟨_, .object "KindNets$Pad", rfl, rfl, rfl, by decide +kernel, rfl, rfl⟩
set_option maxRecDepth 20000 in
theorem cl_RX8_16 : Cond.classLink RX8 16 RX3 ∈ lw_good := q_mem 108 rfl rfl
set_option maxRecDepth 20000 in
theorem lki_RX8_18 : Cond.methodLink RX8 18 yX3_init ∈ lw_good := q_mem 110 rfl rfl
set_option maxRecDepth 20000 in
theorem ff_8_1 (a : Nat) : FF RX8 8 1 (.ref a) := ⟨_, .object "KindNets$Net", rfl, rfl, rfl, by decide +kernel, rfl, rfl⟩
set_option maxRecDepth 20000 in
theorem cl_RX8_25 : Cond.classLink RX8 25 RX6 ∈ lw_good := q_mem 136 rfl rfl
set_option maxRecDepth 20000 in
theorem it_6 : Cond.instantiable RX6 4 ∈ lw_good := q_mem 137 rfl rfl
set_option maxRecDepth 20000 in
theorem ii_6 : Cond.initialized RX6 ∈ lw_good := q_mem 77 rfl rfl
set_option maxRecDepth 20000 in
theorem df_6 : ∀ j, j < 4 → defaultValue (tyX6 j) = vp_V [.null, .null, .int 0, .int 0] j := by
  intro j hj
  match j, hj with
  | 0, _ => rfl
  | 1, _ => rfl
  | 2, _ => rfl
  | 3, _ => rfl
  | (z + 4), h => omega
set_option maxRecDepth 20000 in
theorem ic_X6 : Cond.code yX6_init cX6_init 2 none ∈ lw_good := q_mem 140 rfl rfl
set_option maxRecDepth 20000 in
theorem im_X6 : Cond.instanceMethod yX6_init ∈ lw_good := q_mem 139 rfl rfl
set_option maxRecDepth 20000 in
theorem lki_RX8_27 : Cond.methodLink RX8 27 yX6_init ∈ lw_good := q_mem 138 rfl rfl
set_option maxRecDepth 20000 in
theorem ff_8_2 (a : Nat) : FF RX8 8 2 (.ref a) := ⟨_, .object "KindNets$TextReader", rfl, rfl, rfl, by decide +kernel, rfl, rfl⟩
set_option maxRecDepth 20000 in
theorem cl_RX8_34 : Cond.classLink RX8 34 RX5 ∈ lw_good := q_mem 157 rfl rfl
set_option maxRecDepth 20000 in
theorem it_5 : Cond.instantiable RX5 6 ∈ lw_good := q_mem 158 rfl rfl
set_option maxRecDepth 20000 in
theorem ii_5 : Cond.initialized RX5 ∈ lw_good := q_mem 78 rfl rfl
set_option maxRecDepth 20000 in
theorem df_5 : ∀ j, j < 6 → defaultValue (tyX5 j) = vp_V [.null, .null, .null, .null, .int 0, .int 0] j := by
  intro j hj
  match j, hj with
  | 0, _ => rfl
  | 1, _ => rfl
  | 2, _ => rfl
  | 3, _ => rfl
  | 4, _ => rfl
  | 5, _ => rfl
  | (z + 6), h => omega
set_option maxRecDepth 20000 in
theorem ic_X5 : Cond.code yX5_init cX5_init 2 none ∈ lw_good := q_mem 161 rfl rfl
set_option maxRecDepth 20000 in
theorem im_X5 : Cond.instanceMethod yX5_init ∈ lw_good := q_mem 160 rfl rfl
set_option maxRecDepth 20000 in
theorem lki_RX8_36 : Cond.methodLink RX8 36 yX5_init ∈ lw_good := q_mem 159 rfl rfl
set_option maxRecDepth 20000 in
theorem ff_8_3 (a : Nat) : FF RX8 8 3 (.ref a) := ⟨_, .object "KindNets$Standing", rfl, rfl, rfl, by decide +kernel, rfl, rfl⟩
set_option maxRecDepth 20000 in
theorem cl_RX8_43 : Cond.classLink RX8 43 RX1 ∈ lw_good := q_mem 182 rfl rfl
set_option maxRecDepth 20000 in
theorem it_1 : Cond.instantiable RX1 10 ∈ lw_good := q_mem 183 rfl rfl
set_option maxRecDepth 20000 in
theorem ii_1 : Cond.initialized RX1 ∈ lw_good := q_mem 79 rfl rfl
set_option maxRecDepth 20000 in
theorem df_1 : ∀ j, j < 10 → defaultValue (tyX1 j) = vp_V [.null, .null, .null, .null, .null, .null, .null, .int 0, .int 0, .int 0] j := by
  intro j hj
  match j, hj with
  | 0, _ => rfl
  | 1, _ => rfl
  | 2, _ => rfl
  | 3, _ => rfl
  | 4, _ => rfl
  | 5, _ => rfl
  | 6, _ => rfl
  | 7, _ => rfl
  | 8, _ => rfl
  | 9, _ => rfl
  | (z + 10), h => omega
set_option maxRecDepth 20000 in
theorem ic_X1 : Cond.code yX1_init cX1_init 3 none ∈ lw_good := q_mem 186 rfl rfl
set_option maxRecDepth 20000 in
theorem im_X1 : Cond.instanceMethod yX1_init ∈ lw_good := q_mem 185 rfl rfl
set_option maxRecDepth 20000 in
theorem lki_RX8_45 : Cond.methodLink RX8 45 yX1_init ∈ lw_good := q_mem 184 rfl rfl
set_option maxRecDepth 20000 in
theorem ff_8_4 (a : Nat) : FF RX8 8 4 (.ref a) := ⟨_, .object "KindNets$Joiner", rfl, rfl, rfl, by decide +kernel, rfl, rfl⟩
set_option maxRecDepth 20000 in
theorem cl_RX8_52 : Cond.classLink RX8 52 RX7 ∈ lw_good := q_mem 219 rfl rfl
set_option maxRecDepth 20000 in
theorem it_7 : Cond.instantiable RX7 10 ∈ lw_good := q_mem 220 rfl rfl
set_option maxRecDepth 20000 in
theorem ii_7 : Cond.initialized RX7 ∈ lw_good := q_mem 80 rfl rfl
set_option maxRecDepth 20000 in
theorem df_7 : ∀ j, j < 10 → defaultValue (tyX7 j) = vp_V [.null, .null, .null, .null, .null, .int 0, .int 0, .int 0, .int 0, .int 0] j := by
  intro j hj
  match j, hj with
  | 0, _ => rfl
  | 1, _ => rfl
  | 2, _ => rfl
  | 3, _ => rfl
  | 4, _ => rfl
  | 5, _ => rfl
  | 6, _ => rfl
  | 7, _ => rfl
  | 8, _ => rfl
  | 9, _ => rfl
  | (z + 10), h => omega
set_option maxRecDepth 20000 in
theorem ic_X7 : Cond.code yX7_init cX7_init 3 none ∈ lw_good := q_mem 223 rfl rfl
set_option maxRecDepth 20000 in
theorem im_X7 : Cond.instanceMethod yX7_init ∈ lw_good := q_mem 222 rfl rfl
set_option maxRecDepth 20000 in
theorem lki_RX8_54 : Cond.methodLink RX8 54 yX7_init ∈ lw_good := q_mem 221 rfl rfl
set_option maxRecDepth 20000 in
theorem ff_8_5 (a : Nat) : FF RX8 8 5 (.ref a) := ⟨_, .object "KindNets$ValueReader", rfl, rfl, rfl, by decide +kernel, rfl, rfl⟩
set_option maxRecDepth 20000 in
theorem cl_RX8_61 : Cond.classLink RX8 61 RX0 ∈ lw_good := q_mem 256 rfl rfl
set_option maxRecDepth 20000 in
theorem it_0 : Cond.instantiable RX0 4 ∈ lw_good := q_mem 257 rfl rfl
set_option maxRecDepth 20000 in
theorem ii_0 : Cond.initialized RX0 ∈ lw_good := q_mem 81 rfl rfl
set_option maxRecDepth 20000 in
theorem df_0 : ∀ j, j < 4 → defaultValue (tyX0 j) = vp_V [.null, .null, .null, .int 0] j := by
  intro j hj
  match j, hj with
  | 0, _ => rfl
  | 1, _ => rfl
  | 2, _ => rfl
  | 3, _ => rfl
  | (z + 4), h => omega
set_option maxRecDepth 20000 in
theorem ic_X0 : Cond.code yX0_init cX0_init 2 none ∈ lw_good := q_mem 260 rfl rfl
set_option maxRecDepth 20000 in
theorem im_X0 : Cond.instanceMethod yX0_init ∈ lw_good := q_mem 259 rfl rfl
set_option maxRecDepth 20000 in
theorem lki_RX8_63 : Cond.methodLink RX8 63 yX0_init ∈ lw_good := q_mem 258 rfl rfl
set_option maxRecDepth 20000 in
theorem ff_8_6 (a : Nat) : FF RX8 8 6 (.ref a) := ⟨_, .object "KindNets$Counts", rfl, rfl, rfl, by decide +kernel, rfl, rfl⟩
set_option maxRecDepth 20000 in
theorem cl_RX8_68 : Cond.classLink RX8 68 RX2 ∈ lw_good := q_mem 276 rfl rfl
set_option maxRecDepth 20000 in
theorem it_2 : Cond.instantiable RX2 3 ∈ lw_good := q_mem 277 rfl rfl
set_option maxRecDepth 20000 in
theorem ii_2 : Cond.initialized RX2 ∈ lw_good := q_mem 82 rfl rfl
set_option maxRecDepth 20000 in
theorem df_2 : ∀ j, j < 3 → defaultValue (tyX2 j) = vp_V [.null, .null, .int 0] j := by
  intro j hj
  match j, hj with
  | 0, _ => rfl
  | 1, _ => rfl
  | 2, _ => rfl
  | (z + 3), h => omega
set_option maxRecDepth 20000 in
theorem ic_X2 : Cond.code yX2_init cX2_init 2 none ∈ lw_good := q_mem 280 rfl rfl
set_option maxRecDepth 20000 in
theorem im_X2 : Cond.instanceMethod yX2_init ∈ lw_good := q_mem 279 rfl rfl
set_option maxRecDepth 20000 in
theorem lki_RX8_70 : Cond.methodLink RX8 70 yX2_init ∈ lw_good := q_mem 278 rfl rfl
set_option maxRecDepth 20000 in
theorem ff_8_7 (a : Nat) : FF RX8 8 7 (.ref a) := ⟨_, .object "KindNets$Leasts", rfl, rfl, rfl, by decide +kernel, rfl, rfl⟩
def rm_X8 : Room := { frames := 4, cells := 32, slots := 6940, locals := 160 }
set_option maxRecDepth 100000 in
set_option maxHeartbeats 8000000 in
theorem I_X8 (w : QW) (h0  : Nat) : Ci yX8_init cX8_init 1 rm_X8 w [.ref h0] [(h0, .inr (8, [.null, .null, .null, .null, .null, .null, .null, .null]))] (fun u => ∃ (q1 q2 q3 q4 q5 q6 q7 q8 q9 q10 q11 q12 q13 q14 q15 q16 q17 q18 q19 q20 q21 q22 q23 q24 q25 q26 q27 q28 q29 q30 q31 q32 : Nat), u = [(h0, .inr (8, [.ref q1, .ref q3, .ref q8, .ref q14, .ref q18, .ref q24, .ref q28, .ref q31])), (q1, .inr (4, [.ref q2, .int (0 : Int32)])), (q2, .inl (w.2.2.1, 100, .inl (fun _ => 0))), (q3, .inr (3, [.int (60 : Int32), .ref q4, .ref q5, .ref q6, .ref q7, .int (0 : Int32)])), (q4, .inl (w.2.2.1, 60, .inl (fun _ => 0))), (q5, .inl (w.2.2.1, 60, .inl (fun _ => 0))), (q6, .inl (w.2.2.1, 480, .inl (fun _ => 0))), (q7, .inl (w.2.2.1, 8, .inl (fm1.1 0))), (q8, .inr (6, [.ref q1, .ref q9, .int (0 : Int32), .int (0 : Int32)])), (q9, .inr (3, [.int (100 : Int32), .ref q10, .ref q11, .ref q12, .ref q13, .int (0 : Int32)])), (q10, .inl (w.2.2.1, 100, .inl (fun _ => 0))), (q11, .inl (w.2.2.1, 100, .inl (fun _ => 0))), (q12, .inl (w.2.2.1, 800, .inl (fun _ => 0))), (q13, .inl (w.2.2.1, 8, .inl (fm1.1 0))), (q14, .inr (5, [.ref q3, .ref q15, .ref q16, .ref q17, .int (0 : Int32), .int (0 : Int32)])), (q15, .inl (w.2.2.1, 3600, .inl (fun _ => 0))), (q16, .inl (w.2.2.1, 60, .inl (fun _ => 0))), (q17, .inl (w.2.2.1, 60, .inl (fun _ => 0))), (q18, .inr (1, [.ref q3, .ref q14, .ref q19, .ref q20, .ref q21, .ref q22, .ref q23, .int (0 : Int32), .int (0 : Int32), .int (0 : Int32)])), (q19, .inl (w.2.2.1, 60, .inl (fun _ => 0))), (q20, .inl (w.2.2.1, 60, .inl (fun _ => 0))), (q21, .inl (w.2.2.1, 60, .inl (fun _ => 0))), (q22, .inl (w.2.2.1, 60, .inl (fun _ => 0))), (q23, .inl (w.2.2.1, 60, .inl (fun _ => 0))), (q24, .inr (7, [.ref q1, .ref q3, .ref q25, .ref q26, .ref q27, .int (0 : Int32), .int (0 : Int32), .int (-7 : Int32), .int (0 : Int32), .int (-6 : Int32)])), (q25, .inl (w.2.2.1, 100, .inl (fun _ => 0))), (q26, .inl (w.2.2.1, 100, .inl (fun _ => 0))), (q27, .inl (w.2.2.1, 100, .inl (fun _ => 0))), (q28, .inr (0, [.ref q3, .ref q29, .ref q30, .int (0 : Int32)])), (q29, .inl (w.2.2.2.1, 780, .inr (.inl (fun _ => 0)))), (q30, .inl (w.2.2.2.1, 13, .inr (.inl (fun _ => 0)))), (q31, .inr (2, [.ref q3, .ref q32, .int (0 : Int32)])), (q32, .inl (w.2.2.1, 60, .inl (fun _ => 0)))]) := by
  refine y_enter (L := [(0, .ref h0)]) (by decide) rfl (Nat.le_of_ble_eq_true rfl) rfl ?_
  intro C hc hw hin hv
  subst hw
  have hc : OKY C RX8 cX8_init 1 rm_X8 := hc
  refine y_aload_n hc dX8_init_0 rfl 0 rfl ?_
  refine y_objInit hc dX8_init_1 ol_RX8_1 oi_inst oi_code (by decide) (by decide) ?_
  refine y_aload_n hc dX8_init_4 rfl 0 rfl ?_
  refine y_new (ci := 4) (N := 2) (Cn := RX4) (T := TX4) (ty := tyX4) (fs := [.null, .int 0]) hc dX8_init_5 cl_RX8_7 it_4 ii_4 rfl tyX4_ok df_4 (by decide) (by decide) (fun q1 => ?_)
  refine y_dup hc dX8_init_8 rfl ?_
  refine y_init (As := []) (st := [.ref q1, .ref h0]) (wr := [(h0, .inr (8, [.null, .null, .null, .null, .null, .null, .null, .null]))]) hc dX8_init_9 ic_X4 ii_4 im_X4 lki_RX8_9 rfl (by decide +kernel) rfl 1 [0] rfl rfl (by decide) (by decide) (I_X4 (d_w C) q1 ) (by decide) (by decide) (Nat.le_of_ble_eq_true rfl) (fun u hu => ?_)
  obtain ⟨q2, rfl⟩ := hu
  refine y_putF hc hin dX8_init_12 fl_RX8_10 (ff_8_0 _) 0 rfl (Nat.le_of_ble_eq_true rfl) ?_
  refine y_aload_n hc dX8_init_15 rfl 0 rfl ?_
  refine y_new (ci := 3) (N := 6) (Cn := RX3) (T := TX3) (ty := tyX3) (fs := [.int 0, .null, .null, .null, .null, .int 0]) hc dX8_init_16 cl_RX8_16 it_3 ii_3 rfl tyX3_ok df_3 (by decide) (by decide) (fun q3 => ?_)
  refine y_dup hc dX8_init_19 rfl ?_
  refine y_bipush hc dX8_init_20 kb_60 ?_
  refine y_init (As := [.int (60 : Int32)]) (st := [.ref q3, .ref h0]) (wr := [(h0, .inr (8, [.ref q1, .null, .null, .null, .null, .null, .null, .null])), (q1, .inr (4, [.ref q2, .int (0 : Int32)])), (q2, .inl ((d_w C).2.2.1, 100, .inl (fun _ => 0)))]) hc dX8_init_22 ic_X3 ii_3 im_X3 lki_RX8_18 rfl (by decide +kernel) rfl 3 [0, 1, 2] rfl rfl (by decide) (by decide) (I_X3_60 (d_w C) q3 ) (by decide) (by decide) (Nat.le_of_ble_eq_true rfl) (fun u hu => ?_)
  obtain ⟨q4, q5, q6, q7, rfl⟩ := hu
  refine y_putF hc hin dX8_init_25 fl_RX8_21 (ff_8_1 _) 0 rfl (Nat.le_of_ble_eq_true rfl) ?_
  refine y_aload_n hc dX8_init_28 rfl 0 rfl ?_
  refine y_new (ci := 6) (N := 4) (Cn := RX6) (T := TX6) (ty := tyX6) (fs := [.null, .null, .int 0, .int 0]) hc dX8_init_29 cl_RX8_25 it_6 ii_6 rfl tyX6_ok df_6 (by decide) (by decide) (fun q8 => ?_)
  refine y_dup hc dX8_init_32 rfl ?_
  refine y_aload_n hc dX8_init_33 rfl 0 rfl ?_
  refine y_get hc dX8_init_34 fl_RX8_10 0 rfl rfl ?_
  refine y_init (As := [.ref q1]) (st := [.ref q8, .ref h0]) (wr := [(h0, .inr (8, [.ref q1, .ref q3, .null, .null, .null, .null, .null, .null])), (q1, .inr (4, [.ref q2, .int (0 : Int32)])), (q2, .inl ((d_w C).2.2.1, 100, .inl (fun _ => 0))), (q3, .inr (3, [.int (60 : Int32), .ref q4, .ref q5, .ref q6, .ref q7, .int (0 : Int32)])), (q4, .inl ((d_w C).2.2.1, 60, .inl (fun _ => 0))), (q5, .inl ((d_w C).2.2.1, 60, .inl (fun _ => 0))), (q6, .inl ((d_w C).2.2.1, 480, .inl (fun _ => 0))), (q7, .inl ((d_w C).2.2.1, 8, .inl (fm1.1 0)))]) hc dX8_init_37 ic_X6 ii_6 im_X6 lki_RX8_27 rfl (by decide +kernel) rfl 8 [0, 1, 2, 3, 4, 5, 6, 7] rfl rfl (by decide) (by decide) (I_X6 (d_w C) q8 q1) (by decide) (by decide) (Nat.le_of_ble_eq_true rfl) (fun u hu => ?_)
  obtain ⟨q9, q10, q11, q12, q13, rfl⟩ := hu
  refine y_putF hc hin dX8_init_40 fl_RX8_30 (ff_8_2 _) 0 rfl (Nat.le_of_ble_eq_true rfl) ?_
  refine y_aload_n hc dX8_init_43 rfl 0 rfl ?_
  refine y_new (ci := 5) (N := 6) (Cn := RX5) (T := TX5) (ty := tyX5) (fs := [.null, .null, .null, .null, .int 0, .int 0]) hc dX8_init_44 cl_RX8_34 it_5 ii_5 rfl tyX5_ok df_5 (by decide) (by decide) (fun q14 => ?_)
  refine y_dup hc dX8_init_47 rfl ?_
  refine y_aload_n hc dX8_init_48 rfl 0 rfl ?_
  refine y_get hc dX8_init_49 fl_RX8_21 0 rfl rfl ?_
  refine y_init (As := [.ref q3]) (st := [.ref q14, .ref h0]) (wr := [(h0, .inr (8, [.ref q1, .ref q3, .ref q8, .null, .null, .null, .null, .null])), (q1, .inr (4, [.ref q2, .int (0 : Int32)])), (q2, .inl ((d_w C).2.2.1, 100, .inl (fun _ => 0))), (q3, .inr (3, [.int (60 : Int32), .ref q4, .ref q5, .ref q6, .ref q7, .int (0 : Int32)])), (q4, .inl ((d_w C).2.2.1, 60, .inl (fun _ => 0))), (q5, .inl ((d_w C).2.2.1, 60, .inl (fun _ => 0))), (q6, .inl ((d_w C).2.2.1, 480, .inl (fun _ => 0))), (q7, .inl ((d_w C).2.2.1, 8, .inl (fm1.1 0))), (q8, .inr (6, [.ref q1, .ref q9, .int (0 : Int32), .int (0 : Int32)])), (q9, .inr (3, [.int (100 : Int32), .ref q10, .ref q11, .ref q12, .ref q13, .int (0 : Int32)])), (q10, .inl ((d_w C).2.2.1, 100, .inl (fun _ => 0))), (q11, .inl ((d_w C).2.2.1, 100, .inl (fun _ => 0))), (q12, .inl ((d_w C).2.2.1, 800, .inl (fun _ => 0))), (q13, .inl ((d_w C).2.2.1, 8, .inl (fm1.1 0)))]) hc dX8_init_52 ic_X5 ii_5 im_X5 lki_RX8_36 rfl (by decide +kernel) rfl 14 [0, 1, 2, 3, 4, 5, 6, 7, 8, 9, 10, 11, 12, 13] rfl rfl (by decide) (by decide) (I_X5 (d_w C) q14 q3) (by decide) (by decide) (Nat.le_of_ble_eq_true rfl) (fun u hu => ?_)
  obtain ⟨q15, q16, q17, rfl⟩ := hu
  refine y_putF hc hin dX8_init_55 fl_RX8_39 (ff_8_3 _) 0 rfl (Nat.le_of_ble_eq_true rfl) ?_
  refine y_aload_n hc dX8_init_58 rfl 0 rfl ?_
  refine y_new (ci := 1) (N := 10) (Cn := RX1) (T := TX1) (ty := tyX1) (fs := [.null, .null, .null, .null, .null, .null, .null, .int 0, .int 0, .int 0]) hc dX8_init_59 cl_RX8_43 it_1 ii_1 rfl tyX1_ok df_1 (by decide) (by decide) (fun q18 => ?_)
  refine y_dup hc dX8_init_62 rfl ?_
  refine y_aload_n hc dX8_init_63 rfl 0 rfl ?_
  refine y_get hc dX8_init_64 fl_RX8_21 0 rfl rfl ?_
  refine y_aload_n hc dX8_init_67 rfl 0 rfl ?_
  refine y_get hc dX8_init_68 fl_RX8_39 0 rfl rfl ?_
  refine y_init (As := [.ref q3, .ref q14]) (st := [.ref q18, .ref h0]) (wr := [(h0, .inr (8, [.ref q1, .ref q3, .ref q8, .ref q14, .null, .null, .null, .null])), (q1, .inr (4, [.ref q2, .int (0 : Int32)])), (q2, .inl ((d_w C).2.2.1, 100, .inl (fun _ => 0))), (q3, .inr (3, [.int (60 : Int32), .ref q4, .ref q5, .ref q6, .ref q7, .int (0 : Int32)])), (q4, .inl ((d_w C).2.2.1, 60, .inl (fun _ => 0))), (q5, .inl ((d_w C).2.2.1, 60, .inl (fun _ => 0))), (q6, .inl ((d_w C).2.2.1, 480, .inl (fun _ => 0))), (q7, .inl ((d_w C).2.2.1, 8, .inl (fm1.1 0))), (q8, .inr (6, [.ref q1, .ref q9, .int (0 : Int32), .int (0 : Int32)])), (q9, .inr (3, [.int (100 : Int32), .ref q10, .ref q11, .ref q12, .ref q13, .int (0 : Int32)])), (q10, .inl ((d_w C).2.2.1, 100, .inl (fun _ => 0))), (q11, .inl ((d_w C).2.2.1, 100, .inl (fun _ => 0))), (q12, .inl ((d_w C).2.2.1, 800, .inl (fun _ => 0))), (q13, .inl ((d_w C).2.2.1, 8, .inl (fm1.1 0))), (q14, .inr (5, [.ref q3, .ref q15, .ref q16, .ref q17, .int (0 : Int32), .int (0 : Int32)])), (q15, .inl ((d_w C).2.2.1, 3600, .inl (fun _ => 0))), (q16, .inl ((d_w C).2.2.1, 60, .inl (fun _ => 0))), (q17, .inl ((d_w C).2.2.1, 60, .inl (fun _ => 0)))]) hc dX8_init_71 ic_X1 ii_1 im_X1 lki_RX8_45 rfl (by decide +kernel) rfl 18 [0, 1, 2, 3, 4, 5, 6, 7, 8, 9, 10, 11, 12, 13, 14, 15, 16, 17] rfl rfl (by decide) (by decide) (I_X1 (d_w C) q18 q3 q14) (by decide) (by decide) (Nat.le_of_ble_eq_true rfl) (fun u hu => ?_)
  obtain ⟨q19, q20, q21, q22, q23, rfl⟩ := hu
  refine y_putF hc hin dX8_init_74 fl_RX8_48 (ff_8_4 _) 0 rfl (Nat.le_of_ble_eq_true rfl) ?_
  refine y_aload_n hc dX8_init_77 rfl 0 rfl ?_
  refine y_new (ci := 7) (N := 10) (Cn := RX7) (T := TX7) (ty := tyX7) (fs := [.null, .null, .null, .null, .null, .int 0, .int 0, .int 0, .int 0, .int 0]) hc dX8_init_78 cl_RX8_52 it_7 ii_7 rfl tyX7_ok df_7 (by decide) (by decide) (fun q24 => ?_)
  refine y_dup hc dX8_init_81 rfl ?_
  refine y_aload_n hc dX8_init_82 rfl 0 rfl ?_
  refine y_get hc dX8_init_83 fl_RX8_10 0 rfl rfl ?_
  refine y_aload_n hc dX8_init_86 rfl 0 rfl ?_
  refine y_get hc dX8_init_87 fl_RX8_21 0 rfl rfl ?_
  refine y_init (As := [.ref q1, .ref q3]) (st := [.ref q24, .ref h0]) (wr := [(h0, .inr (8, [.ref q1, .ref q3, .ref q8, .ref q14, .ref q18, .null, .null, .null])), (q1, .inr (4, [.ref q2, .int (0 : Int32)])), (q2, .inl ((d_w C).2.2.1, 100, .inl (fun _ => 0))), (q3, .inr (3, [.int (60 : Int32), .ref q4, .ref q5, .ref q6, .ref q7, .int (0 : Int32)])), (q4, .inl ((d_w C).2.2.1, 60, .inl (fun _ => 0))), (q5, .inl ((d_w C).2.2.1, 60, .inl (fun _ => 0))), (q6, .inl ((d_w C).2.2.1, 480, .inl (fun _ => 0))), (q7, .inl ((d_w C).2.2.1, 8, .inl (fm1.1 0))), (q8, .inr (6, [.ref q1, .ref q9, .int (0 : Int32), .int (0 : Int32)])), (q9, .inr (3, [.int (100 : Int32), .ref q10, .ref q11, .ref q12, .ref q13, .int (0 : Int32)])), (q10, .inl ((d_w C).2.2.1, 100, .inl (fun _ => 0))), (q11, .inl ((d_w C).2.2.1, 100, .inl (fun _ => 0))), (q12, .inl ((d_w C).2.2.1, 800, .inl (fun _ => 0))), (q13, .inl ((d_w C).2.2.1, 8, .inl (fm1.1 0))), (q14, .inr (5, [.ref q3, .ref q15, .ref q16, .ref q17, .int (0 : Int32), .int (0 : Int32)])), (q15, .inl ((d_w C).2.2.1, 3600, .inl (fun _ => 0))), (q16, .inl ((d_w C).2.2.1, 60, .inl (fun _ => 0))), (q17, .inl ((d_w C).2.2.1, 60, .inl (fun _ => 0))), (q18, .inr (1, [.ref q3, .ref q14, .ref q19, .ref q20, .ref q21, .ref q22, .ref q23, .int (0 : Int32), .int (0 : Int32), .int (0 : Int32)])), (q19, .inl ((d_w C).2.2.1, 60, .inl (fun _ => 0))), (q20, .inl ((d_w C).2.2.1, 60, .inl (fun _ => 0))), (q21, .inl ((d_w C).2.2.1, 60, .inl (fun _ => 0))), (q22, .inl ((d_w C).2.2.1, 60, .inl (fun _ => 0))), (q23, .inl ((d_w C).2.2.1, 60, .inl (fun _ => 0)))]) hc dX8_init_90 ic_X7 ii_7 im_X7 lki_RX8_54 rfl (by decide +kernel) rfl 24 [0, 1, 2, 3, 4, 5, 6, 7, 8, 9, 10, 11, 12, 13, 14, 15, 16, 17, 18, 19, 20, 21, 22, 23] rfl rfl (by decide) (by decide) (I_X7 (d_w C) q24 q1 q3) (by decide) (by decide) (Nat.le_of_ble_eq_true rfl) (fun u hu => ?_)
  obtain ⟨q25, q26, q27, rfl⟩ := hu
  refine y_putF hc hin dX8_init_93 fl_RX8_57 (ff_8_5 _) 0 rfl (Nat.le_of_ble_eq_true rfl) ?_
  refine y_aload_n hc dX8_init_96 rfl 0 rfl ?_
  refine y_new (ci := 0) (N := 4) (Cn := RX0) (T := TX0) (ty := tyX0) (fs := [.null, .null, .null, .int 0]) hc dX8_init_97 cl_RX8_61 it_0 ii_0 rfl tyX0_ok df_0 (by decide) (by decide) (fun q28 => ?_)
  refine y_dup hc dX8_init_100 rfl ?_
  refine y_aload_n hc dX8_init_101 rfl 0 rfl ?_
  refine y_get hc dX8_init_102 fl_RX8_21 0 rfl rfl ?_
  refine y_init (As := [.ref q3]) (st := [.ref q28, .ref h0]) (wr := [(h0, .inr (8, [.ref q1, .ref q3, .ref q8, .ref q14, .ref q18, .ref q24, .null, .null])), (q1, .inr (4, [.ref q2, .int (0 : Int32)])), (q2, .inl ((d_w C).2.2.1, 100, .inl (fun _ => 0))), (q3, .inr (3, [.int (60 : Int32), .ref q4, .ref q5, .ref q6, .ref q7, .int (0 : Int32)])), (q4, .inl ((d_w C).2.2.1, 60, .inl (fun _ => 0))), (q5, .inl ((d_w C).2.2.1, 60, .inl (fun _ => 0))), (q6, .inl ((d_w C).2.2.1, 480, .inl (fun _ => 0))), (q7, .inl ((d_w C).2.2.1, 8, .inl (fm1.1 0))), (q8, .inr (6, [.ref q1, .ref q9, .int (0 : Int32), .int (0 : Int32)])), (q9, .inr (3, [.int (100 : Int32), .ref q10, .ref q11, .ref q12, .ref q13, .int (0 : Int32)])), (q10, .inl ((d_w C).2.2.1, 100, .inl (fun _ => 0))), (q11, .inl ((d_w C).2.2.1, 100, .inl (fun _ => 0))), (q12, .inl ((d_w C).2.2.1, 800, .inl (fun _ => 0))), (q13, .inl ((d_w C).2.2.1, 8, .inl (fm1.1 0))), (q14, .inr (5, [.ref q3, .ref q15, .ref q16, .ref q17, .int (0 : Int32), .int (0 : Int32)])), (q15, .inl ((d_w C).2.2.1, 3600, .inl (fun _ => 0))), (q16, .inl ((d_w C).2.2.1, 60, .inl (fun _ => 0))), (q17, .inl ((d_w C).2.2.1, 60, .inl (fun _ => 0))), (q18, .inr (1, [.ref q3, .ref q14, .ref q19, .ref q20, .ref q21, .ref q22, .ref q23, .int (0 : Int32), .int (0 : Int32), .int (0 : Int32)])), (q19, .inl ((d_w C).2.2.1, 60, .inl (fun _ => 0))), (q20, .inl ((d_w C).2.2.1, 60, .inl (fun _ => 0))), (q21, .inl ((d_w C).2.2.1, 60, .inl (fun _ => 0))), (q22, .inl ((d_w C).2.2.1, 60, .inl (fun _ => 0))), (q23, .inl ((d_w C).2.2.1, 60, .inl (fun _ => 0))), (q24, .inr (7, [.ref q1, .ref q3, .ref q25, .ref q26, .ref q27, .int (0 : Int32), .int (0 : Int32), .int (-7 : Int32), .int (0 : Int32), .int (-6 : Int32)])), (q25, .inl ((d_w C).2.2.1, 100, .inl (fun _ => 0))), (q26, .inl ((d_w C).2.2.1, 100, .inl (fun _ => 0))), (q27, .inl ((d_w C).2.2.1, 100, .inl (fun _ => 0)))]) hc dX8_init_105 ic_X0 ii_0 im_X0 lki_RX8_63 rfl (by decide +kernel) rfl 28 [0, 1, 2, 3, 4, 5, 6, 7, 8, 9, 10, 11, 12, 13, 14, 15, 16, 17, 18, 19, 20, 21, 22, 23, 24, 25, 26, 27] rfl rfl (by decide) (by decide) (I_X0 (d_w C) q28 q3) (by decide) (by decide) (Nat.le_of_ble_eq_true rfl) (fun u hu => ?_)
  obtain ⟨q29, q30, rfl⟩ := hu
  refine y_putF hc hin dX8_init_108 fl_RX8_64 (ff_8_6 _) 0 rfl (Nat.le_of_ble_eq_true rfl) ?_
  refine y_aload_n hc dX8_init_111 rfl 0 rfl ?_
  refine y_new (ci := 2) (N := 3) (Cn := RX2) (T := TX2) (ty := tyX2) (fs := [.null, .null, .int 0]) hc dX8_init_112 cl_RX8_68 it_2 ii_2 rfl tyX2_ok df_2 (by decide) (by decide) (fun q31 => ?_)
  refine y_dup hc dX8_init_115 rfl ?_
  refine y_aload_n hc dX8_init_116 rfl 0 rfl ?_
  refine y_get hc dX8_init_117 fl_RX8_21 0 rfl rfl ?_
  refine y_init (As := [.ref q3]) (st := [.ref q31, .ref h0]) (wr := [(h0, .inr (8, [.ref q1, .ref q3, .ref q8, .ref q14, .ref q18, .ref q24, .ref q28, .null])), (q1, .inr (4, [.ref q2, .int (0 : Int32)])), (q2, .inl ((d_w C).2.2.1, 100, .inl (fun _ => 0))), (q3, .inr (3, [.int (60 : Int32), .ref q4, .ref q5, .ref q6, .ref q7, .int (0 : Int32)])), (q4, .inl ((d_w C).2.2.1, 60, .inl (fun _ => 0))), (q5, .inl ((d_w C).2.2.1, 60, .inl (fun _ => 0))), (q6, .inl ((d_w C).2.2.1, 480, .inl (fun _ => 0))), (q7, .inl ((d_w C).2.2.1, 8, .inl (fm1.1 0))), (q8, .inr (6, [.ref q1, .ref q9, .int (0 : Int32), .int (0 : Int32)])), (q9, .inr (3, [.int (100 : Int32), .ref q10, .ref q11, .ref q12, .ref q13, .int (0 : Int32)])), (q10, .inl ((d_w C).2.2.1, 100, .inl (fun _ => 0))), (q11, .inl ((d_w C).2.2.1, 100, .inl (fun _ => 0))), (q12, .inl ((d_w C).2.2.1, 800, .inl (fun _ => 0))), (q13, .inl ((d_w C).2.2.1, 8, .inl (fm1.1 0))), (q14, .inr (5, [.ref q3, .ref q15, .ref q16, .ref q17, .int (0 : Int32), .int (0 : Int32)])), (q15, .inl ((d_w C).2.2.1, 3600, .inl (fun _ => 0))), (q16, .inl ((d_w C).2.2.1, 60, .inl (fun _ => 0))), (q17, .inl ((d_w C).2.2.1, 60, .inl (fun _ => 0))), (q18, .inr (1, [.ref q3, .ref q14, .ref q19, .ref q20, .ref q21, .ref q22, .ref q23, .int (0 : Int32), .int (0 : Int32), .int (0 : Int32)])), (q19, .inl ((d_w C).2.2.1, 60, .inl (fun _ => 0))), (q20, .inl ((d_w C).2.2.1, 60, .inl (fun _ => 0))), (q21, .inl ((d_w C).2.2.1, 60, .inl (fun _ => 0))), (q22, .inl ((d_w C).2.2.1, 60, .inl (fun _ => 0))), (q23, .inl ((d_w C).2.2.1, 60, .inl (fun _ => 0))), (q24, .inr (7, [.ref q1, .ref q3, .ref q25, .ref q26, .ref q27, .int (0 : Int32), .int (0 : Int32), .int (-7 : Int32), .int (0 : Int32), .int (-6 : Int32)])), (q25, .inl ((d_w C).2.2.1, 100, .inl (fun _ => 0))), (q26, .inl ((d_w C).2.2.1, 100, .inl (fun _ => 0))), (q27, .inl ((d_w C).2.2.1, 100, .inl (fun _ => 0))), (q28, .inr (0, [.ref q3, .ref q29, .ref q30, .int (0 : Int32)])), (q29, .inl ((d_w C).2.2.2.1, 780, .inr (.inl (fun _ => 0)))), (q30, .inl ((d_w C).2.2.2.1, 13, .inr (.inl (fun _ => 0))))]) hc dX8_init_120 ic_X2 ii_2 im_X2 lki_RX8_70 rfl (by decide +kernel) rfl 31 [0, 1, 2, 3, 4, 5, 6, 7, 8, 9, 10, 11, 12, 13, 14, 15, 16, 17, 18, 19, 20, 21, 22, 23, 24, 25, 26, 27, 28, 29, 30] rfl rfl (by decide) (by decide) (I_X2 (d_w C) q31 q3) (by decide) (by decide) (Nat.le_of_ble_eq_true rfl) (fun u hu => ?_)
  obtain ⟨q32, rfl⟩ := hu
  refine y_putF hc hin dX8_init_123 fl_RX8_71 (ff_8_7 _) 0 rfl (Nat.le_of_ble_eq_true rfl) ?_
  exact hv _ _ _ _ _ dX8_init_126 ⟨q1, q2, q3, q4, q5, q6, q7, q8, q9, q10, q11, q12, q13, q14, q15, q16, q17, q18, q19, q20, q21, q22, q23, q24, q25, q26, q27, q28, q29, q30, q31, q32, rfl⟩ rfl rfl

set_option maxRecDepth 20000 in
theorem ol_RX9_1 : Cond.methodLink RX9 1 objectInit ∈ lw_good := q_mem 823 rfl rfl
set_option maxRecDepth 20000 in
theorem ff_9_1 (a : Nat) : FF RX9 9 1 (.ref a) := ⟨_, .array .int, rfl, rfl, rfl, by decide +kernel, rfl, rfl⟩
set_option maxRecDepth 20000 in
theorem ff_9_3 (a : Nat) : FF RX9 9 3 (.ref a) := ⟨_, .array .int, rfl, rfl, rfl, by decide +kernel, rfl, rfl⟩
set_option maxRecDepth 20000 in
theorem ff_9_4 (a : Nat) : FF RX9 9 4 (.ref a) := ⟨_, .array .int, rfl, rfl, rfl, by decide +kernel, rfl, rfl⟩
set_option maxRecDepth 20000 in
theorem ff_9_5 (a : Nat) : FF RX9 9 5 (.ref a) := ⟨_, .array .int, rfl, rfl, rfl, by decide +kernel, rfl, rfl⟩
set_option maxRecDepth 20000 in
theorem ff_9_7 (a : Nat) : FF RX9 9 7 (.ref a) := ⟨_, .array .int, rfl, rfl, rfl, by decide +kernel, rfl, rfl⟩
set_option maxRecDepth 20000 in
theorem ff_9_8 (a : Nat) : FF RX9 9 8 (.ref a) := ⟨_, .array .int, rfl, rfl, rfl, by decide +kernel, rfl, rfl⟩
set_option maxRecDepth 20000 in
theorem ff_9_9 (a : Nat) : FF RX9 9 9 (.ref a) := ⟨_, .array .int, rfl, rfl, rfl, by decide +kernel, rfl, rfl⟩
set_option maxRecDepth 20000 in
theorem ff_9_11 (a : Nat) : FF RX9 9 11 (.ref a) := ⟨_, .array .int, rfl, rfl, rfl, by decide +kernel, rfl, rfl⟩
set_option maxRecDepth 20000 in
theorem ff_9_12 (a : Nat) : FF RX9 9 12 (.ref a) := ⟨_, .array .int, rfl, rfl, rfl, by decide +kernel, rfl, rfl⟩
set_option maxRecDepth 20000 in
theorem ff_9_13 (a : Nat) : FF RX9 9 13 (.ref a) := ⟨_, .array .int, rfl, rfl, rfl, by decide +kernel, rfl, rfl⟩
set_option maxRecDepth 20000 in
theorem ac_boolean : Cond.arrayClass .boolean ∈ lw_good := q_mem 927 rfl rfl
set_option maxRecDepth 20000 in
theorem ff_9_16 (a : Nat) : FF RX9 9 16 (.ref a) := ⟨_, .array .boolean, rfl, rfl, rfl, by decide +kernel, rfl, rfl⟩
set_option maxRecDepth 20000 in
theorem ff_9_17 (a : Nat) : FF RX9 9 17 (.ref a) := ⟨_, .array .int, rfl, rfl, rfl, by decide +kernel, rfl, rfl⟩
set_option maxRecDepth 20000 in
theorem ff_9_19 (a : Nat) : FF RX9 9 19 (.ref a) := ⟨_, .array .boolean, rfl, rfl, rfl, by decide +kernel, rfl, rfl⟩
set_option maxRecDepth 20000 in
theorem ff_9_20 (a : Nat) : FF RX9 9 20 (.ref a) := ⟨_, .array .int, rfl, rfl, rfl, by decide +kernel, rfl, rfl⟩
set_option maxRecDepth 20000 in
theorem ff_9_22 (a : Nat) : FF RX9 9 22 (.ref a) := ⟨_, .array .int, rfl, rfl, rfl, by decide +kernel, rfl, rfl⟩
set_option maxRecDepth 20000 in
theorem ff_9_23 (a : Nat) : FF RX9 9 23 (.ref a) := ⟨_, .array .int, rfl, rfl, rfl, by decide +kernel, rfl, rfl⟩
set_option maxRecDepth 20000 in
theorem ff_9_25 (a : Nat) : FF RX9 9 25 (.ref a) := ⟨_, .array .int, rfl, rfl, rfl, by decide +kernel, rfl, rfl⟩
set_option maxRecDepth 20000 in
theorem ff_9_26 (a : Nat) : FF RX9 9 26 (.ref a) := ⟨_, .array .int, rfl, rfl, rfl, by decide +kernel, rfl, rfl⟩
set_option maxRecDepth 20000 in
theorem ff_9_28 (a : Nat) : FF RX9 9 28 (.ref a) := ⟨_, .array .int, rfl, rfl, rfl, by decide +kernel, rfl, rfl⟩
set_option maxRecDepth 20000 in
theorem ff_9_29 (a : Nat) : FF RX9 9 29 (.ref a) := ⟨_, .array .int, rfl, rfl, rfl, by decide +kernel, rfl, rfl⟩
set_option maxRecDepth 20000 in
theorem ff_9_30 (a : Nat) : FF RX9 9 30 (.ref a) := ⟨_, .array .long, rfl, rfl, rfl, by decide +kernel, rfl, rfl⟩
set_option maxRecDepth 20000 in
theorem ff_9_31 (a : Nat) : FF RX9 9 31 (.ref a) := ⟨_, .array .long, rfl, rfl, rfl, by decide +kernel, rfl, rfl⟩
set_option maxRecDepth 20000 in
theorem ff_9_32 (a : Nat) : FF RX9 9 32 (.ref a) := ⟨_, .array .long, rfl, rfl, rfl, by decide +kernel, rfl, rfl⟩
set_option maxRecDepth 20000 in
theorem ff_9_33 (a : Nat) : FF RX9 9 33 (.ref a) := ⟨_, .array .int, rfl, rfl, rfl, by decide +kernel, rfl, rfl⟩
def rm_X9 : Room := { frames := 2, cells := 24, slots := 18534, locals := 80 }
set_option maxRecDepth 100000 in
set_option maxHeartbeats 8000000 in
theorem I_X9 (w : QW) (h0  : Nat) : Ci yX9_init cX9_init 2 rm_X9 w [.ref h0] [(h0, .inr (9, [.int 0, .null, .int 0, .null, .null, .null, .int 0, .null, .null, .null, .int 0, .null, .null, .null, .int 0, .int 0, .null, .null, .int 0, .null, .null, .int 0, .null, .null, .int 0, .null, .null, .int 0, .null, .null, .null, .null, .null, .null]))] (fun u => ∃ (q1 q2 q3 q4 q5 q6 q7 q8 q9 q10 q11 q12 q13 q14 q15 q16 q17 q18 q19 q20 q21 q22 q23 q24 : Nat), u = [(h0, .inr (9, [.int 0, .ref q1, .int 0, .ref q2, .ref q3, .ref q4, .int 0, .ref q5, .ref q6, .ref q7, .int 0, .ref q8, .ref q9, .ref q10, .int 0, .int 0, .ref q11, .ref q12, .int 0, .ref q13, .ref q14, .int 0, .ref q15, .ref q16, .int 0, .ref q17, .ref q18, .int 0, .ref q19, .ref q20, .ref q21, .ref q22, .ref q23, .ref q24])), (q1, .inl (w.2.2.1, 100, .inl (fun _ => 0))), (q2, .inl (w.2.2.1, 60, .inl (fun _ => 0))), (q3, .inl (w.2.2.1, 480, .inl (fun _ => 0))), (q4, .inl (w.2.2.1, 8, .inl (upd (upd (upd (upd (upd (upd (upd (upd (fun _ => 0) (Int32.toNatClampNeg (0 : Int32)) (-6 : Int32)) (Int32.toNatClampNeg (1 : Int32)) (-6 : Int32)) (Int32.toNatClampNeg (2 : Int32)) (-6 : Int32)) (Int32.toNatClampNeg (3 : Int32)) (-6 : Int32)) (Int32.toNatClampNeg (4 : Int32)) (-6 : Int32)) (Int32.toNatClampNeg (5 : Int32)) (-6 : Int32)) (Int32.toNatClampNeg (6 : Int32)) (-6 : Int32)) (Int32.toNatClampNeg (7 : Int32)) (-6 : Int32)))), (q5, .inl (w.2.2.1, 100, .inl (fun _ => 0))), (q6, .inl (w.2.2.1, 800, .inl (fun _ => 0))), (q7, .inl (w.2.2.1, 8, .inl (fun _ => 0))), (q8, .inl (w.2.2.1, 16, .inl (fun _ => 0))), (q9, .inl (w.2.2.1, 16, .inl (fun _ => 0))), (q10, .inl (w.2.2.1, 16, .inl (fun _ => 0))), (q11, .inl (w.2.2.2.2, 3600, .inl (fun _ => 0))), (q12, .inl (w.2.2.1, 3600, .inl (fun _ => 0))), (q13, .inl (w.2.2.2.2, 60, .inl (fun _ => 0))), (q14, .inl (w.2.2.1, 7200, .inl (fun _ => 0))), (q15, .inl (w.2.2.1, 600, .inl (fun _ => 0))), (q16, .inl (w.2.2.1, 600, .inl (fun _ => 0))), (q17, .inl (w.2.2.1, 101, .inl (fun _ => 0))), (q18, .inl (w.2.2.1, 101, .inl (fun _ => 0))), (q19, .inl (w.2.2.1, 101, .inl (fun _ => 0))), (q20, .inl (w.2.2.1, 101, .inl (fun _ => 0))), (q21, .inl (w.2.2.2.1, 780, .inr (.inl (fun _ => 0)))), (q22, .inl (w.2.2.2.1, 13, .inr (.inl (fun _ => 0)))), (q23, .inl (w.2.2.2.1, 13, .inr (.inl (fun _ => 0)))), (q24, .inl (w.2.2.1, 60, .inl (fun _ => 0)))]) := by
  refine y_enter (L := [(0, .ref h0)]) (by decide) rfl (Nat.le_of_ble_eq_true rfl) rfl ?_
  intro C hc hw hin hv
  subst hw
  have hc : OKY C RX9 cX9_init 2 rm_X9 := hc
  refine y_aload_n hc dX9_init_0 rfl 0 rfl ?_
  refine y_objInit hc dX9_init_1 ol_RX9_1 oi_inst oi_code (by decide) (by decide) ?_
  refine y_aload_n hc dX9_init_4 rfl 0 rfl ?_
  refine y_bipush hc dX9_init_5 kb_100 ?_
  refine y_newI (N := 100) hc dX9_init_7 ac_int (by decide) (by decide) (by decide) (by decide) (by decide) (fun q1 => ?_)
  refine y_putF hc hin dX9_init_9 fl_RX9_7 (ff_9_1 _) 0 rfl (Nat.le_of_ble_eq_true rfl) ?_
  refine y_aload_n hc dX9_init_12 rfl 0 rfl ?_
  refine y_bipush hc dX9_init_13 kb_60 ?_
  refine y_newI (N := 60) hc dX9_init_15 ac_int (by decide) (by decide) (by decide) (by decide) (by decide) (fun q2 => ?_)
  refine y_putF hc hin dX9_init_17 fl_RX9_13 (ff_9_3 _) 0 rfl (Nat.le_of_ble_eq_true rfl) ?_
  refine y_aload_n hc dX9_init_20 rfl 0 rfl ?_
  refine y_sipush hc dX9_init_21 ks_480 ?_
  refine y_newI (N := 480) hc dX9_init_24 ac_int (by decide) (by decide) (by decide) (by decide) (by decide) (fun q3 => ?_)
  refine y_putF hc hin dX9_init_26 fl_RX9_16 (ff_9_4 _) 0 rfl (Nat.le_of_ble_eq_true rfl) ?_
  refine y_aload_n hc dX9_init_29 rfl 0 rfl ?_
  refine y_bipush hc dX9_init_30 kb_8 ?_
  refine y_newI (N := 8) hc dX9_init_32 ac_int (by decide) (by decide) (by decide) (by decide) (by decide) (fun q4 => ?_)
  refine y_putF hc hin dX9_init_34 fl_RX9_19 (ff_9_5 _) 0 rfl (Nat.le_of_ble_eq_true rfl) ?_
  refine y_aload_n hc dX9_init_37 rfl 0 rfl ?_
  refine y_bipush hc dX9_init_38 kb_100 ?_
  refine y_newI (N := 100) hc dX9_init_40 ac_int (by decide) (by decide) (by decide) (by decide) (by decide) (fun q5 => ?_)
  refine y_putF hc hin dX9_init_42 fl_RX9_22 (ff_9_7 _) 0 rfl (Nat.le_of_ble_eq_true rfl) ?_
  refine y_aload_n hc dX9_init_45 rfl 0 rfl ?_
  refine y_sipush hc dX9_init_46 ks_800 ?_
  refine y_newI (N := 800) hc dX9_init_49 ac_int (by decide) (by decide) (by decide) (by decide) (by decide) (fun q6 => ?_)
  refine y_putF hc hin dX9_init_51 fl_RX9_25 (ff_9_8 _) 0 rfl (Nat.le_of_ble_eq_true rfl) ?_
  refine y_aload_n hc dX9_init_54 rfl 0 rfl ?_
  refine y_bipush hc dX9_init_55 kb_8 ?_
  refine y_newI (N := 8) hc dX9_init_57 ac_int (by decide) (by decide) (by decide) (by decide) (by decide) (fun q7 => ?_)
  refine y_putF hc hin dX9_init_59 fl_RX9_28 (ff_9_9 _) 0 rfl (Nat.le_of_ble_eq_true rfl) ?_
  refine y_aload_n hc dX9_init_62 rfl 0 rfl ?_
  refine y_bipush hc dX9_init_63 kb_16 ?_
  refine y_newI (N := 16) hc dX9_init_65 ac_int (by decide) (by decide) (by decide) (by decide) (by decide) (fun q8 => ?_)
  refine y_putF hc hin dX9_init_67 fl_RX9_31 (ff_9_11 _) 0 rfl (Nat.le_of_ble_eq_true rfl) ?_
  refine y_aload_n hc dX9_init_70 rfl 0 rfl ?_
  refine y_bipush hc dX9_init_71 kb_16 ?_
  refine y_newI (N := 16) hc dX9_init_73 ac_int (by decide) (by decide) (by decide) (by decide) (by decide) (fun q9 => ?_)
  refine y_putF hc hin dX9_init_75 fl_RX9_34 (ff_9_12 _) 0 rfl (Nat.le_of_ble_eq_true rfl) ?_
  refine y_aload_n hc dX9_init_78 rfl 0 rfl ?_
  refine y_bipush hc dX9_init_79 kb_16 ?_
  refine y_newI (N := 16) hc dX9_init_81 ac_int (by decide) (by decide) (by decide) (by decide) (by decide) (fun q10 => ?_)
  refine y_putF hc hin dX9_init_83 fl_RX9_37 (ff_9_13 _) 0 rfl (Nat.le_of_ble_eq_true rfl) ?_
  refine y_aload_n hc dX9_init_86 rfl 0 rfl ?_
  refine y_sipush hc dX9_init_87 ks_3600 ?_
  refine y_newZ (N := 3600) hc dX9_init_90 ac_boolean (by decide) (by decide) (by decide) (by decide) (by decide) (fun q11 => ?_)
  refine y_putF hc hin dX9_init_92 fl_RX9_40 (ff_9_16 _) 0 rfl (Nat.le_of_ble_eq_true rfl) ?_
  refine y_aload_n hc dX9_init_95 rfl 0 rfl ?_
  refine y_sipush hc dX9_init_96 ks_3600 ?_
  refine y_newI (N := 3600) hc dX9_init_99 ac_int (by decide) (by decide) (by decide) (by decide) (by decide) (fun q12 => ?_)
  refine y_putF hc hin dX9_init_101 fl_RX9_44 (ff_9_17 _) 0 rfl (Nat.le_of_ble_eq_true rfl) ?_
  refine y_aload_n hc dX9_init_104 rfl 0 rfl ?_
  refine y_bipush hc dX9_init_105 kb_60 ?_
  refine y_newZ (N := 60) hc dX9_init_107 ac_boolean (by decide) (by decide) (by decide) (by decide) (by decide) (fun q13 => ?_)
  refine y_putF hc hin dX9_init_109 fl_RX9_47 (ff_9_19 _) 0 rfl (Nat.le_of_ble_eq_true rfl) ?_
  refine y_aload_n hc dX9_init_112 rfl 0 rfl ?_
  refine y_sipush hc dX9_init_113 ks_7200 ?_
  refine y_newI (N := 7200) hc dX9_init_116 ac_int (by decide) (by decide) (by decide) (by decide) (by decide) (fun q14 => ?_)
  refine y_putF hc hin dX9_init_118 fl_RX9_50 (ff_9_20 _) 0 rfl (Nat.le_of_ble_eq_true rfl) ?_
  refine y_aload_n hc dX9_init_121 rfl 0 rfl ?_
  refine y_sipush hc dX9_init_122 ks_600 ?_
  refine y_newI (N := 600) hc dX9_init_125 ac_int (by decide) (by decide) (by decide) (by decide) (by decide) (fun q15 => ?_)
  refine y_putF hc hin dX9_init_127 fl_RX9_53 (ff_9_22 _) 0 rfl (Nat.le_of_ble_eq_true rfl) ?_
  refine y_aload_n hc dX9_init_130 rfl 0 rfl ?_
  refine y_sipush hc dX9_init_131 ks_600 ?_
  refine y_newI (N := 600) hc dX9_init_134 ac_int (by decide) (by decide) (by decide) (by decide) (by decide) (fun q16 => ?_)
  refine y_putF hc hin dX9_init_136 fl_RX9_56 (ff_9_23 _) 0 rfl (Nat.le_of_ble_eq_true rfl) ?_
  refine y_aload_n hc dX9_init_139 rfl 0 rfl ?_
  refine y_bipush hc dX9_init_140 kb_101 ?_
  refine y_newI (N := 101) hc dX9_init_142 ac_int (by decide) (by decide) (by decide) (by decide) (by decide) (fun q17 => ?_)
  refine y_putF hc hin dX9_init_144 fl_RX9_59 (ff_9_25 _) 0 rfl (Nat.le_of_ble_eq_true rfl) ?_
  refine y_aload_n hc dX9_init_147 rfl 0 rfl ?_
  refine y_bipush hc dX9_init_148 kb_101 ?_
  refine y_newI (N := 101) hc dX9_init_150 ac_int (by decide) (by decide) (by decide) (by decide) (by decide) (fun q18 => ?_)
  refine y_putF hc hin dX9_init_152 fl_RX9_62 (ff_9_26 _) 0 rfl (Nat.le_of_ble_eq_true rfl) ?_
  refine y_aload_n hc dX9_init_155 rfl 0 rfl ?_
  refine y_bipush hc dX9_init_156 kb_101 ?_
  refine y_newI (N := 101) hc dX9_init_158 ac_int (by decide) (by decide) (by decide) (by decide) (by decide) (fun q19 => ?_)
  refine y_putF hc hin dX9_init_160 fl_RX9_65 (ff_9_28 _) 0 rfl (Nat.le_of_ble_eq_true rfl) ?_
  refine y_aload_n hc dX9_init_163 rfl 0 rfl ?_
  refine y_bipush hc dX9_init_164 kb_101 ?_
  refine y_newI (N := 101) hc dX9_init_166 ac_int (by decide) (by decide) (by decide) (by decide) (by decide) (fun q20 => ?_)
  refine y_putF hc hin dX9_init_168 fl_RX9_68 (ff_9_29 _) 0 rfl (Nat.le_of_ble_eq_true rfl) ?_
  refine y_aload_n hc dX9_init_171 rfl 0 rfl ?_
  refine y_sipush hc dX9_init_172 ks_780 ?_
  refine y_newJ (N := 780) hc dX9_init_175 ac_long (by decide) (by decide) (by decide) (by decide) (by decide) (fun q21 => ?_)
  refine y_putF hc hin dX9_init_177 fl_RX9_71 (ff_9_30 _) 0 rfl (Nat.le_of_ble_eq_true rfl) ?_
  refine y_aload_n hc dX9_init_180 rfl 0 rfl ?_
  refine y_bipush hc dX9_init_181 kb_13 ?_
  refine y_newJ (N := 13) hc dX9_init_183 ac_long (by decide) (by decide) (by decide) (by decide) (by decide) (fun q22 => ?_)
  refine y_putF hc hin dX9_init_185 fl_RX9_75 (ff_9_31 _) 0 rfl (Nat.le_of_ble_eq_true rfl) ?_
  refine y_aload_n hc dX9_init_188 rfl 0 rfl ?_
  refine y_bipush hc dX9_init_189 kb_13 ?_
  refine y_newJ (N := 13) hc dX9_init_191 ac_long (by decide) (by decide) (by decide) (by decide) (by decide) (fun q23 => ?_)
  refine y_putF hc hin dX9_init_193 fl_RX9_78 (ff_9_32 _) 0 rfl (Nat.le_of_ble_eq_true rfl) ?_
  refine y_aload_n hc dX9_init_196 rfl 0 rfl ?_
  refine y_bipush hc dX9_init_197 kb_60 ?_
  refine y_newI (N := 60) hc dX9_init_199 ac_int (by decide) (by decide) (by decide) (by decide) (by decide) (fun q24 => ?_)
  refine y_putF hc hin dX9_init_201 fl_RX9_81 (ff_9_33 _) 0 rfl (Nat.le_of_ble_eq_true rfl) ?_
  refine y_iconst hc dX9_init_204 kc_0 ?_
  refine y_istore_n (L2 := [(1, .int (0 : Int32)), (0, .ref h0)]) hc dX9_init_205 rfl (by decide) rfl ?_
  refine y_iload_n hc dX9_init_206 rfl 0 rfl ?_
  refine y_bipush hc dX9_init_207 kb_8 ?_
  refine y_icmp_ge (tgt := 226) hc dX9_init_209 (by decide) (fun hb => absurd hb (by decide)) (fun _ => ?_)
  refine y_aload_n hc dX9_init_212 rfl 1 rfl ?_
  refine y_get hc dX9_init_213 fl_RX9_19 0 rfl rfl ?_
  refine y_iload_n hc dX9_init_216 rfl 0 rfl ?_
  refine y_bipush hc dX9_init_217 kb_m6 ?_
  refine y_iast hc dX9_init_219 4 rfl (show vp_in (0 : Int32) 8 from inb_in (by decide)) ?_
  refine y_iinc (v := (1 : Int32)) (L2 := [(1, .int (1 : Int32)), (0, .ref h0)]) hc dX9_init_220 0 rfl (by decide) (by decide) rfl ?_
  refine y_goto (tgt := 206) hc dX9_init_223 (by decide) ?_
  refine y_iload_n hc dX9_init_206 rfl 0 rfl ?_
  refine y_bipush hc dX9_init_207 kb_8 ?_
  refine y_icmp_ge (tgt := 226) hc dX9_init_209 (by decide) (fun hb => absurd hb (by decide)) (fun _ => ?_)
  refine y_aload_n hc dX9_init_212 rfl 1 rfl ?_
  refine y_get hc dX9_init_213 fl_RX9_19 0 rfl rfl ?_
  refine y_iload_n hc dX9_init_216 rfl 0 rfl ?_
  refine y_bipush hc dX9_init_217 kb_m6 ?_
  refine y_iast hc dX9_init_219 4 rfl (show vp_in (1 : Int32) 8 from inb_in (by decide)) ?_
  refine y_iinc (v := (2 : Int32)) (L2 := [(1, .int (2 : Int32)), (0, .ref h0)]) hc dX9_init_220 0 rfl (by decide) (by decide) rfl ?_
  refine y_goto (tgt := 206) hc dX9_init_223 (by decide) ?_
  refine y_iload_n hc dX9_init_206 rfl 0 rfl ?_
  refine y_bipush hc dX9_init_207 kb_8 ?_
  refine y_icmp_ge (tgt := 226) hc dX9_init_209 (by decide) (fun hb => absurd hb (by decide)) (fun _ => ?_)
  refine y_aload_n hc dX9_init_212 rfl 1 rfl ?_
  refine y_get hc dX9_init_213 fl_RX9_19 0 rfl rfl ?_
  refine y_iload_n hc dX9_init_216 rfl 0 rfl ?_
  refine y_bipush hc dX9_init_217 kb_m6 ?_
  refine y_iast hc dX9_init_219 4 rfl (show vp_in (2 : Int32) 8 from inb_in (by decide)) ?_
  refine y_iinc (v := (3 : Int32)) (L2 := [(1, .int (3 : Int32)), (0, .ref h0)]) hc dX9_init_220 0 rfl (by decide) (by decide) rfl ?_
  refine y_goto (tgt := 206) hc dX9_init_223 (by decide) ?_
  refine y_iload_n hc dX9_init_206 rfl 0 rfl ?_
  refine y_bipush hc dX9_init_207 kb_8 ?_
  refine y_icmp_ge (tgt := 226) hc dX9_init_209 (by decide) (fun hb => absurd hb (by decide)) (fun _ => ?_)
  refine y_aload_n hc dX9_init_212 rfl 1 rfl ?_
  refine y_get hc dX9_init_213 fl_RX9_19 0 rfl rfl ?_
  refine y_iload_n hc dX9_init_216 rfl 0 rfl ?_
  refine y_bipush hc dX9_init_217 kb_m6 ?_
  refine y_iast hc dX9_init_219 4 rfl (show vp_in (3 : Int32) 8 from inb_in (by decide)) ?_
  refine y_iinc (v := (4 : Int32)) (L2 := [(1, .int (4 : Int32)), (0, .ref h0)]) hc dX9_init_220 0 rfl (by decide) (by decide) rfl ?_
  refine y_goto (tgt := 206) hc dX9_init_223 (by decide) ?_
  refine y_iload_n hc dX9_init_206 rfl 0 rfl ?_
  refine y_bipush hc dX9_init_207 kb_8 ?_
  refine y_icmp_ge (tgt := 226) hc dX9_init_209 (by decide) (fun hb => absurd hb (by decide)) (fun _ => ?_)
  refine y_aload_n hc dX9_init_212 rfl 1 rfl ?_
  refine y_get hc dX9_init_213 fl_RX9_19 0 rfl rfl ?_
  refine y_iload_n hc dX9_init_216 rfl 0 rfl ?_
  refine y_bipush hc dX9_init_217 kb_m6 ?_
  refine y_iast hc dX9_init_219 4 rfl (show vp_in (4 : Int32) 8 from inb_in (by decide)) ?_
  refine y_iinc (v := (5 : Int32)) (L2 := [(1, .int (5 : Int32)), (0, .ref h0)]) hc dX9_init_220 0 rfl (by decide) (by decide) rfl ?_
  refine y_goto (tgt := 206) hc dX9_init_223 (by decide) ?_
  refine y_iload_n hc dX9_init_206 rfl 0 rfl ?_
  refine y_bipush hc dX9_init_207 kb_8 ?_
  refine y_icmp_ge (tgt := 226) hc dX9_init_209 (by decide) (fun hb => absurd hb (by decide)) (fun _ => ?_)
  refine y_aload_n hc dX9_init_212 rfl 1 rfl ?_
  refine y_get hc dX9_init_213 fl_RX9_19 0 rfl rfl ?_
  refine y_iload_n hc dX9_init_216 rfl 0 rfl ?_
  refine y_bipush hc dX9_init_217 kb_m6 ?_
  refine y_iast hc dX9_init_219 4 rfl (show vp_in (5 : Int32) 8 from inb_in (by decide)) ?_
  refine y_iinc (v := (6 : Int32)) (L2 := [(1, .int (6 : Int32)), (0, .ref h0)]) hc dX9_init_220 0 rfl (by decide) (by decide) rfl ?_
  refine y_goto (tgt := 206) hc dX9_init_223 (by decide) ?_
  refine y_iload_n hc dX9_init_206 rfl 0 rfl ?_
  refine y_bipush hc dX9_init_207 kb_8 ?_
  refine y_icmp_ge (tgt := 226) hc dX9_init_209 (by decide) (fun hb => absurd hb (by decide)) (fun _ => ?_)
  refine y_aload_n hc dX9_init_212 rfl 1 rfl ?_
  refine y_get hc dX9_init_213 fl_RX9_19 0 rfl rfl ?_
  refine y_iload_n hc dX9_init_216 rfl 0 rfl ?_
  refine y_bipush hc dX9_init_217 kb_m6 ?_
  refine y_iast hc dX9_init_219 4 rfl (show vp_in (6 : Int32) 8 from inb_in (by decide)) ?_
  refine y_iinc (v := (7 : Int32)) (L2 := [(1, .int (7 : Int32)), (0, .ref h0)]) hc dX9_init_220 0 rfl (by decide) (by decide) rfl ?_
  refine y_goto (tgt := 206) hc dX9_init_223 (by decide) ?_
  refine y_iload_n hc dX9_init_206 rfl 0 rfl ?_
  refine y_bipush hc dX9_init_207 kb_8 ?_
  refine y_icmp_ge (tgt := 226) hc dX9_init_209 (by decide) (fun hb => absurd hb (by decide)) (fun _ => ?_)
  refine y_aload_n hc dX9_init_212 rfl 1 rfl ?_
  refine y_get hc dX9_init_213 fl_RX9_19 0 rfl rfl ?_
  refine y_iload_n hc dX9_init_216 rfl 0 rfl ?_
  refine y_bipush hc dX9_init_217 kb_m6 ?_
  refine y_iast hc dX9_init_219 4 rfl (show vp_in (7 : Int32) 8 from inb_in (by decide)) ?_
  refine y_iinc (v := (8 : Int32)) (L2 := [(1, .int (8 : Int32)), (0, .ref h0)]) hc dX9_init_220 0 rfl (by decide) (by decide) rfl ?_
  refine y_goto (tgt := 206) hc dX9_init_223 (by decide) ?_
  refine y_iload_n hc dX9_init_206 rfl 0 rfl ?_
  refine y_bipush hc dX9_init_207 kb_8 ?_
  refine y_icmp_ge (tgt := 226) hc dX9_init_209 (by decide) (fun _ => ?_) (fun hb => absurd (by decide) hb)
  exact hv _ _ _ _ _ dX9_init_226 ⟨q1, q2, q3, q4, q5, q6, q7, q8, q9, q10, q11, q12, q13, q14, q15, q16, q17, q18, q19, q20, q21, q22, q23, q24, rfl⟩ rfl rfl

