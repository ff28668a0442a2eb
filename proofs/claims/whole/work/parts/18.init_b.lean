set_option maxRecDepth 20000 in
theorem ks_480 : (Int16.ofInt (480)).toInt32 = 480 := by decide
set_option maxRecDepth 20000 in
theorem ks_800 : (Int16.ofInt (800)).toInt32 = 800 := by decide
set_option maxRecDepth 20000 in
theorem ks_600 : (Int16.ofInt (600)).toInt32 = 600 := by decide
set_option maxRecDepth 20000 in
theorem kb_101 : (Int8.ofInt (101)).toInt32 = 101 := by decide
set_option maxRecDepth 20000 in
theorem ol_RX4_3 : Cond.methodLink RX4 3 objectInit ∈ lw_good := q_mem 99 rfl rfl
set_option maxRecDepth 20000 in
theorem oi_inst : Cond.instanceMethod objectInit ∈ lw_good := q_mem 92 rfl rfl
set_option maxRecDepth 20000 in
theorem oi_code : Cond.code objectInit ⟨#[0xb1]⟩ 1 none ∈ lw_good := q_mem 93 rfl rfl
set_option maxRecDepth 20000 in
theorem ac_int : Cond.arrayClass .int ∈ lw_good := q_mem 107 rfl rfl
set_option maxRecDepth 20000 in
theorem ff_4_0 (a : Nat) : FF RX4 4 0 (.ref a) := ⟨_, .array .int, rfl, rfl, rfl, by decide +kernel, rfl, rfl⟩
def rm_X4 : Room := { frames := 2, cells := 1, slots := 100, locals := 80 }
set_option maxRecDepth 100000 in
set_option maxHeartbeats 8000000 in
theorem I_X4 (w : QW) (h0  : Nat) : Ci yX4_init cX4_init 1 rm_X4 w [.ref h0] [(h0, .inr (4, [.null, .int 0]))] (fun u => ∃ (q1 : Nat), u = [(h0, .inr (4, [.ref q1, .int (0 : Int32)])), (q1, .inl (w.2.2.1, 100, .inl (fun _ => 0)))]) := by
  refine y_enter (L := [(0, .ref h0)]) (by decide) rfl (Nat.le_of_ble_eq_true rfl) rfl ?_
  intro C hc hw hin hv
  subst hw
  have hc : OKY C RX4 cX4_init 1 rm_X4 := hc
  refine y_aload_n hc dX4_init_0 rfl 0 rfl ?_
  refine y_objInit (st := []) hc dX4_init_1 ol_RX4_3 oi_inst oi_code (by decide) (by decide) ?_
  refine y_aload_n hc dX4_init_4 rfl 0 rfl ?_
  refine y_bipush hc dX4_init_5 kb_100 ?_
  refine y_newI (N := 100) hc dX4_init_7 ac_int (by decide) (by decide) (by decide) (by decide) (by decide) (fun q1 => ?_)
  refine y_putF hc hin dX4_init_9 fl_RX4_9 (ff_4_0 _) 0 rfl (Nat.le_of_ble_eq_true rfl) ?_
  refine y_ws (ws2 := [(h0, .inr (4, [.ref q1, .int 0])), (q1, .inl ((d_w C).2.2.1, 100, .inl (fun _ => 0)))]) (c2 := 1) (s2 := 100) ?_ rfl rfl rfl
  refine y_aload_n hc dX4_init_12 rfl 0 rfl ?_
  refine y_iconst hc dX4_init_13 kc_0 ?_
  refine y_putI hc dX4_init_14 fl_RX4_15 (fw_4_1 _) 0 rfl (Nat.le_of_ble_eq_true rfl) ?_
  refine y_ws (ws2 := [(h0, .inr (4, [.ref q1, .int (0 : Int32)])), (q1, .inl ((d_w C).2.2.1, 100, .inl (fun _ => 0)))]) (c2 := 1) (s2 := 100) ?_ rfl rfl rfl
  exact hv _ _ _ _ _ dX4_init_17 ⟨q1, rfl⟩ rfl rfl

set_option maxRecDepth 20000 in
theorem ol_RX3_3 : Cond.methodLink RX3 3 objectInit ∈ lw_good := q_mem 113 rfl rfl
set_option maxRecDepth 20000 in
theorem ff_3_0 (v : Int32) : FF RX3 3 0 (.int v) := ⟨_, .int, rfl, rfl, rfl, by decide +kernel, rfl, rfl⟩
set_option maxRecDepth 20000 in
theorem ff_3_1 (a : Nat) : FF RX3 3 1 (.ref a) := ⟨_, .array .int, rfl, rfl, rfl, by decide +kernel, rfl, rfl⟩
set_option maxRecDepth 20000 in
theorem ff_3_2 (a : Nat) : FF RX3 3 2 (.ref a) := ⟨_, .array .int, rfl, rfl, rfl, by decide +kernel, rfl, rfl⟩
set_option maxRecDepth 20000 in
theorem ff_3_3 (a : Nat) : FF RX3 3 3 (.ref a) := ⟨_, .array .int, rfl, rfl, rfl, by decide +kernel, rfl, rfl⟩
set_option maxRecDepth 20000 in
theorem ff_3_4 (a : Nat) : FF RX3 3 4 (.ref a) := ⟨_, .array .int, rfl, rfl, rfl, by decide +kernel, rfl, rfl⟩
def rm_X3_60 : Room := { frames := 2, cells := 4, slots := 608, locals := 80 }
set_option maxRecDepth 100000 in
set_option maxHeartbeats 8000000 in
theorem I_X3_60 (w : QW) (h0  : Nat) : Ci yX3_init cX3_init 2 rm_X3_60 w [.ref h0, .int (60 : Int32)] [(h0, .inr (3, [.int 0, .null, .null, .null, .null, .int 0]))] (fun u => ∃ (q1 q2 q3 q4 : Nat), u = [(h0, .inr (3, [.int (60 : Int32), .ref q1, .ref q2, .ref q3, .ref q4, .int (0 : Int32)])), (q1, .inl (w.2.2.1, 60, .inl (fun _ => 0))), (q2, .inl (w.2.2.1, 60, .inl (fun _ => 0))), (q3, .inl (w.2.2.1, 480, .inl (fun _ => 0))), (q4, .inl (w.2.2.1, 8, .inl (zf_1.1 0)))]) := by
  refine y_enter (L := [(0, .ref h0), (1, .int (60 : Int32))]) (by decide) rfl (Nat.le_of_ble_eq_true rfl) rfl ?_
  intro C hc hw hin hv
  subst hw
  have hc : OKY C RX3 cX3_init 2 rm_X3_60 := hc
  refine y_aload_n hc dX3_init_0 rfl 0 rfl ?_
  refine y_objInit (st := []) hc dX3_init_1 ol_RX3_3 oi_inst oi_code (by decide) (by decide) ?_
  refine y_aload_n hc dX3_init_4 rfl 0 rfl ?_
  refine y_iload_n hc dX3_init_5 rfl 1 rfl ?_
  refine y_if_le (tgt := 13) hc dX3_init_6 (by decide) (fun hb => absurd hb (by decide)) (fun _ => ?_)
  refine y_iload_n hc dX3_init_9 rfl 1 rfl ?_
  refine y_goto (tgt := 14) hc dX3_init_10 (by decide) ?_
  refine y_putF hc hin dX3_init_14 fl_RX3_9 (ff_3_0 _) 0 rfl (Nat.le_of_ble_eq_true rfl) ?_
  refine y_ws (ws2 := [(h0, .inr (3, [.int (60 : Int32), .null, .null, .null, .null, .int 0]))]) (c2 := 0) (s2 := 0) ?_ rfl rfl rfl
  refine y_aload_n hc dX3_init_17 rfl 0 rfl ?_
  refine y_aload_n hc dX3_init_18 rfl 0 rfl ?_
  refine y_get hc dX3_init_19 fl_RX3_9 0 rfl rfl ?_
  refine y_newI (N := 60) hc dX3_init_22 ac_int (by decide) (by decide) (by decide) (by decide) (by decide) (fun q1 => ?_)
  refine y_putF hc hin dX3_init_24 fl_RX3_15 (ff_3_1 _) 0 rfl (Nat.le_of_ble_eq_true rfl) ?_
  refine y_ws (ws2 := [(h0, .inr (3, [.int (60 : Int32), .ref q1, .null, .null, .null, .int 0])), (q1, .inl ((d_w C).2.2.1, 60, .inl (fun _ => 0)))]) (c2 := 1) (s2 := 60) ?_ rfl rfl rfl
  refine y_aload_n hc dX3_init_27 rfl 0 rfl ?_
  refine y_aload_n hc dX3_init_28 rfl 0 rfl ?_
  refine y_get hc dX3_init_29 fl_RX3_9 0 rfl rfl ?_
  refine y_newI (N := 60) hc dX3_init_32 ac_int (by decide) (by decide) (by decide) (by decide) (by decide) (fun q2 => ?_)
  refine y_putF hc hin dX3_init_34 fl_RX3_19 (ff_3_2 _) 0 rfl (Nat.le_of_ble_eq_true rfl) ?_
  refine y_ws (ws2 := [(h0, .inr (3, [.int (60 : Int32), .ref q1, .ref q2, .null, .null, .int 0])), (q1, .inl ((d_w C).2.2.1, 60, .inl (fun _ => 0))), (q2, .inl ((d_w C).2.2.1, 60, .inl (fun _ => 0)))]) (c2 := 2) (s2 := 120) ?_ rfl rfl rfl
  refine y_aload_n hc dX3_init_37 rfl 0 rfl ?_
  refine y_aload_n hc dX3_init_38 rfl 0 rfl ?_
  refine y_get hc dX3_init_39 fl_RX3_9 0 rfl rfl ?_
  refine y_bipush hc dX3_init_42 kb_8 ?_
  refine y_imul hc dX3_init_44 ?_
  refine y_newI (N := 480) hc dX3_init_45 ac_int (by decide) (by decide) (by decide) (by decide) (by decide) (fun q3 => ?_)
  refine y_putF hc hin dX3_init_47 fl_RX3_22 (ff_3_3 _) 0 rfl (Nat.le_of_ble_eq_true rfl) ?_
  refine y_ws (ws2 := [(h0, .inr (3, [.int (60 : Int32), .ref q1, .ref q2, .ref q3, .null, .int 0])), (q1, .inl ((d_w C).2.2.1, 60, .inl (fun _ => 0))), (q2, .inl ((d_w C).2.2.1, 60, .inl (fun _ => 0))), (q3, .inl ((d_w C).2.2.1, 480, .inl (fun _ => 0)))]) (c2 := 3) (s2 := 600) ?_ rfl rfl rfl
  refine y_aload_n hc dX3_init_50 rfl 0 rfl ?_
  refine y_bipush hc dX3_init_51 kb_8 ?_
  refine y_newI (N := 8) hc dX3_init_53 ac_int (by decide) (by decide) (by decide) (by decide) (by decide) (fun q4 => ?_)
  refine y_putF hc hin dX3_init_55 fl_RX3_25 (ff_3_4 _) 0 rfl (Nat.le_of_ble_eq_true rfl) ?_
  refine y_ws (ws2 := [(h0, .inr (3, [.int (60 : Int32), .ref q1, .ref q2, .ref q3, .ref q4, .int 0])), (q1, .inl ((d_w C).2.2.1, 60, .inl (fun _ => 0))), (q2, .inl ((d_w C).2.2.1, 60, .inl (fun _ => 0))), (q3, .inl ((d_w C).2.2.1, 480, .inl (fun _ => 0))), (q4, .inl ((d_w C).2.2.1, 8, .inl (fun _ => 0)))]) (c2 := 4) (s2 := 608) ?_ rfl rfl rfl
  refine y_aload_n hc dX3_init_58 rfl 0 rfl ?_
  refine y_get hc dX3_init_59 fl_RX3_25 0 rfl rfl ?_
  refine y_bipush hc dX3_init_62 kb_m6 ?_
  refine y_callS (As := [.ref 0, .int (-6 : Int32)]) (st := []) (wr := [(h0, .inr (3, [.int (60 : Int32), .ref q1, .ref q2, .ref q3, .ref q4, .int 0])), (q1, .inl ((d_w C).2.2.1, 60, .inl (fun _ => 0))), (q2, .inl ((d_w C).2.2.1, 60, .inl (fun _ => 0))), (q3, .inl ((d_w C).2.2.1, 480, .inl (fun _ => 0)))]) (SH := SHF) (M := zf_0) (M1 := zf_1) hc dX3_init_64 cs_J7_fill_53178 lk_RX3_28 (fun _ => q4) (q_injF _) rfl zf_ok [4] [0, 1, 2, 3] rfl rfl rfl (by decide) (by decide) (by decide) (by decide) (Nat.le_of_ble_eq_true rfl) ?_
  refine y_ws (ws2 := [(h0, .inr (3, [.int (60 : Int32), .ref q1, .ref q2, .ref q3, .ref q4, .int 0])), (q1, .inl ((d_w C).2.2.1, 60, .inl (fun _ => 0))), (q2, .inl ((d_w C).2.2.1, 60, .inl (fun _ => 0))), (q3, .inl ((d_w C).2.2.1, 480, .inl (fun _ => 0))), (q4, .inl ((d_w C).2.2.1, 8, .inl (zf_1.1 0)))]) (c2 := 4) (s2 := 608) ?_ rfl rfl rfl
  refine y_aload_n hc dX3_init_67 rfl 0 rfl ?_
  refine y_iconst hc dX3_init_68 kc_0 ?_
  refine y_putI hc dX3_init_69 fl_RX3_34 (fw_3_5 _) 0 rfl (Nat.le_of_ble_eq_true rfl) ?_
  refine y_ws (ws2 := [(h0, .inr (3, [.int (60 : Int32), .ref q1, .ref q2, .ref q3, .ref q4, .int (0 : Int32)])), (q1, .inl ((d_w C).2.2.1, 60, .inl (fun _ => 0))), (q2, .inl ((d_w C).2.2.1, 60, .inl (fun _ => 0))), (q3, .inl ((d_w C).2.2.1, 480, .inl (fun _ => 0))), (q4, .inl ((d_w C).2.2.1, 8, .inl (zf_1.1 0)))]) (c2 := 4) (s2 := 608) ?_ rfl rfl rfl
  exact hv _ _ _ _ _ dX3_init_72 ⟨q1, q2, q3, q4, rfl⟩ rfl rfl

def rm_X3_100 : Room := { frames := 2, cells := 4, slots := 1008, locals := 80 }
set_option maxRecDepth 100000 in
set_option maxHeartbeats 8000000 in
theorem I_X3_100 (w : QW) (h0  : Nat) : Ci yX3_init cX3_init 2 rm_X3_100 w [.ref h0, .int (100 : Int32)] [(h0, .inr (3, [.int 0, .null, .null, .null, .null, .int 0]))] (fun u => ∃ (q1 q2 q3 q4 : Nat), u = [(h0, .inr (3, [.int (100 : Int32), .ref q1, .ref q2, .ref q3, .ref q4, .int (0 : Int32)])), (q1, .inl (w.2.2.1, 100, .inl (fun _ => 0))), (q2, .inl (w.2.2.1, 100, .inl (fun _ => 0))), (q3, .inl (w.2.2.1, 800, .inl (fun _ => 0))), (q4, .inl (w.2.2.1, 8, .inl (zf_1.1 0)))]) := by
  refine y_enter (L := [(0, .ref h0), (1, .int (100 : Int32))]) (by decide) rfl (Nat.le_of_ble_eq_true rfl) rfl ?_
  intro C hc hw hin hv
  subst hw
  have hc : OKY C RX3 cX3_init 2 rm_X3_100 := hc
  refine y_aload_n hc dX3_init_0 rfl 0 rfl ?_
  refine y_objInit (st := []) hc dX3_init_1 ol_RX3_3 oi_inst oi_code (by decide) (by decide) ?_
  refine y_aload_n hc dX3_init_4 rfl 0 rfl ?_
  refine y_iload_n hc dX3_init_5 rfl 1 rfl ?_
  refine y_if_le (tgt := 13) hc dX3_init_6 (by decide) (fun hb => absurd hb (by decide)) (fun _ => ?_)
  refine y_iload_n hc dX3_init_9 rfl 1 rfl ?_
  refine y_goto (tgt := 14) hc dX3_init_10 (by decide) ?_
  refine y_putF hc hin dX3_init_14 fl_RX3_9 (ff_3_0 _) 0 rfl (Nat.le_of_ble_eq_true rfl) ?_
  refine y_ws (ws2 := [(h0, .inr (3, [.int (100 : Int32), .null, .null, .null, .null, .int 0]))]) (c2 := 0) (s2 := 0) ?_ rfl rfl rfl
  refine y_aload_n hc dX3_init_17 rfl 0 rfl ?_
  refine y_aload_n hc dX3_init_18 rfl 0 rfl ?_
  refine y_get hc dX3_init_19 fl_RX3_9 0 rfl rfl ?_
  refine y_newI (N := 100) hc dX3_init_22 ac_int (by decide) (by decide) (by decide) (by decide) (by decide) (fun q1 => ?_)
  refine y_putF hc hin dX3_init_24 fl_RX3_15 (ff_3_1 _) 0 rfl (Nat.le_of_ble_eq_true rfl) ?_
  refine y_ws (ws2 := [(h0, .inr (3, [.int (100 : Int32), .ref q1, .null, .null, .null, .int 0])), (q1, .inl ((d_w C).2.2.1, 100, .inl (fun _ => 0)))]) (c2 := 1) (s2 := 100) ?_ rfl rfl rfl
  refine y_aload_n hc dX3_init_27 rfl 0 rfl ?_
  refine y_aload_n hc dX3_init_28 rfl 0 rfl ?_
  refine y_get hc dX3_init_29 fl_RX3_9 0 rfl rfl ?_
  refine y_newI (N := 100) hc dX3_init_32 ac_int (by decide) (by decide) (by decide) (by decide) (by decide) (fun q2 => ?_)
  refine y_putF hc hin dX3_init_34 fl_RX3_19 (ff_3_2 _) 0 rfl (Nat.le_of_ble_eq_true rfl) ?_
  refine y_ws (ws2 := [(h0, .inr (3, [.int (100 : Int32), .ref q1, .ref q2, .null, .null, .int 0])), (q1, .inl ((d_w C).2.2.1, 100, .inl (fun _ => 0))), (q2, .inl ((d_w C).2.2.1, 100, .inl (fun _ => 0)))]) (c2 := 2) (s2 := 200) ?_ rfl rfl rfl
  refine y_aload_n hc dX3_init_37 rfl 0 rfl ?_
  refine y_aload_n hc dX3_init_38 rfl 0 rfl ?_
  refine y_get hc dX3_init_39 fl_RX3_9 0 rfl rfl ?_
  refine y_bipush hc dX3_init_42 kb_8 ?_
  refine y_imul hc dX3_init_44 ?_
  refine y_newI (N := 800) hc dX3_init_45 ac_int (by decide) (by decide) (by decide) (by decide) (by decide) (fun q3 => ?_)
  refine y_putF hc hin dX3_init_47 fl_RX3_22 (ff_3_3 _) 0 rfl (Nat.le_of_ble_eq_true rfl) ?_
  refine y_ws (ws2 := [(h0, .inr (3, [.int (100 : Int32), .ref q1, .ref q2, .ref q3, .null, .int 0])), (q1, .inl ((d_w C).2.2.1, 100, .inl (fun _ => 0))), (q2, .inl ((d_w C).2.2.1, 100, .inl (fun _ => 0))), (q3, .inl ((d_w C).2.2.1, 800, .inl (fun _ => 0)))]) (c2 := 3) (s2 := 1000) ?_ rfl rfl rfl
  refine y_aload_n hc dX3_init_50 rfl 0 rfl ?_
  refine y_bipush hc dX3_init_51 kb_8 ?_
  refine y_newI (N := 8) hc dX3_init_53 ac_int (by decide) (by decide) (by decide) (by decide) (by decide) (fun q4 => ?_)
  refine y_putF hc hin dX3_init_55 fl_RX3_25 (ff_3_4 _) 0 rfl (Nat.le_of_ble_eq_true rfl) ?_
  refine y_ws (ws2 := [(h0, .inr (3, [.int (100 : Int32), .ref q1, .ref q2, .ref q3, .ref q4, .int 0])), (q1, .inl ((d_w C).2.2.1, 100, .inl (fun _ => 0))), (q2, .inl ((d_w C).2.2.1, 100, .inl (fun _ => 0))), (q3, .inl ((d_w C).2.2.1, 800, .inl (fun _ => 0))), (q4, .inl ((d_w C).2.2.1, 8, .inl (fun _ => 0)))]) (c2 := 4) (s2 := 1008) ?_ rfl rfl rfl
  refine y_aload_n hc dX3_init_58 rfl 0 rfl ?_
  refine y_get hc dX3_init_59 fl_RX3_25 0 rfl rfl ?_
  refine y_bipush hc dX3_init_62 kb_m6 ?_
  refine y_callS (As := [.ref 0, .int (-6 : Int32)]) (st := []) (wr := [(h0, .inr (3, [.int (100 : Int32), .ref q1, .ref q2, .ref q3, .ref q4, .int 0])), (q1, .inl ((d_w C).2.2.1, 100, .inl (fun _ => 0))), (q2, .inl ((d_w C).2.2.1, 100, .inl (fun _ => 0))), (q3, .inl ((d_w C).2.2.1, 800, .inl (fun _ => 0)))]) (SH := SHF) (M := zf_0) (M1 := zf_1) hc dX3_init_64 cs_J7_fill_53178 lk_RX3_28 (fun _ => q4) (q_injF _) rfl zf_ok [4] [0, 1, 2, 3] rfl rfl rfl (by decide) (by decide) (by decide) (by decide) (Nat.le_of_ble_eq_true rfl) ?_
  refine y_ws (ws2 := [(h0, .inr (3, [.int (100 : Int32), .ref q1, .ref q2, .ref q3, .ref q4, .int 0])), (q1, .inl ((d_w C).2.2.1, 100, .inl (fun _ => 0))), (q2, .inl ((d_w C).2.2.1, 100, .inl (fun _ => 0))), (q3, .inl ((d_w C).2.2.1, 800, .inl (fun _ => 0))), (q4, .inl ((d_w C).2.2.1, 8, .inl (zf_1.1 0)))]) (c2 := 4) (s2 := 1008) ?_ rfl rfl rfl
  refine y_aload_n hc dX3_init_67 rfl 0 rfl ?_
  refine y_iconst hc dX3_init_68 kc_0 ?_
  refine y_putI hc dX3_init_69 fl_RX3_34 (fw_3_5 _) 0 rfl (Nat.le_of_ble_eq_true rfl) ?_
  refine y_ws (ws2 := [(h0, .inr (3, [.int (100 : Int32), .ref q1, .ref q2, .ref q3, .ref q4, .int (0 : Int32)])), (q1, .inl ((d_w C).2.2.1, 100, .inl (fun _ => 0))), (q2, .inl ((d_w C).2.2.1, 100, .inl (fun _ => 0))), (q3, .inl ((d_w C).2.2.1, 800, .inl (fun _ => 0))), (q4, .inl ((d_w C).2.2.1, 8, .inl (zf_1.1 0)))]) (c2 := 4) (s2 := 1008) ?_ rfl rfl rfl
  exact hv _ _ _ _ _ dX3_init_72 ⟨q1, q2, q3, q4, rfl⟩ rfl rfl

set_option maxRecDepth 20000 in
theorem ol_RX6_3 : Cond.methodLink RX6 3 objectInit ∈ lw_good := q_mem 141 rfl rfl
set_option maxRecDepth 20000 in
theorem ff_6_0 (a : Nat) : FF RX6 6 0 (.ref a) := ⟨_, .object "KindNets$Pad", rfl, rfl, rfl, by decide +kernel, rfl, rfl⟩
set_option maxRecDepth 20000 in
theorem cl_RX6_15 : Cond.classLink RX6 15 RX3 ∈ lw_good := q_mem 142 rfl rfl
set_option maxRecDepth 20000 in
theorem it_3 : Cond.instantiable RX3 6 ∈ lw_good := q_mem 109 rfl rfl
set_option maxRecDepth 20000 in
theorem ii_3 : Cond.initialized RX3 ∈ lw_good := q_mem 75 rfl rfl
set_option maxRecDepth 20000 in
theorem df_3 : ∀ j, j < 6 → defaultValue (tyX3 j) = vp_V [.int 0, .null, .null, .null, .null, .int 0] j := by
  intro j hj
  match j, hj with
  | 0, _ => rfl
  | 1, _ => rfl
  | 2, _ => rfl
  | 3, _ => rfl
  | 4, _ => rfl
  | 5, _ => rfl
  | (z + 6), h => omega
set_option maxRecDepth 20000 in
theorem ic_X3 : Cond.code yX3_init cX3_init 2 none ∈ lw_good := q_mem 112 rfl rfl
set_option maxRecDepth 20000 in
theorem im_X3 : Cond.instanceMethod yX3_init ∈ lw_good := q_mem 111 rfl rfl
set_option maxRecDepth 20000 in
theorem lki_RX6_17 : Cond.methodLink RX6 17 yX3_init ∈ lw_good := q_mem 143 rfl rfl
set_option maxRecDepth 20000 in
theorem ff_6_1 (a : Nat) : FF RX6 6 1 (.ref a) := ⟨_, .object "KindNets$Net", rfl, rfl, rfl, by decide +kernel, rfl, rfl⟩
def rm_X6 : Room := { frames := 3, cells := 5, slots := 1014, locals := 120 }
set_option maxRecDepth 100000 in
set_option maxHeartbeats 8000000 in
theorem I_X6 (w : QW) (h0 a1 : Nat) : Ci yX6_init cX6_init 2 rm_X6 w [.ref h0, .ref a1] [(h0, .inr (6, [.null, .null, .int 0, .int 0]))] (fun u => ∃ (q1 q2 q3 q4 q5 : Nat), u = [(h0, .inr (6, [.ref a1, .ref q1, .int (0 : Int32), .int (0 : Int32)])), (q1, .inr (3, [.int (100 : Int32), .ref q2, .ref q3, .ref q4, .ref q5, .int (0 : Int32)])), (q2, .inl (w.2.2.1, 100, .inl (fun _ => 0))), (q3, .inl (w.2.2.1, 100, .inl (fun _ => 0))), (q4, .inl (w.2.2.1, 800, .inl (fun _ => 0))), (q5, .inl (w.2.2.1, 8, .inl (zf_1.1 0)))]) := by
  refine y_enter (L := [(0, .ref h0), (1, .ref a1)]) (by decide) rfl (Nat.le_of_ble_eq_true rfl) rfl ?_
  intro C hc hw hin hv
  subst hw
  have hc : OKY C RX6 cX6_init 2 rm_X6 := hc
  refine y_aload_n hc dX6_init_0 rfl 0 rfl ?_
  refine y_objInit (st := []) hc dX6_init_1 ol_RX6_3 oi_inst oi_code (by decide) (by decide) ?_
  refine y_aload_n hc dX6_init_4 rfl 0 rfl ?_
  refine y_aload_n hc dX6_init_5 rfl 1 rfl ?_
  refine y_putF hc hin dX6_init_6 fl_RX6_9 (ff_6_0 _) 0 rfl (Nat.le_of_ble_eq_true rfl) ?_
  refine y_ws (ws2 := [(h0, .inr (6, [.ref a1, .null, .int 0, .int 0]))]) (c2 := 0) (s2 := 0) ?_ rfl rfl rfl
  refine y_aload_n hc dX6_init_9 rfl 0 rfl ?_
  refine y_new (ci := 3) (N := 6) (Cn := RX3) (T := TX3) (ty := tyX3) (fs := [.int 0, .null, .null, .null, .null, .int 0]) hc dX6_init_10 cl_RX6_15 it_3 ii_3 rfl tyX3_ok df_3 (by decide) (by decide) (fun q1 => ?_)
  refine y_dup hc dX6_init_13 rfl ?_
  refine y_bipush hc dX6_init_14 kb_100 ?_
  refine y_init (n := 1) (As := [.int (100 : Int32)]) (st := [.ref q1, .ref h0]) (wr := [(h0, .inr (6, [.ref a1, .null, .int 0, .int 0]))]) hc dX6_init_16 ic_X3 ii_3 im_X3 lki_RX6_17 rfl (by decide +kernel) rfl 1 [0] rfl rfl (by decide) (by decide) (I_X3_100 (d_w C) q1 ) (by decide) (by decide) (Nat.le_of_ble_eq_true rfl) (fun u hu => ?_)
  obtain ⟨q2, q3, q4, q5, rfl⟩ := hu
  refine y_ws (ws2 := [(h0, .inr (6, [.ref a1, .null, .int 0, .int 0])), (q1, .inr (3, [.int (100 : Int32), .ref q2, .ref q3, .ref q4, .ref q5, .int (0 : Int32)])), (q2, .inl ((d_w C).2.2.1, 100, .inl (fun _ => 0))), (q3, .inl ((d_w C).2.2.1, 100, .inl (fun _ => 0))), (q4, .inl ((d_w C).2.2.1, 800, .inl (fun _ => 0))), (q5, .inl ((d_w C).2.2.1, 8, .inl (zf_1.1 0)))]) (c2 := 5) (s2 := 1014) ?_ rfl rfl rfl
  refine y_putF hc hin dX6_init_19 fl_RX6_20 (ff_6_1 _) 0 rfl (Nat.le_of_ble_eq_true rfl) ?_
  refine y_ws (ws2 := [(h0, .inr (6, [.ref a1, .ref q1, .int 0, .int 0])), (q1, .inr (3, [.int (100 : Int32), .ref q2, .ref q3, .ref q4, .ref q5, .int (0 : Int32)])), (q2, .inl ((d_w C).2.2.1, 100, .inl (fun _ => 0))), (q3, .inl ((d_w C).2.2.1, 100, .inl (fun _ => 0))), (q4, .inl ((d_w C).2.2.1, 800, .inl (fun _ => 0))), (q5, .inl ((d_w C).2.2.1, 8, .inl (zf_1.1 0)))]) (c2 := 5) (s2 := 1014) ?_ rfl rfl rfl
  refine y_aload_n hc dX6_init_22 rfl 0 rfl ?_
  refine y_iconst hc dX6_init_23 kc_0 ?_
  refine y_putI hc dX6_init_24 fl_RX6_24 (fw_6_2 _) 0 rfl (Nat.le_of_ble_eq_true rfl) ?_
  refine y_ws (ws2 := [(h0, .inr (6, [.ref a1, .ref q1, .int (0 : Int32), .int 0])), (q1, .inr (3, [.int (100 : Int32), .ref q2, .ref q3, .ref q4, .ref q5, .int (0 : Int32)])), (q2, .inl ((d_w C).2.2.1, 100, .inl (fun _ => 0))), (q3, .inl ((d_w C).2.2.1, 100, .inl (fun _ => 0))), (q4, .inl ((d_w C).2.2.1, 800, .inl (fun _ => 0))), (q5, .inl ((d_w C).2.2.1, 8, .inl (zf_1.1 0)))]) (c2 := 5) (s2 := 1014) ?_ rfl rfl rfl
  refine y_aload_n hc dX6_init_27 rfl 0 rfl ?_
  refine y_iconst hc dX6_init_28 kc_0 ?_
  refine y_putI hc dX6_init_29 fl_RX6_28 (fw_6_3 _ (Or.inl rfl)) 0 rfl (Nat.le_of_ble_eq_true rfl) ?_
  refine y_ws (ws2 := [(h0, .inr (6, [.ref a1, .ref q1, .int (0 : Int32), .int (0 : Int32)])), (q1, .inr (3, [.int (100 : Int32), .ref q2, .ref q3, .ref q4, .ref q5, .int (0 : Int32)])), (q2, .inl ((d_w C).2.2.1, 100, .inl (fun _ => 0))), (q3, .inl ((d_w C).2.2.1, 100, .inl (fun _ => 0))), (q4, .inl ((d_w C).2.2.1, 800, .inl (fun _ => 0))), (q5, .inl ((d_w C).2.2.1, 8, .inl (zf_1.1 0)))]) (c2 := 5) (s2 := 1014) ?_ rfl rfl rfl
  exact hv _ _ _ _ _ dX6_init_32 ⟨q1, q2, q3, q4, q5, rfl⟩ rfl rfl

set_option maxRecDepth 20000 in
theorem ol_RX5_3 : Cond.methodLink RX5 3 objectInit ∈ lw_good := q_mem 162 rfl rfl
set_option maxRecDepth 20000 in
theorem ff_5_0 (a : Nat) : FF RX5 5 0 (.ref a) := ⟨_, .object "KindNets$Net", rfl, rfl, rfl, by decide +kernel, rfl, rfl⟩
set_option maxRecDepth 20000 in
theorem ff_5_1 (a : Nat) : FF RX5 5 1 (.ref a) := ⟨_, .array .int, rfl, rfl, rfl, by decide +kernel, rfl, rfl⟩
set_option maxRecDepth 20000 in
theorem ff_5_2 (a : Nat) : FF RX5 5 2 (.ref a) := ⟨_, .array .int, rfl, rfl, rfl, by decide +kernel, rfl, rfl⟩
set_option maxRecDepth 20000 in
theorem ff_5_3 (a : Nat) : FF RX5 5 3 (.ref a) := ⟨_, .array .int, rfl, rfl, rfl, by decide +kernel, rfl, rfl⟩
def rm_X5 : Room := { frames := 2, cells := 3, slots := 3720, locals := 80 }
set_option maxRecDepth 100000 in
set_option maxHeartbeats 8000000 in
theorem I_X5 (w : QW) (h0 a1 : Nat) : Ci yX5_init cX5_init 2 rm_X5 w [.ref h0, .ref a1] [(h0, .inr (5, [.null, .null, .null, .null, .int 0, .int 0]))] (fun u => ∃ (q1 q2 q3 : Nat), u = [(h0, .inr (5, [.ref a1, .ref q1, .ref q2, .ref q3, .int (0 : Int32), .int (0 : Int32)])), (q1, .inl (w.2.2.1, 3600, .inl (fun _ => 0))), (q2, .inl (w.2.2.1, 60, .inl (fun _ => 0))), (q3, .inl (w.2.2.1, 60, .inl (fun _ => 0)))]) := by
  refine y_enter (L := [(0, .ref h0), (1, .ref a1)]) (by decide) rfl (Nat.le_of_ble_eq_true rfl) rfl ?_
  intro C hc hw hin hv
  subst hw
  have hc : OKY C RX5 cX5_init 2 rm_X5 := hc
  refine y_aload_n hc dX5_init_0 rfl 0 rfl ?_
  refine y_objInit (st := []) hc dX5_init_1 ol_RX5_3 oi_inst oi_code (by decide) (by decide) ?_
  refine y_aload_n hc dX5_init_4 rfl 0 rfl ?_
  refine y_aload_n hc dX5_init_5 rfl 1 rfl ?_
  refine y_putF hc hin dX5_init_6 fl_RX5_9 (ff_5_0 _) 0 rfl (Nat.le_of_ble_eq_true rfl) ?_
  refine y_ws (ws2 := [(h0, .inr (5, [.ref a1, .null, .null, .null, .int 0, .int 0]))]) (c2 := 0) (s2 := 0) ?_ rfl rfl rfl
  refine y_aload_n hc dX5_init_9 rfl 0 rfl ?_
  refine y_sipush hc dX5_init_10 ks_3600 ?_
  refine y_newI (N := 3600) hc dX5_init_13 ac_int (by decide) (by decide) (by decide) (by decide) (by decide) (fun q1 => ?_)
  refine y_putF hc hin dX5_init_15 fl_RX5_15 (ff_5_1 _) 0 rfl (Nat.le_of_ble_eq_true rfl) ?_
  refine y_ws (ws2 := [(h0, .inr (5, [.ref a1, .ref q1, .null, .null, .int 0, .int 0])), (q1, .inl ((d_w C).2.2.1, 3600, .inl (fun _ => 0)))]) (c2 := 1) (s2 := 3600) ?_ rfl rfl rfl
  refine y_aload_n hc dX5_init_18 rfl 0 rfl ?_
  refine y_bipush hc dX5_init_19 kb_60 ?_
  refine y_newI (N := 60) hc dX5_init_21 ac_int (by decide) (by decide) (by decide) (by decide) (by decide) (fun q2 => ?_)
  refine y_putF hc hin dX5_init_23 fl_RX5_19 (ff_5_2 _) 0 rfl (Nat.le_of_ble_eq_true rfl) ?_
  refine y_ws (ws2 := [(h0, .inr (5, [.ref a1, .ref q1, .ref q2, .null, .int 0, .int 0])), (q1, .inl ((d_w C).2.2.1, 3600, .inl (fun _ => 0))), (q2, .inl ((d_w C).2.2.1, 60, .inl (fun _ => 0)))]) (c2 := 2) (s2 := 3660) ?_ rfl rfl rfl
  refine y_aload_n hc dX5_init_26 rfl 0 rfl ?_
  refine y_bipush hc dX5_init_27 kb_60 ?_
  refine y_newI (N := 60) hc dX5_init_29 ac_int (by decide) (by decide) (by decide) (by decide) (by decide) (fun q3 => ?_)
  refine y_putF hc hin dX5_init_31 fl_RX5_22 (ff_5_3 _) 0 rfl (Nat.le_of_ble_eq_true rfl) ?_
  refine y_ws (ws2 := [(h0, .inr (5, [.ref a1, .ref q1, .ref q2, .ref q3, .int 0, .int 0])), (q1, .inl ((d_w C).2.2.1, 3600, .inl (fun _ => 0))), (q2, .inl ((d_w C).2.2.1, 60, .inl (fun _ => 0))), (q3, .inl ((d_w C).2.2.1, 60, .inl (fun _ => 0)))]) (c2 := 3) (s2 := 3720) ?_ rfl rfl rfl
  refine y_aload_n hc dX5_init_34 rfl 0 rfl ?_
  refine y_iconst hc dX5_init_35 kc_0 ?_
  refine y_putI hc dX5_init_36 fl_RX5_25 (fw_5_4 _) 0 rfl (Nat.le_of_ble_eq_true rfl) ?_
  refine y_ws (ws2 := [(h0, .inr (5, [.ref a1, .ref q1, .ref q2, .ref q3, .int (0 : Int32), .int 0])), (q1, .inl ((d_w C).2.2.1, 3600, .inl (fun _ => 0))), (q2, .inl ((d_w C).2.2.1, 60, .inl (fun _ => 0))), (q3, .inl ((d_w C).2.2.1, 60, .inl (fun _ => 0)))]) (c2 := 3) (s2 := 3720) ?_ rfl rfl rfl
  refine y_aload_n hc dX5_init_39 rfl 0 rfl ?_
  refine y_iconst hc dX5_init_40 kc_0 ?_
  refine y_putI hc dX5_init_41 fl_RX5_29 (fw_5_5 _) 0 rfl (Nat.le_of_ble_eq_true rfl) ?_
  refine y_ws (ws2 := [(h0, .inr (5, [.ref a1, .ref q1, .ref q2, .ref q3, .int (0 : Int32), .int (0 : Int32)])), (q1, .inl ((d_w C).2.2.1, 3600, .inl (fun _ => 0))), (q2, .inl ((d_w C).2.2.1, 60, .inl (fun _ => 0))), (q3, .inl ((d_w C).2.2.1, 60, .inl (fun _ => 0)))]) (c2 := 3) (s2 := 3720) ?_ rfl rfl rfl
  exact hv _ _ _ _ _ dX5_init_44 ⟨q1, q2, q3, rfl⟩ rfl rfl

set_option maxRecDepth 20000 in
theorem ol_RX1_3 : Cond.methodLink RX1 3 objectInit ∈ lw_good := q_mem 187 rfl rfl
set_option maxRecDepth 20000 in
theorem ff_1_0 (a : Nat) : FF RX1 1 0 (.ref a) := ⟨_, .object "KindNets$Net", rfl, rfl, rfl, by decide +kernel, rfl, rfl⟩
set_option maxRecDepth 20000 in
theorem ff_1_1 (a : Nat) : FF RX1 1 1 (.ref a) := ⟨_, .object "KindNets$Standing", rfl, rfl, rfl, by decide +kernel, rfl, rfl⟩
set_option maxRecDepth 20000 in
theorem ff_1_2 (a : Nat) : FF RX1 1 2 (.ref a) := ⟨_, .array .int, rfl, rfl, rfl, by decide +kernel, rfl, rfl⟩
set_option maxRecDepth 20000 in
theorem ff_1_3 (a : Nat) : FF RX1 1 3 (.ref a) := ⟨_, .array .int, rfl, rfl, rfl, by decide +kernel, rfl, rfl⟩
set_option maxRecDepth 20000 in
theorem ff_1_4 (a : Nat) : FF RX1 1 4 (.ref a) := ⟨_, .array .int, rfl, rfl, rfl, by decide +kernel, rfl, rfl⟩
set_option maxRecDepth 20000 in
theorem ff_1_5 (a : Nat) : FF RX1 1 5 (.ref a) := ⟨_, .array .int, rfl, rfl, rfl, by decide +kernel, rfl, rfl⟩
set_option maxRecDepth 20000 in
theorem ff_1_6 (a : Nat) : FF RX1 1 6 (.ref a) := ⟨_, .array .int, rfl, rfl, rfl, by decide +kernel, rfl, rfl⟩
def rm_X1 : Room := { frames := 2, cells := 5, slots := 300, locals := 80 }
set_option maxRecDepth 100000 in
set_option maxHeartbeats 8000000 in
theorem I_X1 (w : QW) (h0 a1 a2 : Nat) : Ci yX1_init cX1_init 3 rm_X1 w [.ref h0, .ref a1, .ref a2] [(h0, .inr (1, [.null, .null, .null, .null, .null, .null, .null, .int 0, .int 0, .int 0]))] (fun u => ∃ (q1 q2 q3 q4 q5 : Nat), u = [(h0, .inr (1, [.ref a1, .ref a2, .ref q1, .ref q2, .ref q3, .ref q4, .ref q5, .int (0 : Int32), .int (0 : Int32), .int (0 : Int32)])), (q1, .inl (w.2.2.1, 60, .inl (fun _ => 0))), (q2, .inl (w.2.2.1, 60, .inl (fun _ => 0))), (q3, .inl (w.2.2.1, 60, .inl (fun _ => 0))), (q4, .inl (w.2.2.1, 60, .inl (fun _ => 0))), (q5, .inl (w.2.2.1, 60, .inl (fun _ => 0)))]) := by
  refine y_enter (L := [(0, .ref h0), (1, .ref a1), (2, .ref a2)]) (by decide) rfl (Nat.le_of_ble_eq_true rfl) rfl ?_
  intro C hc hw hin hv
  subst hw
  have hc : OKY C RX1 cX1_init 3 rm_X1 := hc
  refine y_aload_n hc dX1_init_0 rfl 0 rfl ?_
  refine y_objInit (st := []) hc dX1_init_1 ol_RX1_3 oi_inst oi_code (by decide) (by decide) ?_
  refine y_aload_n hc dX1_init_4 rfl 0 rfl ?_
  refine y_aload_n hc dX1_init_5 rfl 1 rfl ?_
  refine y_putF hc hin dX1_init_6 fl_RX1_9 (ff_1_0 _) 0 rfl (Nat.le_of_ble_eq_true rfl) ?_
  refine y_ws (ws2 := [(h0, .inr (1, [.ref a1, .null, .null, .null, .null, .null, .null, .int 0, .int 0, .int 0]))]) (c2 := 0) (s2 := 0) ?_ rfl rfl rfl
  refine y_aload_n hc dX1_init_9 rfl 0 rfl ?_
  refine y_aload_n hc dX1_init_10 rfl 2 rfl ?_
  refine y_putF hc hin dX1_init_11 fl_RX1_15 (ff_1_1 _) 0 rfl (Nat.le_of_ble_eq_true rfl) ?_
  refine y_ws (ws2 := [(h0, .inr (1, [.ref a1, .ref a2, .null, .null, .null, .null, .null, .int 0, .int 0, .int 0]))]) (c2 := 0) (s2 := 0) ?_ rfl rfl rfl
  refine y_aload_n hc dX1_init_14 rfl 0 rfl ?_
  refine y_bipush hc dX1_init_15 kb_60 ?_
  refine y_newI (N := 60) hc dX1_init_17 ac_int (by decide) (by decide) (by decide) (by decide) (by decide) (fun q1 => ?_)
  refine y_putF hc hin dX1_init_19 fl_RX1_19 (ff_1_2 _) 0 rfl (Nat.le_of_ble_eq_true rfl) ?_
  refine y_ws (ws2 := [(h0, .inr (1, [.ref a1, .ref a2, .ref q1, .null, .null, .null, .null, .int 0, .int 0, .int 0])), (q1, .inl ((d_w C).2.2.1, 60, .inl (fun _ => 0)))]) (c2 := 1) (s2 := 60) ?_ rfl rfl rfl
  refine y_aload_n hc dX1_init_22 rfl 0 rfl ?_
  refine y_bipush hc dX1_init_23 kb_60 ?_
  refine y_newI (N := 60) hc dX1_init_25 ac_int (by decide) (by decide) (by decide) (by decide) (by decide) (fun q2 => ?_)
  refine y_putF hc hin dX1_init_27 fl_RX1_23 (ff_1_3 _) 0 rfl (Nat.le_of_ble_eq_true rfl) ?_
  refine y_ws (ws2 := [(h0, .inr (1, [.ref a1, .ref a2, .ref q1, .ref q2, .null, .null, .null, .int 0, .int 0, .int 0])), (q1, .inl ((d_w C).2.2.1, 60, .inl (fun _ => 0))), (q2, .inl ((d_w C).2.2.1, 60, .inl (fun _ => 0)))]) (c2 := 2) (s2 := 120) ?_ rfl rfl rfl
  refine y_aload_n hc dX1_init_30 rfl 0 rfl ?_
  refine y_bipush hc dX1_init_31 kb_60 ?_
  refine y_newI (N := 60) hc dX1_init_33 ac_int (by decide) (by decide) (by decide) (by decide) (by decide) (fun q3 => ?_)
  refine y_putF hc hin dX1_init_35 fl_RX1_26 (ff_1_4 _) 0 rfl (Nat.le_of_ble_eq_true rfl) ?_
  refine y_ws (ws2 := [(h0, .inr (1, [.ref a1, .ref a2, .ref q1, .ref q2, .ref q3, .null, .null, .int 0, .int 0, .int 0])), (q1, .inl ((d_w C).2.2.1, 60, .inl (fun _ => 0))), (q2, .inl ((d_w C).2.2.1, 60, .inl (fun _ => 0))), (q3, .inl ((d_w C).2.2.1, 60, .inl (fun _ => 0)))]) (c2 := 3) (s2 := 180) ?_ rfl rfl rfl
  refine y_aload_n hc dX1_init_38 rfl 0 rfl ?_
  refine y_bipush hc dX1_init_39 kb_60 ?_
  refine y_newI (N := 60) hc dX1_init_41 ac_int (by decide) (by decide) (by decide) (by decide) (by decide) (fun q4 => ?_)
  refine y_putF hc hin dX1_init_43 fl_RX1_29 (ff_1_5 _) 0 rfl (Nat.le_of_ble_eq_true rfl) ?_
  refine y_ws (ws2 := [(h0, .inr (1, [.ref a1, .ref a2, .ref q1, .ref q2, .ref q3, .ref q4, .null, .int 0, .int 0, .int 0])), (q1, .inl ((d_w C).2.2.1, 60, .inl (fun _ => 0))), (q2, .inl ((d_w C).2.2.1, 60, .inl (fun _ => 0))), (q3, .inl ((d_w C).2.2.1, 60, .inl (fun _ => 0))), (q4, .inl ((d_w C).2.2.1, 60, .inl (fun _ => 0)))]) (c2 := 4) (s2 := 240) ?_ rfl rfl rfl
  refine y_aload_n hc dX1_init_46 rfl 0 rfl ?_
  refine y_bipush hc dX1_init_47 kb_60 ?_
  refine y_newI (N := 60) hc dX1_init_49 ac_int (by decide) (by decide) (by decide) (by decide) (by decide) (fun q5 => ?_)
  refine y_putF hc hin dX1_init_51 fl_RX1_32 (ff_1_6 _) 0 rfl (Nat.le_of_ble_eq_true rfl) ?_
  refine y_ws (ws2 := [(h0, .inr (1, [.ref a1, .ref a2, .ref q1, .ref q2, .ref q3, .ref q4, .ref q5, .int 0, .int 0, .int 0])), (q1, .inl ((d_w C).2.2.1, 60, .inl (fun _ => 0))), (q2, .inl ((d_w C).2.2.1, 60, .inl (fun _ => 0))), (q3, .inl ((d_w C).2.2.1, 60, .inl (fun _ => 0))), (q4, .inl ((d_w C).2.2.1, 60, .inl (fun _ => 0))), (q5, .inl ((d_w C).2.2.1, 60, .inl (fun _ => 0)))]) (c2 := 5) (s2 := 300) ?_ rfl rfl rfl
  refine y_aload_n hc dX1_init_54 rfl 0 rfl ?_
  refine y_iconst hc dX1_init_55 kc_0 ?_
  refine y_putI hc dX1_init_56 fl_RX1_35 (fw_1_7 _) 0 rfl (Nat.le_of_ble_eq_true rfl) ?_
  refine y_ws (ws2 := [(h0, .inr (1, [.ref a1, .ref a2, .ref q1, .ref q2, .ref q3, .ref q4, .ref q5, .int (0 : Int32), .int 0, .int 0])), (q1, .inl ((d_w C).2.2.1, 60, .inl (fun _ => 0))), (q2, .inl ((d_w C).2.2.1, 60, .inl (fun _ => 0))), (q3, .inl ((d_w C).2.2.1, 60, .inl (fun _ => 0))), (q4, .inl ((d_w C).2.2.1, 60, .inl (fun _ => 0))), (q5, .inl ((d_w C).2.2.1, 60, .inl (fun _ => 0)))]) (c2 := 5) (s2 := 300) ?_ rfl rfl rfl
  refine y_aload_n hc dX1_init_59 rfl 0 rfl ?_
  refine y_iconst hc dX1_init_60 kc_0 ?_
  refine y_putI hc dX1_init_61 fl_RX1_39 (fw_1_8 _) 0 rfl (Nat.le_of_ble_eq_true rfl) ?_
  refine y_ws (ws2 := [(h0, .inr (1, [.ref a1, .ref a2, .ref q1, .ref q2, .ref q3, .ref q4, .ref q5, .int (0 : Int32), .int (0 : Int32), .int 0])), (q1, .inl ((d_w C).2.2.1, 60, .inl (fun _ => 0))), (q2, .inl ((d_w C).2.2.1, 60, .inl (fun _ => 0))), (q3, .inl ((d_w C).2.2.1, 60, .inl (fun _ => 0))), (q4, .inl ((d_w C).2.2.1, 60, .inl (fun _ => 0))), (q5, .inl ((d_w C).2.2.1, 60, .inl (fun _ => 0)))]) (c2 := 5) (s2 := 300) ?_ rfl rfl rfl
  refine y_aload_n hc dX1_init_64 rfl 0 rfl ?_
  refine y_iconst hc dX1_init_65 kc_0 ?_
  refine y_putI hc dX1_init_66 fl_RX1_42 (fw_1_9 _ (Or.inl rfl)) 0 rfl (Nat.le_of_ble_eq_true rfl) ?_
  refine y_ws (ws2 := [(h0, .inr (1, [.ref a1, .ref a2, .ref q1, .ref q2, .ref q3, .ref q4, .ref q5, .int (0 : Int32), .int (0 : Int32), .int (0 : Int32)])), (q1, .inl ((d_w C).2.2.1, 60, .inl (fun _ => 0))), (q2, .inl ((d_w C).2.2.1, 60, .inl (fun _ => 0))), (q3, .inl ((d_w C).2.2.1, 60, .inl (fun _ => 0))), (q4, .inl ((d_w C).2.2.1, 60, .inl (fun _ => 0))), (q5, .inl ((d_w C).2.2.1, 60, .inl (fun _ => 0)))]) (c2 := 5) (s2 := 300) ?_ rfl rfl rfl
  exact hv _ _ _ _ _ dX1_init_69 ⟨q1, q2, q3, q4, q5, rfl⟩ rfl rfl

set_option maxRecDepth 20000 in
theorem ol_RX7_3 : Cond.methodLink RX7 3 objectInit ∈ lw_good := q_mem 224 rfl rfl
set_option maxRecDepth 20000 in
theorem ff_7_0 (a : Nat) : FF RX7 7 0 (.ref a) := ⟨_, .object "KindNets$Pad", rfl, rfl, rfl, by decide +kernel, rfl, rfl⟩
set_option maxRecDepth 20000 in
theorem ff_7_1 (a : Nat) : FF RX7 7 1 (.ref a) := ⟨_, .object "KindNets$Net", rfl, rfl, rfl, by decide +kernel, rfl, rfl⟩
set_option maxRecDepth 20000 in
theorem ff_7_2 (a : Nat) : FF RX7 7 2 (.ref a) := ⟨_, .array .int, rfl, rfl, rfl, by decide +kernel, rfl, rfl⟩
set_option maxRecDepth 20000 in
theorem ff_7_3 (a : Nat) : FF RX7 7 3 (.ref a) := ⟨_, .array .int, rfl, rfl, rfl, by decide +kernel, rfl, rfl⟩
set_option maxRecDepth 20000 in
theorem ff_7_4 (a : Nat) : FF RX7 7 4 (.ref a) := ⟨_, .array .int, rfl, rfl, rfl, by decide +kernel, rfl, rfl⟩
def rm_X7 : Room := { frames := 2, cells := 3, slots := 300, locals := 80 }
set_option maxRecDepth 100000 in
set_option maxHeartbeats 8000000 in
theorem I_X7 (w : QW) (h0 a1 a2 : Nat) : Ci yX7_init cX7_init 3 rm_X7 w [.ref h0, .ref a1, .ref a2] [(h0, .inr (7, [.null, .null, .null, .null, .null, .int 0, .int 0, .int 0, .int 0, .int 0]))] (fun u => ∃ (q1 q2 q3 : Nat), u = [(h0, .inr (7, [.ref a1, .ref a2, .ref q1, .ref q2, .ref q3, .int (0 : Int32), .int (0 : Int32), .int (-7 : Int32), .int (0 : Int32), .int (-6 : Int32)])), (q1, .inl (w.2.2.1, 100, .inl (fun _ => 0))), (q2, .inl (w.2.2.1, 100, .inl (fun _ => 0))), (q3, .inl (w.2.2.1, 100, .inl (fun _ => 0)))]) := by
  refine y_enter (L := [(0, .ref h0), (1, .ref a1), (2, .ref a2)]) (by decide) rfl (Nat.le_of_ble_eq_true rfl) rfl ?_
  intro C hc hw hin hv
  subst hw
  have hc : OKY C RX7 cX7_init 3 rm_X7 := hc
  refine y_aload_n hc dX7_init_0 rfl 0 rfl ?_
  refine y_objInit (st := []) hc dX7_init_1 ol_RX7_3 oi_inst oi_code (by decide) (by decide) ?_
  refine y_aload_n hc dX7_init_4 rfl 0 rfl ?_
  refine y_aload_n hc dX7_init_5 rfl 1 rfl ?_
  refine y_putF hc hin dX7_init_6 fl_RX7_9 (ff_7_0 _) 0 rfl (Nat.le_of_ble_eq_true rfl) ?_
  refine y_ws (ws2 := [(h0, .inr (7, [.ref a1, .null, .null, .null, .null, .int 0, .int 0, .int 0, .int 0, .int 0]))]) (c2 := 0) (s2 := 0) ?_ rfl rfl rfl
  refine y_aload_n hc dX7_init_9 rfl 0 rfl ?_
  refine y_aload_n hc dX7_init_10 rfl 2 rfl ?_
  refine y_putF hc hin dX7_init_11 fl_RX7_15 (ff_7_1 _) 0 rfl (Nat.le_of_ble_eq_true rfl) ?_
  refine y_ws (ws2 := [(h0, .inr (7, [.ref a1, .ref a2, .null, .null, .null, .int 0, .int 0, .int 0, .int 0, .int 0]))]) (c2 := 0) (s2 := 0) ?_ rfl rfl rfl
  refine y_aload_n hc dX7_init_14 rfl 0 rfl ?_
  refine y_bipush hc dX7_init_15 kb_100 ?_
  refine y_newI (N := 100) hc dX7_init_17 ac_int (by decide) (by decide) (by decide) (by decide) (by decide) (fun q1 => ?_)
  refine y_putF hc hin dX7_init_19 fl_RX7_19 (ff_7_2 _) 0 rfl (Nat.le_of_ble_eq_true rfl) ?_
  refine y_ws (ws2 := [(h0, .inr (7, [.ref a1, .ref a2, .ref q1, .null, .null, .int 0, .int 0, .int 0, .int 0, .int 0])), (q1, .inl ((d_w C).2.2.1, 100, .inl (fun _ => 0)))]) (c2 := 1) (s2 := 100) ?_ rfl rfl rfl
  refine y_aload_n hc dX7_init_22 rfl 0 rfl ?_
  refine y_bipush hc dX7_init_23 kb_100 ?_
  refine y_newI (N := 100) hc dX7_init_25 ac_int (by decide) (by decide) (by decide) (by decide) (by decide) (fun q2 => ?_)
  refine y_putF hc hin dX7_init_27 fl_RX7_23 (ff_7_3 _) 0 rfl (Nat.le_of_ble_eq_true rfl) ?_
  refine y_ws (ws2 := [(h0, .inr (7, [.ref a1, .ref a2, .ref q1, .ref q2, .null, .int 0, .int 0, .int 0, .int 0, .int 0])), (q1, .inl ((d_w C).2.2.1, 100, .inl (fun _ => 0))), (q2, .inl ((d_w C).2.2.1, 100, .inl (fun _ => 0)))]) (c2 := 2) (s2 := 200) ?_ rfl rfl rfl
  refine y_aload_n hc dX7_init_30 rfl 0 rfl ?_
  refine y_bipush hc dX7_init_31 kb_100 ?_
  refine y_newI (N := 100) hc dX7_init_33 ac_int (by decide) (by decide) (by decide) (by decide) (by decide) (fun q3 => ?_)
  refine y_putF hc hin dX7_init_35 fl_RX7_26 (ff_7_4 _) 0 rfl (Nat.le_of_ble_eq_true rfl) ?_
  refine y_ws (ws2 := [(h0, .inr (7, [.ref a1, .ref a2, .ref q1, .ref q2, .ref q3, .int 0, .int 0, .int 0, .int 0, .int 0])), (q1, .inl ((d_w C).2.2.1, 100, .inl (fun _ => 0))), (q2, .inl ((d_w C).2.2.1, 100, .inl (fun _ => 0))), (q3, .inl ((d_w C).2.2.1, 100, .inl (fun _ => 0)))]) (c2 := 3) (s2 := 300) ?_ rfl rfl rfl
  refine y_aload_n hc dX7_init_38 rfl 0 rfl ?_
  refine y_iconst hc dX7_init_39 kc_0 ?_
  refine y_putI hc dX7_init_40 fl_RX7_29 (fw_7_5 _) 0 rfl (Nat.le_of_ble_eq_true rfl) ?_
  refine y_ws (ws2 := [(h0, .inr (7, [.ref a1, .ref a2, .ref q1, .ref q2, .ref q3, .int (0 : Int32), .int 0, .int 0, .int 0, .int 0])), (q1, .inl ((d_w C).2.2.1, 100, .inl (fun _ => 0))), (q2, .inl ((d_w C).2.2.1, 100, .inl (fun _ => 0))), (q3, .inl ((d_w C).2.2.1, 100, .inl (fun _ => 0)))]) (c2 := 3) (s2 := 300) ?_ rfl rfl rfl
  refine y_aload_n hc dX7_init_43 rfl 0 rfl ?_
  refine y_iconst hc dX7_init_44 kc_0 ?_
  refine y_putI hc dX7_init_45 fl_RX7_33 (fw_7_6 _) 0 rfl (Nat.le_of_ble_eq_true rfl) ?_
  refine y_ws (ws2 := [(h0, .inr (7, [.ref a1, .ref a2, .ref q1, .ref q2, .ref q3, .int (0 : Int32), .int (0 : Int32), .int 0, .int 0, .int 0])), (q1, .inl ((d_w C).2.2.1, 100, .inl (fun _ => 0))), (q2, .inl ((d_w C).2.2.1, 100, .inl (fun _ => 0))), (q3, .inl ((d_w C).2.2.1, 100, .inl (fun _ => 0)))]) (c2 := 3) (s2 := 300) ?_ rfl rfl rfl
  refine y_aload_n hc dX7_init_48 rfl 0 rfl ?_
  refine y_bipush hc dX7_init_49 kb_m7 ?_
  refine y_putI hc dX7_init_51 fl_RX7_36 (fw_7_7 _) 0 rfl (Nat.le_of_ble_eq_true rfl) ?_
  refine y_ws (ws2 := [(h0, .inr (7, [.ref a1, .ref a2, .ref q1, .ref q2, .ref q3, .int (0 : Int32), .int (0 : Int32), .int (-7 : Int32), .int 0, .int 0])), (q1, .inl ((d_w C).2.2.1, 100, .inl (fun _ => 0))), (q2, .inl ((d_w C).2.2.1, 100, .inl (fun _ => 0))), (q3, .inl ((d_w C).2.2.1, 100, .inl (fun _ => 0)))]) (c2 := 3) (s2 := 300) ?_ rfl rfl rfl
  refine y_aload_n hc dX7_init_54 rfl 0 rfl ?_
  refine y_iconst hc dX7_init_55 kc_0 ?_
  refine y_putI hc dX7_init_56 fl_RX7_39 (fw_7_8 _) 0 rfl (Nat.le_of_ble_eq_true rfl) ?_
  refine y_ws (ws2 := [(h0, .inr (7, [.ref a1, .ref a2, .ref q1, .ref q2, .ref q3, .int (0 : Int32), .int (0 : Int32), .int (-7 : Int32), .int (0 : Int32), .int 0])), (q1, .inl ((d_w C).2.2.1, 100, .inl (fun _ => 0))), (q2, .inl ((d_w C).2.2.1, 100, .inl (fun _ => 0))), (q3, .inl ((d_w C).2.2.1, 100, .inl (fun _ => 0)))]) (c2 := 3) (s2 := 300) ?_ rfl rfl rfl
  refine y_aload_n hc dX7_init_59 rfl 0 rfl ?_
  refine y_bipush hc dX7_init_60 kb_m6 ?_
  refine y_putI hc dX7_init_62 fl_RX7_42 (fw_7_9 _) 0 rfl (Nat.le_of_ble_eq_true rfl) ?_
  refine y_ws (ws2 := [(h0, .inr (7, [.ref a1, .ref a2, .ref q1, .ref q2, .ref q3, .int (0 : Int32), .int (0 : Int32), .int (-7 : Int32), .int (0 : Int32), .int (-6 : Int32)])), (q1, .inl ((d_w C).2.2.1, 100, .inl (fun _ => 0))), (q2, .inl ((d_w C).2.2.1, 100, .inl (fun _ => 0))), (q3, .inl ((d_w C).2.2.1, 100, .inl (fun _ => 0)))]) (c2 := 3) (s2 := 300) ?_ rfl rfl rfl
  exact hv _ _ _ _ _ dX7_init_65 ⟨q1, q2, q3, rfl⟩ rfl rfl

set_option maxRecDepth 20000 in
theorem ol_RX0_3 : Cond.methodLink RX0 3 objectInit ∈ lw_good := q_mem 261 rfl rfl
set_option maxRecDepth 20000 in
theorem ff_0_0 (a : Nat) : FF RX0 0 0 (.ref a) := ⟨_, .object "KindNets$Net", rfl, rfl, rfl, by decide +kernel, rfl, rfl⟩
set_option maxRecDepth 20000 in
theorem ac_long : Cond.arrayClass .long ∈ lw_good := q_mem 275 rfl rfl
set_option maxRecDepth 20000 in
theorem ff_0_1 (a : Nat) : FF RX0 0 1 (.ref a) := ⟨_, .array .long, rfl, rfl, rfl, by decide +kernel, rfl, rfl⟩
set_option maxRecDepth 20000 in
theorem ff_0_2 (a : Nat) : FF RX0 0 2 (.ref a) := ⟨_, .array .long, rfl, rfl, rfl, by decide +kernel, rfl, rfl⟩
def rm_X0 : Room := { frames := 2, cells := 2, slots := 793, locals := 80 }
set_option maxRecDepth 100000 in
set_option maxHeartbeats 8000000 in
theorem I_X0 (w : QW) (h0 a1 : Nat) : Ci yX0_init cX0_init 2 rm_X0 w [.ref h0, .ref a1] [(h0, .inr (0, [.null, .null, .null, .int 0]))] (fun u => ∃ (q1 q2 : Nat), u = [(h0, .inr (0, [.ref a1, .ref q1, .ref q2, .int (0 : Int32)])), (q1, .inl (w.2.2.2.1, 780, .inr (.inl (fun _ => 0)))), (q2, .inl (w.2.2.2.1, 13, .inr (.inl (fun _ => 0))))]) := by
  refine y_enter (L := [(0, .ref h0), (1, .ref a1)]) (by decide) rfl (Nat.le_of_ble_eq_true rfl) rfl ?_
  intro C hc hw hin hv
  subst hw
  have hc : OKY C RX0 cX0_init 2 rm_X0 := hc
  refine y_aload_n hc dX0_init_0 rfl 0 rfl ?_
  refine y_objInit (st := []) hc dX0_init_1 ol_RX0_3 oi_inst oi_code (by decide) (by decide) ?_
  refine y_aload_n hc dX0_init_4 rfl 0 rfl ?_
  refine y_aload_n hc dX0_init_5 rfl 1 rfl ?_
  refine y_putF hc hin dX0_init_6 fl_RX0_9 (ff_0_0 _) 0 rfl (Nat.le_of_ble_eq_true rfl) ?_
  refine y_ws (ws2 := [(h0, .inr (0, [.ref a1, .null, .null, .int 0]))]) (c2 := 0) (s2 := 0) ?_ rfl rfl rfl
  refine y_aload_n hc dX0_init_9 rfl 0 rfl ?_
  refine y_sipush hc dX0_init_10 ks_780 ?_
  refine y_newJ (N := 780) hc dX0_init_13 ac_long (by decide) (by decide) (by decide) (by decide) (by decide) (fun q1 => ?_)
  refine y_putF hc hin dX0_init_15 fl_RX0_15 (ff_0_1 _) 0 rfl (Nat.le_of_ble_eq_true rfl) ?_
  refine y_ws (ws2 := [(h0, .inr (0, [.ref a1, .ref q1, .null, .int 0])), (q1, .inl ((d_w C).2.2.2.1, 780, .inr (.inl (fun _ => 0))))]) (c2 := 1) (s2 := 780) ?_ rfl rfl rfl
  refine y_aload_n hc dX0_init_18 rfl 0 rfl ?_
  refine y_bipush hc dX0_init_19 kb_13 ?_
  refine y_newJ (N := 13) hc dX0_init_21 ac_long (by decide) (by decide) (by decide) (by decide) (by decide) (fun q2 => ?_)
  refine y_putF hc hin dX0_init_23 fl_RX0_19 (ff_0_2 _) 0 rfl (Nat.le_of_ble_eq_true rfl) ?_
  refine y_ws (ws2 := [(h0, .inr (0, [.ref a1, .ref q1, .ref q2, .int 0])), (q1, .inl ((d_w C).2.2.2.1, 780, .inr (.inl (fun _ => 0)))), (q2, .inl ((d_w C).2.2.2.1, 13, .inr (.inl (fun _ => 0))))]) (c2 := 2) (s2 := 793) ?_ rfl rfl rfl
  refine y_aload_n hc dX0_init_26 rfl 0 rfl ?_
  refine y_iconst hc dX0_init_27 kc_0 ?_
  refine y_putI hc dX0_init_28 fl_RX0_22 (fw_0_3 _) 0 rfl (Nat.le_of_ble_eq_true rfl) ?_
  refine y_ws (ws2 := [(h0, .inr (0, [.ref a1, .ref q1, .ref q2, .int (0 : Int32)])), (q1, .inl ((d_w C).2.2.2.1, 780, .inr (.inl (fun _ => 0)))), (q2, .inl ((d_w C).2.2.2.1, 13, .inr (.inl (fun _ => 0))))]) (c2 := 2) (s2 := 793) ?_ rfl rfl rfl
  exact hv _ _ _ _ _ dX0_init_31 ⟨q1, q2, rfl⟩ rfl rfl

set_option maxRecDepth 20000 in
theorem ol_RX2_5 : Cond.methodLink RX2 5 objectInit ∈ lw_good := q_mem 281 rfl rfl
set_option maxRecDepth 20000 in
theorem ff_2_0 (a : Nat) : FF RX2 2 0 (.ref a) := ⟨_, .object "KindNets$Net", rfl, rfl, rfl, by decide +kernel, rfl, rfl⟩
set_option maxRecDepth 20000 in
theorem ff_2_1 (a : Nat) : FF RX2 2 1 (.ref a) := ⟨_, .array .int, rfl, rfl, rfl, by decide +kernel, rfl, rfl⟩
def rm_X2 : Room := { frames := 2, cells := 1, slots := 60, locals := 80 }
set_option maxRecDepth 100000 in
set_option maxHeartbeats 8000000 in
theorem I_X2 (w : QW) (h0 a1 : Nat) : Ci yX2_init cX2_init 2 rm_X2 w [.ref h0, .ref a1] [(h0, .inr (2, [.null, .null, .int 0]))] (fun u => ∃ (q1 : Nat), u = [(h0, .inr (2, [.ref a1, .ref q1, .int (0 : Int32)])), (q1, .inl (w.2.2.1, 60, .inl (fun _ => 0)))]) := by
  refine y_enter (L := [(0, .ref h0), (1, .ref a1)]) (by decide) rfl (Nat.le_of_ble_eq_true rfl) rfl ?_
  intro C hc hw hin hv
  subst hw
  have hc : OKY C RX2 cX2_init 2 rm_X2 := hc
  refine y_aload_n hc dX2_init_0 rfl 0 rfl ?_
  refine y_objInit (st := []) hc dX2_init_1 ol_RX2_5 oi_inst oi_code (by decide) (by decide) ?_
  refine y_aload_n hc dX2_init_4 rfl 0 rfl ?_
  refine y_aload_n hc dX2_init_5 rfl 1 rfl ?_
  refine y_putF hc hin dX2_init_6 fl_RX2_11 (ff_2_0 _) 0 rfl (Nat.le_of_ble_eq_true rfl) ?_
  refine y_ws (ws2 := [(h0, .inr (2, [.ref a1, .null, .int 0]))]) (c2 := 0) (s2 := 0) ?_ rfl rfl rfl
  refine y_aload_n hc dX2_init_9 rfl 0 rfl ?_
  refine y_bipush hc dX2_init_10 kb_60 ?_
  refine y_newI (N := 60) hc dX2_init_12 ac_int (by decide) (by decide) (by decide) (by decide) (by decide) (fun q1 => ?_)
  refine y_putF hc hin dX2_init_14 fl_RX2_15 (ff_2_1 _) 0 rfl (Nat.le_of_ble_eq_true rfl) ?_
  refine y_ws (ws2 := [(h0, .inr (2, [.ref a1, .ref q1, .int 0])), (q1, .inl ((d_w C).2.2.1, 60, .inl (fun _ => 0)))]) (c2 := 1) (s2 := 60) ?_ rfl rfl rfl
  refine y_aload_n hc dX2_init_17 rfl 0 rfl ?_
  refine y_iconst hc dX2_init_18 kc_0 ?_
  refine y_putI hc dX2_init_19 fl_RX2_19 (fw_2_2 _) 0 rfl (Nat.le_of_ble_eq_true rfl) ?_
  refine y_ws (ws2 := [(h0, .inr (2, [.ref a1, .ref q1, .int (0 : Int32)])), (q1, .inl ((d_w C).2.2.1, 60, .inl (fun _ => 0)))]) (c2 := 1) (s2 := 60) ?_ rfl rfl rfl
  exact hv _ _ _ _ _ dX2_init_22 ⟨q1, rfl⟩ rfl rfl

