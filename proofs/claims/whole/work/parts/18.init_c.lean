
set_option maxRecDepth 20000 in
theorem ol_RX8_1 : Cond.methodLink RX8 1 objectInit ∈ lw_good := q_mem 91 rfl rfl
set_option maxRecDepth 20000 in
theorem cl_RX8_7 : Cond.classLink RX8 7 RX4 ∈ lw_good := q_mem 94 rfl rfl
set_option maxRecDepth 20000 in
theorem it_4 : Cond.instantiable RX4 2 ∈ lw_good := q_mem 95 rfl rfl
set_option maxRecDepth 20000 in
theorem ii_4 : Cond.initialized RX4 ∈ lw_good := q_mem 74 rfl rfl
set_option maxRecDepth 20000 in
theorem df_4 : ∀ j, j < 2 → defaultValue (tyX4 j) = vp_V [.null, .int 0] j := by
  intro j hj
  match j, hj with
  | 0, _ => rfl
  | 1, _ => rfl
  | (z + 2), h => omega
set_option maxRecDepth 20000 in
theorem ic_X4 : Cond.code yX4_init cX4_init 1 none ∈ lw_good := q_mem 98 rfl rfl
set_option maxRecDepth 20000 in
theorem im_X4 : Cond.instanceMethod yX4_init ∈ lw_good := q_mem 97 rfl rfl
set_option maxRecDepth 20000 in
theorem lki_RX8_9 : Cond.methodLink RX8 9 yX4_init ∈ lw_good := q_mem 96 rfl rfl
set_option maxRecDepth 20000 in
theorem ff_8_0 (a : Nat) : FF RX8 8 0 (.ref a) := ⟨_, .object "KindNets$Pad", rfl, rfl, rfl, by decide +kernel, rfl, rfl⟩
set_option maxRecDepth 20000 in
theorem cl_RX8_16 : Cond.classLink RX8 16 RX3 ∈ lw_good := q_mem 108 rfl rfl
set_option maxRecDepth 20000 in
theorem lki_RX8_18 : Cond.methodLink RX8 18 yX3_init ∈ lw_good := q_mem 110 rfl rfl
set_option maxRecDepth 20000 in
theorem ff_8_1 (a : Nat) : FF RX8 8 1 (.ref a) := ⟨_, .object "KindNets$Net", rfl, rfl, rfl, by decide +kernel, rfl, rfl⟩
set_option maxRecDepth 20000 in
theorem cl_RX8_25 : Cond.classLink RX8 25 RX6 ∈ lw_good := q_mem 136 rfl rfl
set_option maxRecDepth 20000 in
theorem it_6 : Cond.instantiable RX6 4 ∈ lw_good := q_mem 137 rfl rfl
set_option maxRecDepth 20000 in
theorem ii_6 : Cond.initialized RX6 ∈ lw_good := q_mem 77 rfl rfl
set_option maxRecDepth 20000 in
theorem df_6 : ∀ j, j < 4 → defaultValue (tyX6 j) = vp_V [.null, .null, .int 0, .int 0] j := by
  intro j hj
  match j, hj with
  | 0, _ => rfl
  | 1, _ => rfl
  | 2, _ => rfl
  | 3, _ => rfl
  | (z + 4), h => omega
set_option maxRecDepth 20000 in
theorem ic_X6 : Cond.code yX6_init cX6_init 2 none ∈ lw_good := q_mem 140 rfl rfl
set_option maxRecDepth 20000 in
theorem im_X6 : Cond.instanceMethod yX6_init ∈ lw_good := q_mem 139 rfl rfl
set_option maxRecDepth 20000 in
theorem lki_RX8_27 : Cond.methodLink RX8 27 yX6_init ∈ lw_good := q_mem 138 rfl rfl
set_option maxRecDepth 20000 in
theorem ff_8_2 (a : Nat) : FF RX8 8 2 (.ref a) := ⟨_, .object "KindNets$TextReader", rfl, rfl, rfl, by decide +kernel, rfl, rfl⟩
set_option maxRecDepth 20000 in
theorem cl_RX8_34 : Cond.classLink RX8 34 RX5 ∈ lw_good := q_mem 157 rfl rfl
set_option maxRecDepth 20000 in
theorem it_5 : Cond.instantiable RX5 6 ∈ lw_good := q_mem 158 rfl rfl
set_option maxRecDepth 20000 in
theorem ii_5 : Cond.initialized RX5 ∈ lw_good := q_mem 78 rfl rfl
set_option maxRecDepth 20000 in
theorem df_5 : ∀ j, j < 6 → defaultValue (tyX5 j) = vp_V [.null, .null, .null, .null, .int 0, .int 0] j := by
  intro j hj
  match j, hj with
  | 0, _ => rfl
  | 1, _ => rfl
  | 2, _ => rfl
  | 3, _ => rfl
  | 4, _ => rfl
  | 5, _ => rfl
  | (z + 6), h => omega
set_option maxRecDepth 20000 in
theorem ic_X5 : Cond.code yX5_init cX5_init 2 none ∈ lw_good := q_mem 161 rfl rfl
set_option maxRecDepth 20000 in
theorem im_X5 : Cond.instanceMethod yX5_init ∈ lw_good := q_mem 160 rfl rfl
set_option maxRecDepth 20000 in
theorem lki_RX8_36 : Cond.methodLink RX8 36 yX5_init ∈ lw_good := q_mem 159 rfl rfl
set_option maxRecDepth 20000 in
theorem ff_8_3 (a : Nat) : FF RX8 8 3 (.ref a) := ⟨_, .object "KindNets$Standing", rfl, rfl, rfl, by decide +kernel, rfl, rfl⟩
set_option maxRecDepth 20000 in
theorem cl_RX8_43 : Cond.classLink RX8 43 RX1 ∈ lw_good := q_mem 182 rfl rfl
set_option maxRecDepth 20000 in
theorem it_1 : Cond.instantiable RX1 10 ∈ lw_good := q_mem 183 rfl rfl
set_option maxRecDepth 20000 in
theorem ii_1 : Cond.initialized RX1 ∈ lw_good := q_mem 79 rfl rfl
set_option maxRecDepth 20000 in
theorem df_1 : ∀ j, j < 10 → defaultValue (tyX1 j) = vp_V [.null, .null, .null, .null, .null, .null, .null, .int 0, .int 0, .int 0] j := by
  intro j hj
  match j, hj with
  | 0, _ => rfl
  | 1, _ => rfl
  | 2, _ => rfl
  | 3, _ => rfl
  | 4, _ => rfl
  | 5, _ => rfl
  | 6, _ => rfl
  | 7, _ => rfl
  | 8, _ => rfl
  | 9, _ => rfl
  | (z + 10), h => omega
set_option maxRecDepth 20000 in
theorem ic_X1 : Cond.code yX1_init cX1_init 3 none ∈ lw_good := q_mem 186 rfl rfl
set_option maxRecDepth 20000 in
theorem im_X1 : Cond.instanceMethod yX1_init ∈ lw_good := q_mem 185 rfl rfl
set_option maxRecDepth 20000 in
theorem lki_RX8_45 : Cond.methodLink RX8 45 yX1_init ∈ lw_good := q_mem 184 rfl rfl
set_option maxRecDepth 20000 in
theorem ff_8_4 (a : Nat) : FF RX8 8 4 (.ref a) := ⟨_, .object "KindNets$Joiner", rfl, rfl, rfl, by decide +kernel, rfl, rfl⟩
set_option maxRecDepth 20000 in
theorem cl_RX8_52 : Cond.classLink RX8 52 RX7 ∈ lw_good := q_mem 219 rfl rfl
set_option maxRecDepth 20000 in
theorem it_7 : Cond.instantiable RX7 10 ∈ lw_good := q_mem 220 rfl rfl
set_option maxRecDepth 20000 in
theorem ii_7 : Cond.initialized RX7 ∈ lw_good := q_mem 80 rfl rfl
set_option maxRecDepth 20000 in
theorem df_7 : ∀ j, j < 10 → defaultValue (tyX7 j) = vp_V [.null, .null, .null, .null, .null, .int 0, .int 0, .int 0, .int 0, .int 0] j := by
  intro j hj
  match j, hj with
  | 0, _ => rfl
  | 1, _ => rfl
  | 2, _ => rfl
  | 3, _ => rfl
  | 4, _ => rfl
  | 5, _ => rfl
  | 6, _ => rfl
  | 7, _ => rfl
  | 8, _ => rfl
  | 9, _ => rfl
  | (z + 10), h => omega
set_option maxRecDepth 20000 in
theorem ic_X7 : Cond.code yX7_init cX7_init 3 none ∈ lw_good := q_mem 223 rfl rfl
set_option maxRecDepth 20000 in
theorem im_X7 : Cond.instanceMethod yX7_init ∈ lw_good := q_mem 222 rfl rfl
set_option maxRecDepth 20000 in
theorem lki_RX8_54 : Cond.methodLink RX8 54 yX7_init ∈ lw_good := q_mem 221 rfl rfl
set_option maxRecDepth 20000 in
theorem ff_8_5 (a : Nat) : FF RX8 8 5 (.ref a) := ⟨_, .object "KindNets$ValueReader", rfl, rfl, rfl, by decide +kernel, rfl, rfl⟩
set_option maxRecDepth 20000 in
theorem cl_RX8_61 : Cond.classLink RX8 61 RX0 ∈ lw_good := q_mem 256 rfl rfl
set_option maxRecDepth 20000 in
theorem it_0 : Cond.instantiable RX0 4 ∈ lw_good := q_mem 257 rfl rfl
set_option maxRecDepth 20000 in
theorem ii_0 : Cond.initialized RX0 ∈ lw_good := q_mem 81 rfl rfl
set_option maxRecDepth 20000 in
theorem df_0 : ∀ j, j < 4 → defaultValue (tyX0 j) = vp_V [.null, .null, .null, .int 0] j := by
  intro j hj
  match j, hj with
  | 0, _ => rfl
  | 1, _ => rfl
  | 2, _ => rfl
  | 3, _ => rfl
  | (z + 4), h => omega
set_option maxRecDepth 20000 in
theorem ic_X0 : Cond.code yX0_init cX0_init 2 none ∈ lw_good := q_mem 260 rfl rfl
set_option maxRecDepth 20000 in
theorem im_X0 : Cond.instanceMethod yX0_init ∈ lw_good := q_mem 259 rfl rfl
set_option maxRecDepth 20000 in
theorem lki_RX8_63 : Cond.methodLink RX8 63 yX0_init ∈ lw_good := q_mem 258 rfl rfl
set_option maxRecDepth 20000 in
theorem ff_8_6 (a : Nat) : FF RX8 8 6 (.ref a) := ⟨_, .object "KindNets$Counts", rfl, rfl, rfl, by decide +kernel, rfl, rfl⟩
set_option maxRecDepth 20000 in
theorem cl_RX8_68 : Cond.classLink RX8 68 RX2 ∈ lw_good := q_mem 276 rfl rfl
set_option maxRecDepth 20000 in
theorem it_2 : Cond.instantiable RX2 3 ∈ lw_good := q_mem 277 rfl rfl
set_option maxRecDepth 20000 in
theorem ii_2 : Cond.initialized RX2 ∈ lw_good := q_mem 82 rfl rfl
set_option maxRecDepth 20000 in
theorem df_2 : ∀ j, j < 3 → defaultValue (tyX2 j) = vp_V [.null, .null, .int 0] j := by
  intro j hj
  match j, hj with
  | 0, _ => rfl
  | 1, _ => rfl
  | 2, _ => rfl
  | (z + 3), h => omega
set_option maxRecDepth 20000 in
theorem ic_X2 : Cond.code yX2_init cX2_init 2 none ∈ lw_good := q_mem 280 rfl rfl
set_option maxRecDepth 20000 in
theorem im_X2 : Cond.instanceMethod yX2_init ∈ lw_good := q_mem 279 rfl rfl
set_option maxRecDepth 20000 in
theorem lki_RX8_70 : Cond.methodLink RX8 70 yX2_init ∈ lw_good := q_mem 278 rfl rfl
set_option maxRecDepth 20000 in
theorem ff_8_7 (a : Nat) : FF RX8 8 7 (.ref a) := ⟨_, .object "KindNets$Leasts", rfl, rfl, rfl, by decide +kernel, rfl, rfl⟩
def rm_X8 : Room := { frames := 4, cells := 32, slots := 6940, locals := 160 }
set_option maxRecDepth 100000 in
set_option maxHeartbeats 8000000 in
theorem I_X8 (w : QW) (h0  : Nat) : Ci yX8_init cX8_init 1 rm_X8 w [.ref h0] [(h0, .inr (8, [.null, .null, .null, .null, .null, .null, .null, .null]))] (fun u => ∃ (q1 q2 q3 q4 q5 q6 q7 q8 q9 q10 q11 q12 q13 q14 q15 q16 q17 q18 q19 q20 q21 q22 q23 q24 q25 q26 q27 q28 q29 q30 q31 q32 : Nat), u = [(h0, .inr (8, [.ref q1, .ref q3, .ref q8, .ref q14, .ref q18, .ref q24, .ref q28, .ref q31])), (q1, .inr (4, [.ref q2, .int (0 : Int32)])), (q2, .inl (w.2.2.1, 100, .inl (fun _ => 0))), (q3, .inr (3, [.int (60 : Int32), .ref q4, .ref q5, .ref q6, .ref q7, .int (0 : Int32)])), (q4, .inl (w.2.2.1, 60, .inl (fun _ => 0))), (q5, .inl (w.2.2.1, 60, .inl (fun _ => 0))), (q6, .inl (w.2.2.1, 480, .inl (fun _ => 0))), (q7, .inl (w.2.2.1, 8, .inl (zf_1.1 0))), (q8, .inr (6, [.ref q1, .ref q9, .int (0 : Int32), .int (0 : Int32)])), (q9, .inr (3, [.int (100 : Int32), .ref q10, .ref q11, .ref q12, .ref q13, .int (0 : Int32)])), (q10, .inl (w.2.2.1, 100, .inl (fun _ => 0))), (q11, .inl (w.2.2.1, 100, .inl (fun _ => 0))), (q12, .inl (w.2.2.1, 800, .inl (fun _ => 0))), (q13, .inl (w.2.2.1, 8, .inl (zf_1.1 0))), (q14, .inr (5, [.ref q3, .ref q15, .ref q16, .ref q17, .int (0 : Int32), .int (0 : Int32)])), (q15, .inl (w.2.2.1, 3600, .inl (fun _ => 0))), (q16, .inl (w.2.2.1, 60, .inl (fun _ => 0))), (q17, .inl (w.2.2.1, 60, .inl (fun _ => 0))), (q18, .inr (1, [.ref q3, .ref q14, .ref q19, .ref q20, .ref q21, .ref q22, .ref q23, .int (0 : Int32), .int (0 : Int32), .int (0 : Int32)])), (q19, .inl (w.2.2.1, 60, .inl (fun _ => 0))), (q20, .inl (w.2.2.1, 60, .inl (fun _ => 0))), (q21, .inl (w.2.2.1, 60, .inl (fun _ => 0))), (q22, .inl (w.2.2.1, 60, .inl (fun _ => 0))), (q23, .inl (w.2.2.1, 60, .inl (fun _ => 0))), (q24, .inr (7, [.ref q1, .ref q3, .ref q25, .ref q26, .ref q27, .int (0 : Int32), .int (0 : Int32), .int (-7 : Int32), .int (0 : Int32), .int (-6 : Int32)])), (q25, .inl (w.2.2.1, 100, .inl (fun _ => 0))), (q26, .inl (w.2.2.1, 100, .inl (fun _ => 0))), (q27, .inl (w.2.2.1, 100, .inl (fun _ => 0))), (q28, .inr (0, [.ref q3, .ref q29, .ref q30, .int (0 : Int32)])), (q29, .inl (w.2.2.2.1, 780, .inr (.inl (fun _ => 0)))), (q30, .inl (w.2.2.2.1, 13, .inr (.inl (fun _ => 0)))), (q31, .inr (2, [.ref q3, .ref q32, .int (0 : Int32)])), (q32, .inl (w.2.2.1, 60, .inl (fun _ => 0)))]) := by
  refine y_enter (L := [(0, .ref h0)]) (by decide) rfl (Nat.le_of_ble_eq_true rfl) rfl ?_
  intro C hc hw hin hv
  subst hw
  have hc : OKY C RX8 cX8_init 1 rm_X8 := hc
  refine y_aload_n hc dX8_init_0 rfl 0 rfl ?_
  refine y_objInit (st := []) hc dX8_init_1 ol_RX8_1 oi_inst oi_code (by decide) (by decide) ?_
  refine y_aload_n hc dX8_init_4 rfl 0 rfl ?_
  refine y_new (ci := 4) (N := 2) (Cn := RX4) (T := TX4) (ty := tyX4) (fs := [.null, .int 0]) hc dX8_init_5 cl_RX8_7 it_4 ii_4 rfl tyX4_ok df_4 (by decide) (by decide) (fun q1 => ?_)
  refine y_dup hc dX8_init_8 rfl ?_
  refine y_init (n := 0) (As := []) (st := [.ref q1, .ref h0]) (wr := [(h0, .inr (8, [.null, .null, .null, .null, .null, .null, .null, .null]))]) hc dX8_init_9 ic_X4 ii_4 im_X4 lki_RX8_9 rfl (by decide +kernel) rfl 1 [0] rfl rfl (by decide) (by decide) (I_X4 (d_w C) q1 ) (by decide) (by decide) (Nat.le_of_ble_eq_true rfl) (fun u hu => ?_)
  obtain ⟨q2, rfl⟩ := hu
  refine y_ws (ws2 := [(h0, .inr (8, [.null, .null, .null, .null, .null, .null, .null, .null])), (q1, .inr (4, [.ref q2, .int (0 : Int32)])), (q2, .inl ((d_w C).2.2.1, 100, .inl (fun _ => 0)))]) (c2 := 2) (s2 := 102) ?_ rfl rfl rfl
  refine y_putF hc hin dX8_init_12 fl_RX8_10 (ff_8_0 _) 0 rfl (Nat.le_of_ble_eq_true rfl) ?_
  refine y_ws (ws2 := [(h0, .inr (8, [.ref q1, .null, .null, .null, .null, .null, .null, .null])), (q1, .inr (4, [.ref q2, .int (0 : Int32)])), (q2, .inl ((d_w C).2.2.1, 100, .inl (fun _ => 0)))]) (c2 := 2) (s2 := 102) ?_ rfl rfl rfl
  refine y_aload_n hc dX8_init_15 rfl 0 rfl ?_
  refine y_new (ci := 3) (N := 6) (Cn := RX3) (T := TX3) (ty := tyX3) (fs := [.int 0, .null, .null, .null, .null, .int 0]) hc dX8_init_16 cl_RX8_16 it_3 ii_3 rfl tyX3_ok df_3 (by decide) (by decide) (fun q3 => ?_)
  refine y_dup hc dX8_init_19 rfl ?_
  refine y_bipush hc dX8_init_20 kb_60 ?_
  refine y_init (n := 1) (As := [.int (60 : Int32)]) (st := [.ref q3, .ref h0]) (wr := [(h0, .inr (8, [.ref q1, .null, .null, .null, .null, .null, .null, .null])), (q1, .inr (4, [.ref q2, .int (0 : Int32)])), (q2, .inl ((d_w C).2.2.1, 100, .inl (fun _ => 0)))]) hc dX8_init_22 ic_X3 ii_3 im_X3 lki_RX8_18 rfl (by decide +kernel) rfl 3 [0, 1, 2] rfl rfl (by decide) (by decide) (I_X3_60 (d_w C) q3 ) (by decide) (by decide) (Nat.le_of_ble_eq_true rfl) (fun u hu => ?_)
  obtain ⟨q4, q5, q6, q7, rfl⟩ := hu
  refine y_ws (ws2 := [(h0, .inr (8, [.ref q1, .null, .null, .null, .null, .null, .null, .null])), (q1, .inr (4, [.ref q2, .int (0 : Int32)])), (q2, .inl ((d_w C).2.2.1, 100, .inl (fun _ => 0))), (q3, .inr (3, [.int (60 : Int32), .ref q4, .ref q5, .ref q6, .ref q7, .int (0 : Int32)])), (q4, .inl ((d_w C).2.2.1, 60, .inl (fun _ => 0))), (q5, .inl ((d_w C).2.2.1, 60, .inl (fun _ => 0))), (q6, .inl ((d_w C).2.2.1, 480, .inl (fun _ => 0))), (q7, .inl ((d_w C).2.2.1, 8, .inl (zf_1.1 0)))]) (c2 := 7) (s2 := 716) ?_ rfl rfl rfl
  refine y_putF hc hin dX8_init_25 fl_RX8_21 (ff_8_1 _) 0 rfl (Nat.le_of_ble_eq_true rfl) ?_
  refine y_ws (ws2 := [(h0, .inr (8, [.ref q1, .ref q3, .null, .null, .null, .null, .null, .null])), (q1, .inr (4, [.ref q2, .int (0 : Int32)])), (q2, .inl ((d_w C).2.2.1, 100, .inl (fun _ => 0))), (q3, .inr (3, [.int (60 : Int32), .ref q4, .ref q5, .ref q6, .ref q7, .int (0 : Int32)])), (q4, .inl ((d_w C).2.2.1, 60, .inl (fun _ => 0))), (q5, .inl ((d_w C).2.2.1, 60, .inl (fun _ => 0))), (q6, .inl ((d_w C).2.2.1, 480, .inl (fun _ => 0))), (q7, .inl ((d_w C).2.2.1, 8, .inl (zf_1.1 0)))]) (c2 := 7) (s2 := 716) ?_ rfl rfl rfl
  refine y_aload_n hc dX8_init_28 rfl 0 rfl ?_
  refine y_new (ci := 6) (N := 4) (Cn := RX6) (T := TX6) (ty := tyX6) (fs := [.null, .null, .int 0, .int 0]) hc dX8_init_29 cl_RX8_25 it_6 ii_6 rfl tyX6_ok df_6 (by decide) (by decide) (fun q8 => ?_)
  refine y_dup hc dX8_init_32 rfl ?_
  refine y_aload_n hc dX8_init_33 rfl 0 rfl ?_
  refine y_get hc dX8_init_34 fl_RX8_10 0 rfl rfl ?_
  refine y_init (n := 1) (As := [.ref q1]) (st := [.ref q8, .ref h0]) (wr := [(h0, .inr (8, [.ref q1, .ref q3, .null, .null, .null, .null, .null, .null])), (q1, .inr (4, [.ref q2, .int (0 : Int32)])), (q2, .inl ((d_w C).2.2.1, 100, .inl (fun _ => 0))), (q3, .inr (3, [.int (60 : Int32), .ref q4, .ref q5, .ref q6, .ref q7, .int (0 : Int32)])), (q4, .inl ((d_w C).2.2.1, 60, .inl (fun _ => 0))), (q5, .inl ((d_w C).2.2.1, 60, .inl (fun _ => 0))), (q6, .inl ((d_w C).2.2.1, 480, .inl (fun _ => 0))), (q7, .inl ((d_w C).2.2.1, 8, .inl (zf_1.1 0)))]) hc dX8_init_37 ic_X6 ii_6 im_X6 lki_RX8_27 rfl (by decide +kernel) rfl 8 [0, 1, 2, 3, 4, 5, 6, 7] rfl rfl (by decide) (by decide) (I_X6 (d_w C) q8 q1) (by decide) (by decide) (Nat.le_of_ble_eq_true rfl) (fun u hu => ?_)
  obtain ⟨q9, q10, q11, q12, q13, rfl⟩ := hu
  refine y_ws (ws2 := [(h0, .inr (8, [.ref q1, .ref q3, .null, .null, .null, .null, .null, .null])), (q1, .inr (4, [.ref q2, .int (0 : Int32)])), (q2, .inl ((d_w C).2.2.1, 100, .inl (fun _ => 0))), (q3, .inr (3, [.int (60 : Int32), .ref q4, .ref q5, .ref q6, .ref q7, .int (0 : Int32)])), (q4, .inl ((d_w C).2.2.1, 60, .inl (fun _ => 0))), (q5, .inl ((d_w C).2.2.1, 60, .inl (fun _ => 0))), (q6, .inl ((d_w C).2.2.1, 480, .inl (fun _ => 0))), (q7, .inl ((d_w C).2.2.1, 8, .inl (zf_1.1 0))), (q8, .inr (6, [.ref q1, .ref q9, .int (0 : Int32), .int (0 : Int32)])), (q9, .inr (3, [.int (100 : Int32), .ref q10, .ref q11, .ref q12, .ref q13, .int (0 : Int32)])), (q10, .inl ((d_w C).2.2.1, 100, .inl (fun _ => 0))), (q11, .inl ((d_w C).2.2.1, 100, .inl (fun _ => 0))), (q12, .inl ((d_w C).2.2.1, 800, .inl (fun _ => 0))), (q13, .inl ((d_w C).2.2.1, 8, .inl (zf_1.1 0)))]) (c2 := 13) (s2 := 1734) ?_ rfl rfl rfl
  refine y_putF hc hin dX8_init_40 fl_RX8_30 (ff_8_2 _) 0 rfl (Nat.le_of_ble_eq_true rfl) ?_
  refine y_ws (ws2 := [(h0, .inr (8, [.ref q1, .ref q3, .ref q8, .null, .null, .null, .null, .null])), (q1, .inr (4, [.ref q2, .int (0 : Int32)])), (q2, .inl ((d_w C).2.2.1, 100, .inl (fun _ => 0))), (q3, .inr (3, [.int (60 : Int32), .ref q4, .ref q5, .ref q6, .ref q7, .int (0 : Int32)])), (q4, .inl ((d_w C).2.2.1, 60, .inl (fun _ => 0))), (q5, .inl ((d_w C).2.2.1, 60, .inl (fun _ => 0))), (q6, .inl ((d_w C).2.2.1, 480, .inl (fun _ => 0))), (q7, .inl ((d_w C).2.2.1, 8, .inl (zf_1.1 0))), (q8, .inr (6, [.ref q1, .ref q9, .int (0 : Int32), .int (0 : Int32)])), (q9, .inr (3, [.int (100 : Int32), .ref q10, .ref q11, .ref q12, .ref q13, .int (0 : Int32)])), (q10, .inl ((d_w C).2.2.1, 100, .inl (fun _ => 0))), (q11, .inl ((d_w C).2.2.1, 100, .inl (fun _ => 0))), (q12, .inl ((d_w C).2.2.1, 800, .inl (fun _ => 0))), (q13, .inl ((d_w C).2.2.1, 8, .inl (zf_1.1 0)))]) (c2 := 13) (s2 := 1734) ?_ rfl rfl rfl
  refine y_aload_n hc dX8_init_43 rfl 0 rfl ?_
  refine y_new (ci := 5) (N := 6) (Cn := RX5) (T := TX5) (ty := tyX5) (fs := [.null, .null, .null, .null, .int 0, .int 0]) hc dX8_init_44 cl_RX8_34 it_5 ii_5 rfl tyX5_ok df_5 (by decide) (by decide) (fun q14 => ?_)
  refine y_dup hc dX8_init_47 rfl ?_
  refine y_aload_n hc dX8_init_48 rfl 0 rfl ?_
  refine y_get hc dX8_init_49 fl_RX8_21 0 rfl rfl ?_
  refine y_init (n := 1) (As := [.ref q3]) (st := [.ref q14, .ref h0]) (wr := [(h0, .inr (8, [.ref q1, .ref q3, .ref q8, .null, .null, .null, .null, .null])), (q1, .inr (4, [.ref q2, .int (0 : Int32)])), (q2, .inl ((d_w C).2.2.1, 100, .inl (fun _ => 0))), (q3, .inr (3, [.int (60 : Int32), .ref q4, .ref q5, .ref q6, .ref q7, .int (0 : Int32)])), (q4, .inl ((d_w C).2.2.1, 60, .inl (fun _ => 0))), (q5, .inl ((d_w C).2.2.1, 60, .inl (fun _ => 0))), (q6, .inl ((d_w C).2.2.1, 480, .inl (fun _ => 0))), (q7, .inl ((d_w C).2.2.1, 8, .inl (zf_1.1 0))), (q8, .inr (6, [.ref q1, .ref q9, .int (0 : Int32), .int (0 : Int32)])), (q9, .inr (3, [.int (100 : Int32), .ref q10, .ref q11, .ref q12, .ref q13, .int (0 : Int32)])), (q10, .inl ((d_w C).2.2.1, 100, .inl (fun _ => 0))), (q11, .inl ((d_w C).2.2.1, 100, .inl (fun _ => 0))), (q12, .inl ((d_w C).2.2.1, 800, .inl (fun _ => 0))), (q13, .inl ((d_w C).2.2.1, 8, .inl (zf_1.1 0)))]) hc dX8_init_52 ic_X5 ii_5 im_X5 lki_RX8_36 rfl (by decide +kernel) rfl 14 [0, 1, 2, 3, 4, 5, 6, 7, 8, 9, 10, 11, 12, 13] rfl rfl (by decide) (by decide) (I_X5 (d_w C) q14 q3) (by decide) (by decide) (Nat.le_of_ble_eq_true rfl) (fun u hu => ?_)
  obtain ⟨q15, q16, q17, rfl⟩ := hu
  refine y_ws (ws2 := [(h0, .inr (8, [.ref q1, .ref q3, .ref q8, .null, .null, .null, .null, .null])), (q1, .inr (4, [.ref q2, .int (0 : Int32)])), (q2, .inl ((d_w C).2.2.1, 100, .inl (fun _ => 0))), (q3, .inr (3, [.int (60 : Int32), .ref q4, .ref q5, .ref q6, .ref q7, .int (0 : Int32)])), (q4, .inl ((d_w C).2.2.1, 60, .inl (fun _ => 0))), (q5, .inl ((d_w C).2.2.1, 60, .inl (fun _ => 0))), (q6, .inl ((d_w C).2.2.1, 480, .inl (fun _ => 0))), (q7, .inl ((d_w C).2.2.1, 8, .inl (zf_1.1 0))), (q8, .inr (6, [.ref q1, .ref q9, .int (0 : Int32), .int (0 : Int32)])), (q9, .inr (3, [.int (100 : Int32), .ref q10, .ref q11, .ref q12, .ref q13, .int (0 : Int32)])), (q10, .inl ((d_w C).2.2.1, 100, .inl (fun _ => 0))), (q11, .inl ((d_w C).2.2.1, 100, .inl (fun _ => 0))), (q12, .inl ((d_w C).2.2.1, 800, .inl (fun _ => 0))), (q13, .inl ((d_w C).2.2.1, 8, .inl (zf_1.1 0))), (q14, .inr (5, [.ref q3, .ref q15, .ref q16, .ref q17, .int (0 : Int32), .int (0 : Int32)])), (q15, .inl ((d_w C).2.2.1, 3600, .inl (fun _ => 0))), (q16, .inl ((d_w C).2.2.1, 60, .inl (fun _ => 0))), (q17, .inl ((d_w C).2.2.1, 60, .inl (fun _ => 0)))]) (c2 := 17) (s2 := 5460) ?_ rfl rfl rfl
  refine y_putF hc hin dX8_init_55 fl_RX8_39 (ff_8_3 _) 0 rfl (Nat.le_of_ble_eq_true rfl) ?_
  refine y_ws (ws2 := [(h0, .inr (8, [.ref q1, .ref q3, .ref q8, .ref q14, .null, .null, .null, .null])), (q1, .inr (4, [.ref q2, .int (0 : Int32)])), (q2, .inl ((d_w C).2.2.1, 100, .inl (fun _ => 0))), (q3, .inr (3, [.int (60 : Int32), .ref q4, .ref q5, .ref q6, .ref q7, .int (0 : Int32)])), (q4, .inl ((d_w C).2.2.1, 60, .inl (fun _ => 0))), (q5, .inl ((d_w C).2.2.1, 60, .inl (fun _ => 0))), (q6, .inl ((d_w C).2.2.1, 480, .inl (fun _ => 0))), (q7, .inl ((d_w C).2.2.1, 8, .inl (zf_1.1 0))), (q8, .inr (6, [.ref q1, .ref q9, .int (0 : Int32), .int (0 : Int32)])), (q9, .inr (3, [.int (100 : Int32), .ref q10, .ref q11, .ref q12, .ref q13, .int (0 : Int32)])), (q10, .inl ((d_w C).2.2.1, 100, .inl (fun _ => 0))), (q11, .inl ((d_w C).2.2.1, 100, .inl (fun _ => 0))), (q12, .inl ((d_w C).2.2.1, 800, .inl (fun _ => 0))), (q13, .inl ((d_w C).2.2.1, 8, .inl (zf_1.1 0))), (q14, .inr (5, [.ref q3, .ref q15, .ref q16, .ref q17, .int (0 : Int32), .int (0 : Int32)])), (q15, .inl ((d_w C).2.2.1, 3600, .inl (fun _ => 0))), (q16, .inl ((d_w C).2.2.1, 60, .inl (fun _ => 0))), (q17, .inl ((d_w C).2.2.1, 60, .inl (fun _ => 0)))]) (c2 := 17) (s2 := 5460) ?_ rfl rfl rfl
  refine y_aload_n hc dX8_init_58 rfl 0 rfl ?_
  refine y_new (ci := 1) (N := 10) (Cn := RX1) (T := TX1) (ty := tyX1) (fs := [.null, .null, .null, .null, .null, .null, .null, .int 0, .int 0, .int 0]) hc dX8_init_59 cl_RX8_43 it_1 ii_1 rfl tyX1_ok df_1 (by decide) (by decide) (fun q18 => ?_)
  refine y_dup hc dX8_init_62 rfl ?_
  refine y_aload_n hc dX8_init_63 rfl 0 rfl ?_
  refine y_get hc dX8_init_64 fl_RX8_21 0 rfl rfl ?_
  refine y_aload_n hc dX8_init_67 rfl 0 rfl ?_
  refine y_get hc dX8_init_68 fl_RX8_39 0 rfl rfl ?_
  refine y_init (n := 2) (As := [.ref q3, .ref q14]) (st := [.ref q18, .ref h0]) (wr := [(h0, .inr (8, [.ref q1, .ref q3, .ref q8, .ref q14, .null, .null, .null, .null])), (q1, .inr (4, [.ref q2, .int (0 : Int32)])), (q2, .inl ((d_w C).2.2.1, 100, .inl (fun _ => 0))), (q3, .inr (3, [.int (60 : Int32), .ref q4, .ref q5, .ref q6, .ref q7, .int (0 : Int32)])), (q4, .inl ((d_w C).2.2.1, 60, .inl (fun _ => 0))), (q5, .inl ((d_w C).2.2.1, 60, .inl (fun _ => 0))), (q6, .inl ((d_w C).2.2.1, 480, .inl (fun _ => 0))), (q7, .inl ((d_w C).2.2.1, 8, .inl (zf_1.1 0))), (q8, .inr (6, [.ref q1, .ref q9, .int (0 : Int32), .int (0 : Int32)])), (q9, .inr (3, [.int (100 : Int32), .ref q10, .ref q11, .ref q12, .ref q13, .int (0 : Int32)])), (q10, .inl ((d_w C).2.2.1, 100, .inl (fun _ => 0))), (q11, .inl ((d_w C).2.2.1, 100, .inl (fun _ => 0))), (q12, .inl ((d_w C).2.2.1, 800, .inl (fun _ => 0))), (q13, .inl ((d_w C).2.2.1, 8, .inl (zf_1.1 0))), (q14, .inr (5, [.ref q3, .ref q15, .ref q16, .ref q17, .int (0 : Int32), .int (0 : Int32)])), (q15, .inl ((d_w C).2.2.1, 3600, .inl (fun _ => 0))), (q16, .inl ((d_w C).2.2.1, 60, .inl (fun _ => 0))), (q17, .inl ((d_w C).2.2.1, 60, .inl (fun _ => 0)))]) hc dX8_init_71 ic_X1 ii_1 im_X1 lki_RX8_45 rfl (by decide +kernel) rfl 18 [0, 1, 2, 3, 4, 5, 6, 7, 8, 9, 10, 11, 12, 13, 14, 15, 16, 17] rfl rfl (by decide) (by decide) (I_X1 (d_w C) q18 q3 q14) (by decide) (by decide) (Nat.le_of_ble_eq_true rfl) (fun u hu => ?_)
  obtain ⟨q19, q20, q21, q22, q23, rfl⟩ := hu
  refine y_ws (ws2 := [(h0, .inr (8, [.ref q1, .ref q3, .ref q8, .ref q14, .null, .null, .null, .null])), (q1, .inr (4, [.ref q2, .int (0 : Int32)])), (q2, .inl ((d_w C).2.2.1, 100, .inl (fun _ => 0))), (q3, .inr (3, [.int (60 : Int32), .ref q4, .ref q5, .ref q6, .ref q7, .int (0 : Int32)])), (q4, .inl ((d_w C).2.2.1, 60, .inl (fun _ => 0))), (q5, .inl ((d_w C).2.2.1, 60, .inl (fun _ => 0))), (q6, .inl ((d_w C).2.2.1, 480, .inl (fun _ => 0))), (q7, .inl ((d_w C).2.2.1, 8, .inl (zf_1.1 0))), (q8, .inr (6, [.ref q1, .ref q9, .int (0 : Int32), .int (0 : Int32)])), (q9, .inr (3, [.int (100 : Int32), .ref q10, .ref q11, .ref q12, .ref q13, .int (0 : Int32)])), (q10, .inl ((d_w C).2.2.1, 100, .inl (fun _ => 0))), (q11, .inl ((d_w C).2.2.1, 100, .inl (fun _ => 0))), (q12, .inl ((d_w C).2.2.1, 800, .inl (fun _ => 0))), (q13, .inl ((d_w C).2.2.1, 8, .inl (zf_1.1 0))), (q14, .inr (5, [.ref q3, .ref q15, .ref q16, .ref q17, .int (0 : Int32), .int (0 : Int32)])), (q15, .inl ((d_w C).2.2.1, 3600, .inl (fun _ => 0))), (q16, .inl ((d_w C).2.2.1, 60, .inl (fun _ => 0))), (q17, .inl ((d_w C).2.2.1, 60, .inl (fun _ => 0))), (q18, .inr (1, [.ref q3, .ref q14, .ref q19, .ref q20, .ref q21, .ref q22, .ref q23, .int (0 : Int32), .int (0 : Int32), .int (0 : Int32)])), (q19, .inl ((d_w C).2.2.1, 60, .inl (fun _ => 0))), (q20, .inl ((d_w C).2.2.1, 60, .inl (fun _ => 0))), (q21, .inl ((d_w C).2.2.1, 60, .inl (fun _ => 0))), (q22, .inl ((d_w C).2.2.1, 60, .inl (fun _ => 0))), (q23, .inl ((d_w C).2.2.1, 60, .inl (fun _ => 0)))]) (c2 := 23) (s2 := 5770) ?_ rfl rfl rfl
  refine y_putF hc hin dX8_init_74 fl_RX8_48 (ff_8_4 _) 0 rfl (Nat.le_of_ble_eq_true rfl) ?_
  refine y_ws (ws2 := [(h0, .inr (8, [.ref q1, .ref q3, .ref q8, .ref q14, .ref q18, .null, .null, .null])), (q1, .inr (4, [.ref q2, .int (0 : Int32)])), (q2, .inl ((d_w C).2.2.1, 100, .inl (fun _ => 0))), (q3, .inr (3, [.int (60 : Int32), .ref q4, .ref q5, .ref q6, .ref q7, .int (0 : Int32)])), (q4, .inl ((d_w C).2.2.1, 60, .inl (fun _ => 0))), (q5, .inl ((d_w C).2.2.1, 60, .inl (fun _ => 0))), (q6, .inl ((d_w C).2.2.1, 480, .inl (fun _ => 0))), (q7, .inl ((d_w C).2.2.1, 8, .inl (zf_1.1 0))), (q8, .inr (6, [.ref q1, .ref q9, .int (0 : Int32), .int (0 : Int32)])), (q9, .inr (3, [.int (100 : Int32), .ref q10, .ref q11, .ref q12, .ref q13, .int (0 : Int32)])), (q10, .inl ((d_w C).2.2.1, 100, .inl (fun _ => 0))), (q11, .inl ((d_w C).2.2.1, 100, .inl (fun _ => 0))), (q12, .inl ((d_w C).2.2.1, 800, .inl (fun _ => 0))), (q13, .inl ((d_w C).2.2.1, 8, .inl (zf_1.1 0))), (q14, .inr (5, [.ref q3, .ref q15, .ref q16, .ref q17, .int (0 : Int32), .int (0 : Int32)])), (q15, .inl ((d_w C).2.2.1, 3600, .inl (fun _ => 0))), (q16, .inl ((d_w C).2.2.1, 60, .inl (fun _ => 0))), (q17, .inl ((d_w C).2.2.1, 60, .inl (fun _ => 0))), (q18, .inr (1, [.ref q3, .ref q14, .ref q19, .ref q20, .ref q21, .ref q22, .ref q23, .int (0 : Int32), .int (0 : Int32), .int (0 : Int32)])), (q19, .inl ((d_w C).2.2.1, 60, .inl (fun _ => 0))), (q20, .inl ((d_w C).2.2.1, 60, .inl (fun _ => 0))), (q21, .inl ((d_w C).2.2.1, 60, .inl (fun _ => 0))), (q22, .inl ((d_w C).2.2.1, 60, .inl (fun _ => 0))), (q23, .inl ((d_w C).2.2.1, 60, .inl (fun _ => 0)))]) (c2 := 23) (s2 := 5770) ?_ rfl rfl rfl
  refine y_aload_n hc dX8_init_77 rfl 0 rfl ?_
  refine y_new (ci := 7) (N := 10) (Cn := RX7) (T := TX7) (ty := tyX7) (fs := [.null, .null, .null, .null, .null, .int 0, .int 0, .int 0, .int 0, .int 0]) hc dX8_init_78 cl_RX8_52 it_7 ii_7 rfl tyX7_ok df_7 (by decide) (by decide) (fun q24 => ?_)
  refine y_dup hc dX8_init_81 rfl ?_
  refine y_aload_n hc dX8_init_82 rfl 0 rfl ?_
  refine y_get hc dX8_init_83 fl_RX8_10 0 rfl rfl ?_
  refine y_aload_n hc dX8_init_86 rfl 0 rfl ?_
  refine y_get hc dX8_init_87 fl_RX8_21 0 rfl rfl ?_
  refine y_init (n := 2) (As := [.ref q1, .ref q3]) (st := [.ref q24, .ref h0]) (wr := [(h0, .inr (8, [.ref q1, .ref q3, .ref q8, .ref q14, .ref q18, .null, .null, .null])), (q1, .inr (4, [.ref q2, .int (0 : Int32)])), (q2, .inl ((d_w C).2.2.1, 100, .inl (fun _ => 0))), (q3, .inr (3, [.int (60 : Int32), .ref q4, .ref q5, .ref q6, .ref q7, .int (0 : Int32)])), (q4, .inl ((d_w C).2.2.1, 60, .inl (fun _ => 0))), (q5, .inl ((d_w C).2.2.1, 60, .inl (fun _ => 0))), (q6, .inl ((d_w C).2.2.1, 480, .inl (fun _ => 0))), (q7, .inl ((d_w C).2.2.1, 8, .inl (zf_1.1 0))), (q8, .inr (6, [.ref q1, .ref q9, .int (0 : Int32), .int (0 : Int32)])), (q9, .inr (3, [.int (100 : Int32), .ref q10, .ref q11, .ref q12, .ref q13, .int (0 : Int32)])), (q10, .inl ((d_w C).2.2.1, 100, .inl (fun _ => 0))), (q11, .inl ((d_w C).2.2.1, 100, .inl (fun _ => 0))), (q12, .inl ((d_w C).2.2.1, 800, .inl (fun _ => 0))), (q13, .inl ((d_w C).2.2.1, 8, .inl (zf_1.1 0))), (q14, .inr (5, [.ref q3, .ref q15, .ref q16, .ref q17, .int (0 : Int32), .int (0 : Int32)])), (q15, .inl ((d_w C).2.2.1, 3600, .inl (fun _ => 0))), (q16, .inl ((d_w C).2.2.1, 60, .inl (fun _ => 0))), (q17, .inl ((d_w C).2.2.1, 60, .inl (fun _ => 0))), (q18, .inr (1, [.ref q3, .ref q14, .ref q19, .ref q20, .ref q21, .ref q22, .ref q23, .int (0 : Int32), .int (0 : Int32), .int (0 : Int32)])), (q19, .inl ((d_w C).2.2.1, 60, .inl (fun _ => 0))), (q20, .inl ((d_w C).2.2.1, 60, .inl (fun _ => 0))), (q21, .inl ((d_w C).2.2.1, 60, .inl (fun _ => 0))), (q22, .inl ((d_w C).2.2.1, 60, .inl (fun _ => 0))), (q23, .inl ((d_w C).2.2.1, 60, .inl (fun _ => 0)))]) hc dX8_init_90 ic_X7 ii_7 im_X7 lki_RX8_54 rfl (by decide +kernel) rfl 24 [0, 1, 2, 3, 4, 5, 6, 7, 8, 9, 10, 11, 12, 13, 14, 15, 16, 17, 18, 19, 20, 21, 22, 23] rfl rfl (by decide) (by decide) (I_X7 (d_w C) q24 q1 q3) (by decide) (by decide) (Nat.le_of_ble_eq_true rfl) (fun u hu => ?_)
  obtain ⟨q25, q26, q27, rfl⟩ := hu
  refine y_ws (ws2 := [(h0, .inr (8, [.ref q1, .ref q3, .ref q8, .ref q14, .ref q18, .null, .null, .null])), (q1, .inr (4, [.ref q2, .int (0 : Int32)])), (q2, .inl ((d_w C).2.2.1, 100, .inl (fun _ => 0))), (q3, .inr (3, [.int (60 : Int32), .ref q4, .ref q5, .ref q6, .ref q7, .int (0 : Int32)])), (q4, .inl ((d_w C).2.2.1, 60, .inl (fun _ => 0))), (q5, .inl ((d_w C).2.2.1, 60, .inl (fun _ => 0))), (q6, .inl ((d_w C).2.2.1, 480, .inl (fun _ => 0))), (q7, .inl ((d_w C).2.2.1, 8, .inl (zf_1.1 0))), (q8, .inr (6, [.ref q1, .ref q9, .int (0 : Int32), .int (0 : Int32)])), (q9, .inr (3, [.int (100 : Int32), .ref q10, .ref q11, .ref q12, .ref q13, .int (0 : Int32)])), (q10, .inl ((d_w C).2.2.1, 100, .inl (fun _ => 0))), (q11, .inl ((d_w C).2.2.1, 100, .inl (fun _ => 0))), (q12, .inl ((d_w C).2.2.1, 800, .inl (fun _ => 0))), (q13, .inl ((d_w C).2.2.1, 8, .inl (zf_1.1 0))), (q14, .inr (5, [.ref q3, .ref q15, .ref q16, .ref q17, .int (0 : Int32), .int (0 : Int32)])), (q15, .inl ((d_w C).2.2.1, 3600, .inl (fun _ => 0))), (q16, .inl ((d_w C).2.2.1, 60, .inl (fun _ => 0))), (q17, .inl ((d_w C).2.2.1, 60, .inl (fun _ => 0))), (q18, .inr (1, [.ref q3, .ref q14, .ref q19, .ref q20, .ref q21, .ref q22, .ref q23, .int (0 : Int32), .int (0 : Int32), .int (0 : Int32)])), (q19, .inl ((d_w C).2.2.1, 60, .inl (fun _ => 0))), (q20, .inl ((d_w C).2.2.1, 60, .inl (fun _ => 0))), (q21, .inl ((d_w C).2.2.1, 60, .inl (fun _ => 0))), (q22, .inl ((d_w C).2.2.1, 60, .inl (fun _ => 0))), (q23, .inl ((d_w C).2.2.1, 60, .inl (fun _ => 0))), (q24, .inr (7, [.ref q1, .ref q3, .ref q25, .ref q26, .ref q27, .int (0 : Int32), .int (0 : Int32), .int (-7 : Int32), .int (0 : Int32), .int (-6 : Int32)])), (q25, .inl ((d_w C).2.2.1, 100, .inl (fun _ => 0))), (q26, .inl ((d_w C).2.2.1, 100, .inl (fun _ => 0))), (q27, .inl ((d_w C).2.2.1, 100, .inl (fun _ => 0)))]) (c2 := 27) (s2 := 6080) ?_ rfl rfl rfl
  refine y_putF hc hin dX8_init_93 fl_RX8_57 (ff_8_5 _) 0 rfl (Nat.le_of_ble_eq_true rfl) ?_
  refine y_ws (ws2 := [(h0, .inr (8, [.ref q1, .ref q3, .ref q8, .ref q14, .ref q18, .ref q24, .null, .null])), (q1, .inr (4, [.ref q2, .int (0 : Int32)])), (q2, .inl ((d_w C).2.2.1, 100, .inl (fun _ => 0))), (q3, .inr (3, [.int (60 : Int32), .ref q4, .ref q5, .ref q6, .ref q7, .int (0 : Int32)])), (q4, .inl ((d_w C).2.2.1, 60, .inl (fun _ => 0))), (q5, .inl ((d_w C).2.2.1, 60, .inl (fun _ => 0))), (q6, .inl ((d_w C).2.2.1, 480, .inl (fun _ => 0))), (q7, .inl ((d_w C).2.2.1, 8, .inl (zf_1.1 0))), (q8, .inr (6, [.ref q1, .ref q9, .int (0 : Int32), .int (0 : Int32)])), (q9, .inr (3, [.int (100 : Int32), .ref q10, .ref q11, .ref q12, .ref q13, .int (0 : Int32)])), (q10, .inl ((d_w C).2.2.1, 100, .inl (fun _ => 0))), (q11, .inl ((d_w C).2.2.1, 100, .inl (fun _ => 0))), (q12, .inl ((d_w C).2.2.1, 800, .inl (fun _ => 0))), (q13, .inl ((d_w C).2.2.1, 8, .inl (zf_1.1 0))), (q14, .inr (5, [.ref q3, .ref q15, .ref q16, .ref q17, .int (0 : Int32), .int (0 : Int32)])), (q15, .inl ((d_w C).2.2.1, 3600, .inl (fun _ => 0))), (q16, .inl ((d_w C).2.2.1, 60, .inl (fun _ => 0))), (q17, .inl ((d_w C).2.2.1, 60, .inl (fun _ => 0))), (q18, .inr (1, [.ref q3, .ref q14, .ref q19, .ref q20, .ref q21, .ref q22, .ref q23, .int (0 : Int32), .int (0 : Int32), .int (0 : Int32)])), (q19, .inl ((d_w C).2.2.1, 60, .inl (fun _ => 0))), (q20, .inl ((d_w C).2.2.1, 60, .inl (fun _ => 0))), (q21, .inl ((d_w C).2.2.1, 60, .inl (fun _ => 0))), (q22, .inl ((d_w C).2.2.1, 60, .inl (fun _ => 0))), (q23, .inl ((d_w C).2.2.1, 60, .inl (fun _ => 0))), (q24, .inr (7, [.ref q1, .ref q3, .ref q25, .ref q26, .ref q27, .int (0 : Int32), .int (0 : Int32), .int (-7 : Int32), .int (0 : Int32), .int (-6 : Int32)])), (q25, .inl ((d_w C).2.2.1, 100, .inl (fun _ => 0))), (q26, .inl ((d_w C).2.2.1, 100, .inl (fun _ => 0))), (q27, .inl ((d_w C).2.2.1, 100, .inl (fun _ => 0)))]) (c2 := 27) (s2 := 6080) ?_ rfl rfl rfl
  refine y_aload_n hc dX8_init_96 rfl 0 rfl ?_
  refine y_new (ci := 0) (N := 4) (Cn := RX0) (T := TX0) (ty := tyX0) (fs := [.null, .null, .null, .int 0]) hc dX8_init_97 cl_RX8_61 it_0 ii_0 rfl tyX0_ok df_0 (by decide) (by decide) (fun q28 => ?_)
  refine y_dup hc dX8_init_100 rfl ?_
  refine y_aload_n hc dX8_init_101 rfl 0 rfl ?_
  refine y_get hc dX8_init_102 fl_RX8_21 0 rfl rfl ?_
  refine y_init (n := 1) (As := [.ref q3]) (st := [.ref q28, .ref h0]) (wr := [(h0, .inr (8, [.ref q1, .ref q3, .ref q8, .ref q14, .ref q18, .ref q24, .null, .null])), (q1, .inr (4, [.ref q2, .int (0 : Int32)])), (q2, .inl ((d_w C).2.2.1, 100, .inl (fun _ => 0))), (q3, .inr (3, [.int (60 : Int32), .ref q4, .ref q5, .ref q6, .ref q7, .int (0 : Int32)])), (q4, .inl ((d_w C).2.2.1, 60, .inl (fun _ => 0))), (q5, .inl ((d_w C).2.2.1, 60, .inl (fun _ => 0))), (q6, .inl ((d_w C).2.2.1, 480, .inl (fun _ => 0))), (q7, .inl ((d_w C).2.2.1, 8, .inl (zf_1.1 0))), (q8, .inr (6, [.ref q1, .ref q9, .int (0 : Int32), .int (0 : Int32)])), (q9, .inr (3, [.int (100 : Int32), .ref q10, .ref q11, .ref q12, .ref q13, .int (0 : Int32)])), (q10, .inl ((d_w C).2.2.1, 100, .inl (fun _ => 0))), (q11, .inl ((d_w C).2.2.1, 100, .inl (fun _ => 0))), (q12, .inl ((d_w C).2.2.1, 800, .inl (fun _ => 0))), (q13, .inl ((d_w C).2.2.1, 8, .inl (zf_1.1 0))), (q14, .inr (5, [.ref q3, .ref q15, .ref q16, .ref q17, .int (0 : Int32), .int (0 : Int32)])), (q15, .inl ((d_w C).2.2.1, 3600, .inl (fun _ => 0))), (q16, .inl ((d_w C).2.2.1, 60, .inl (fun _ => 0))), (q17, .inl ((d_w C).2.2.1, 60, .inl (fun _ => 0))), (q18, .inr (1, [.ref q3, .ref q14, .ref q19, .ref q20, .ref q21, .ref q22, .ref q23, .int (0 : Int32), .int (0 : Int32), .int (0 : Int32)])), (q19, .inl ((d_w C).2.2.1, 60, .inl (fun _ => 0))), (q20, .inl ((d_w C).2.2.1, 60, .inl (fun _ => 0))), (q21, .inl ((d_w C).2.2.1, 60, .inl (fun _ => 0))), (q22, .inl ((d_w C).2.2.1, 60, .inl (fun _ => 0))), (q23, .inl ((d_w C).2.2.1, 60, .inl (fun _ => 0))), (q24, .inr (7, [.ref q1, .ref q3, .ref q25, .ref q26, .ref q27, .int (0 : Int32), .int (0 : Int32), .int (-7 : Int32), .int (0 : Int32), .int (-6 : Int32)])), (q25, .inl ((d_w C).2.2.1, 100, .inl (fun _ => 0))), (q26, .inl ((d_w C).2.2.1, 100, .inl (fun _ => 0))), (q27, .inl ((d_w C).2.2.1, 100, .inl (fun _ => 0)))]) hc dX8_init_105 ic_X0 ii_0 im_X0 lki_RX8_63 rfl (by decide +kernel) rfl 28 [0, 1, 2, 3, 4, 5, 6, 7, 8, 9, 10, 11, 12, 13, 14, 15, 16, 17, 18, 19, 20, 21, 22, 23, 24, 25, 26, 27] rfl rfl (by decide) (by decide) (I_X0 (d_w C) q28 q3) (by decide) (by decide) (Nat.le_of_ble_eq_true rfl) (fun u hu => ?_)
  obtain ⟨q29, q30, rfl⟩ := hu
  refine y_ws (ws2 := [(h0, .inr (8, [.ref q1, .ref q3, .ref q8, .ref q14, .ref q18, .ref q24, .null, .null])), (q1, .inr (4, [.ref q2, .int (0 : Int32)])), (q2, .inl ((d_w C).2.2.1, 100, .inl (fun _ => 0))), (q3, .inr (3, [.int (60 : Int32), .ref q4, .ref q5, .ref q6, .ref q7, .int (0 : Int32)])), (q4, .inl ((d_w C).2.2.1, 60, .inl (fun _ => 0))), (q5, .inl ((d_w C).2.2.1, 60, .inl (fun _ => 0))), (q6, .inl ((d_w C).2.2.1, 480, .inl (fun _ => 0))), (q7, .inl ((d_w C).2.2.1, 8, .inl (zf_1.1 0))), (q8, .inr (6, [.ref q1, .ref q9, .int (0 : Int32), .int (0 : Int32)])), (q9, .inr (3, [.int (100 : Int32), .ref q10, .ref q11, .ref q12, .ref q13, .int (0 : Int32)])), (q10, .inl ((d_w C).2.2.1, 100, .inl (fun _ => 0))), (q11, .inl ((d_w C).2.2.1, 100, .inl (fun _ => 0))), (q12, .inl ((d_w C).2.2.1, 800, .inl (fun _ => 0))), (q13, .inl ((d_w C).2.2.1, 8, .inl (zf_1.1 0))), (q14, .inr (5, [.ref q3, .ref q15, .ref q16, .ref q17, .int (0 : Int32), .int (0 : Int32)])), (q15, .inl ((d_w C).2.2.1, 3600, .inl (fun _ => 0))), (q16, .inl ((d_w C).2.2.1, 60, .inl (fun _ => 0))), (q17, .inl ((d_w C).2.2.1, 60, .inl (fun _ => 0))), (q18, .inr (1, [.ref q3, .ref q14, .ref q19, .ref q20, .ref q21, .ref q22, .ref q23, .int (0 : Int32), .int (0 : Int32), .int (0 : Int32)])), (q19, .inl ((d_w C).2.2.1, 60, .inl (fun _ => 0))), (q20, .inl ((d_w C).2.2.1, 60, .inl (fun _ => 0))), (q21, .inl ((d_w C).2.2.1, 60, .inl (fun _ => 0))), (q22, .inl ((d_w C).2.2.1, 60, .inl (fun _ => 0))), (q23, .inl ((d_w C).2.2.1, 60, .inl (fun _ => 0))), (q24, .inr (7, [.ref q1, .ref q3, .ref q25, .ref q26, .ref q27, .int (0 : Int32), .int (0 : Int32), .int (-7 : Int32), .int (0 : Int32), .int (-6 : Int32)])), (q25, .inl ((d_w C).2.2.1, 100, .inl (fun _ => 0))), (q26, .inl ((d_w C).2.2.1, 100, .inl (fun _ => 0))), (q27, .inl ((d_w C).2.2.1, 100, .inl (fun _ => 0))), (q28, .inr (0, [.ref q3, .ref q29, .ref q30, .int (0 : Int32)])), (q29, .inl ((d_w C).2.2.2.1, 780, .inr (.inl (fun _ => 0)))), (q30, .inl ((d_w C).2.2.2.1, 13, .inr (.inl (fun _ => 0))))]) (c2 := 30) (s2 := 6877) ?_ rfl rfl rfl
  refine y_putF hc hin dX8_init_108 fl_RX8_64 (ff_8_6 _) 0 rfl (Nat.le_of_ble_eq_true rfl) ?_
  refine y_ws (ws2 := [(h0, .inr (8, [.ref q1, .ref q3, .ref q8, .ref q14, .ref q18, .ref q24, .ref q28, .null])), (q1, .inr (4, [.ref q2, .int (0 : Int32)])), (q2, .inl ((d_w C).2.2.1, 100, .inl (fun _ => 0))), (q3, .inr (3, [.int (60 : Int32), .ref q4, .ref q5, .ref q6, .ref q7, .int (0 : Int32)])), (q4, .inl ((d_w C).2.2.1, 60, .inl (fun _ => 0))), (q5, .inl ((d_w C).2.2.1, 60, .inl (fun _ => 0))), (q6, .inl ((d_w C).2.2.1, 480, .inl (fun _ => 0))), (q7, .inl ((d_w C).2.2.1, 8, .inl (zf_1.1 0))), (q8, .inr (6, [.ref q1, .ref q9, .int (0 : Int32), .int (0 : Int32)])), (q9, .inr (3, [.int (100 : Int32), .ref q10, .ref q11, .ref q12, .ref q13, .int (0 : Int32)])), (q10, .inl ((d_w C).2.2.1, 100, .inl (fun _ => 0))), (q11, .inl ((d_w C).2.2.1, 100, .inl (fun _ => 0))), (q12, .inl ((d_w C).2.2.1, 800, .inl (fun _ => 0))), (q13, .inl ((d_w C).2.2.1, 8, .inl (zf_1.1 0))), (q14, .inr (5, [.ref q3, .ref q15, .ref q16, .ref q17, .int (0 : Int32), .int (0 : Int32)])), (q15, .inl ((d_w C).2.2.1, 3600, .inl (fun _ => 0))), (q16, .inl ((d_w C).2.2.1, 60, .inl (fun _ => 0))), (q17, .inl ((d_w C).2.2.1, 60, .inl (fun _ => 0))), (q18, .inr (1, [.ref q3, .ref q14, .ref q19, .ref q20, .ref q21, .ref q22, .ref q23, .int (0 : Int32), .int (0 : Int32), .int (0 : Int32)])), (q19, .inl ((d_w C).2.2.1, 60, .inl (fun _ => 0))), (q20, .inl ((d_w C).2.2.1, 60, .inl (fun _ => 0))), (q21, .inl ((d_w C).2.2.1, 60, .inl (fun _ => 0))), (q22, .inl ((d_w C).2.2.1, 60, .inl (fun _ => 0))), (q23, .inl ((d_w C).2.2.1, 60, .inl (fun _ => 0))), (q24, .inr (7, [.ref q1, .ref q3, .ref q25, .ref q26, .ref q27, .int (0 : Int32), .int (0 : Int32), .int (-7 : Int32), .int (0 : Int32), .int (-6 : Int32)])), (q25, .inl ((d_w C).2.2.1, 100, .inl (fun _ => 0))), (q26, .inl ((d_w C).2.2.1, 100, .inl (fun _ => 0))), (q27, .inl ((d_w C).2.2.1, 100, .inl (fun _ => 0))), (q28, .inr (0, [.ref q3, .ref q29, .ref q30, .int (0 : Int32)])), (q29, .inl ((d_w C).2.2.2.1, 780, .inr (.inl (fun _ => 0)))), (q30, .inl ((d_w C).2.2.2.1, 13, .inr (.inl (fun _ => 0))))]) (c2 := 30) (s2 := 6877) ?_ rfl rfl rfl
  refine y_aload_n hc dX8_init_111 rfl 0 rfl ?_
  refine y_new (ci := 2) (N := 3) (Cn := RX2) (T := TX2) (ty := tyX2) (fs := [.null, .null, .int 0]) hc dX8_init_112 cl_RX8_68 it_2 ii_2 rfl tyX2_ok df_2 (by decide) (by decide) (fun q31 => ?_)
  refine y_dup hc dX8_init_115 rfl ?_
  refine y_aload_n hc dX8_init_116 rfl 0 rfl ?_
  refine y_get hc dX8_init_117 fl_RX8_21 0 rfl rfl ?_
  refine y_init (n := 1) (As := [.ref q3]) (st := [.ref q31, .ref h0]) (wr := [(h0, .inr (8, [.ref q1, .ref q3, .ref q8, .ref q14, .ref q18, .ref q24, .ref q28, .null])), (q1, .inr (4, [.ref q2, .int (0 : Int32)])), (q2, .inl ((d_w C).2.2.1, 100, .inl (fun _ => 0))), (q3, .inr (3, [.int (60 : Int32), .ref q4, .ref q5, .ref q6, .ref q7, .int (0 : Int32)])), (q4, .inl ((d_w C).2.2.1, 60, .inl (fun _ => 0))), (q5, .inl ((d_w C).2.2.1, 60, .inl (fun _ => 0))), (q6, .inl ((d_w C).2.2.1, 480, .inl (fun _ => 0))), (q7, .inl ((d_w C).2.2.1, 8, .inl (zf_1.1 0))), (q8, .inr (6, [.ref q1, .ref q9, .int (0 : Int32), .int (0 : Int32)])), (q9, .inr (3, [.int (100 : Int32), .ref q10, .ref q11, .ref q12, .ref q13, .int (0 : Int32)])), (q10, .inl ((d_w C).2.2.1, 100, .inl (fun _ => 0))), (q11, .inl ((d_w C).2.2.1, 100, .inl (fun _ => 0))), (q12, .inl ((d_w C).2.2.1, 800, .inl (fun _ => 0))), (q13, .inl ((d_w C).2.2.1, 8, .inl (zf_1.1 0))), (q14, .inr (5, [.ref q3, .ref q15, .ref q16, .ref q17, .int (0 : Int32), .int (0 : Int32)])), (q15, .inl ((d_w C).2.2.1, 3600, .inl (fun _ => 0))), (q16, .inl ((d_w C).2.2.1, 60, .inl (fun _ => 0))), (q17, .inl ((d_w C).2.2.1, 60, .inl (fun _ => 0))), (q18, .inr (1, [.ref q3, .ref q14, .ref q19, .ref q20, .ref q21, .ref q22, .ref q23, .int (0 : Int32), .int (0 : Int32), .int (0 : Int32)])), (q19, .inl ((d_w C).2.2.1, 60, .inl (fun _ => 0))), (q20, .inl ((d_w C).2.2.1, 60, .inl (fun _ => 0))), (q21, .inl ((d_w C).2.2.1, 60, .inl (fun _ => 0))), (q22, .inl ((d_w C).2.2.1, 60, .inl (fun _ => 0))), (q23, .inl ((d_w C).2.2.1, 60, .inl (fun _ => 0))), (q24, .inr (7, [.ref q1, .ref q3, .ref q25, .ref q26, .ref q27, .int (0 : Int32), .int (0 : Int32), .int (-7 : Int32), .int (0 : Int32), .int (-6 : Int32)])), (q25, .inl ((d_w C).2.2.1, 100, .inl (fun _ => 0))), (q26, .inl ((d_w C).2.2.1, 100, .inl (fun _ => 0))), (q27, .inl ((d_w C).2.2.1, 100, .inl (fun _ => 0))), (q28, .inr (0, [.ref q3, .ref q29, .ref q30, .int (0 : Int32)])), (q29, .inl ((d_w C).2.2.2.1, 780, .inr (.inl (fun _ => 0)))), (q30, .inl ((d_w C).2.2.2.1, 13, .inr (.inl (fun _ => 0))))]) hc dX8_init_120 ic_X2 ii_2 im_X2 lki_RX8_70 rfl (by decide +kernel) rfl 31 [0, 1, 2, 3, 4, 5, 6, 7, 8, 9, 10, 11, 12, 13, 14, 15, 16, 17, 18, 19, 20, 21, 22, 23, 24, 25, 26, 27, 28, 29, 30] rfl rfl (by decide) (by decide) (I_X2 (d_w C) q31 q3) (by decide) (by decide) (Nat.le_of_ble_eq_true rfl) (fun u hu => ?_)
  obtain ⟨q32, rfl⟩ := hu
  refine y_ws (ws2 := [(h0, .inr (8, [.ref q1, .ref q3, .ref q8, .ref q14, .ref q18, .ref q24, .ref q28, .null])), (q1, .inr (4, [.ref q2, .int (0 : Int32)])), (q2, .inl ((d_w C).2.2.1, 100, .inl (fun _ => 0))), (q3, .inr (3, [.int (60 : Int32), .ref q4, .ref q5, .ref q6, .ref q7, .int (0 : Int32)])), (q4, .inl ((d_w C).2.2.1, 60, .inl (fun _ => 0))), (q5, .inl ((d_w C).2.2.1, 60, .inl (fun _ => 0))), (q6, .inl ((d_w C).2.2.1, 480, .inl (fun _ => 0))), (q7, .inl ((d_w C).2.2.1, 8, .inl (zf_1.1 0))), (q8, .inr (6, [.ref q1, .ref q9, .int (0 : Int32), .int (0 : Int32)])), (q9, .inr (3, [.int (100 : Int32), .ref q10, .ref q11, .ref q12, .ref q13, .int (0 : Int32)])), (q10, .inl ((d_w C).2.2.1, 100, .inl (fun _ => 0))), (q11, .inl ((d_w C).2.2.1, 100, .inl (fun _ => 0))), (q12, .inl ((d_w C).2.2.1, 800, .inl (fun _ => 0))), (q13, .inl ((d_w C).2.2.1, 8, .inl (zf_1.1 0))), (q14, .inr (5, [.ref q3, .ref q15, .ref q16, .ref q17, .int (0 : Int32), .int (0 : Int32)])), (q15, .inl ((d_w C).2.2.1, 3600, .inl (fun _ => 0))), (q16, .inl ((d_w C).2.2.1, 60, .inl (fun _ => 0))), (q17, .inl ((d_w C).2.2.1, 60, .inl (fun _ => 0))), (q18, .inr (1, [.ref q3, .ref q14, .ref q19, .ref q20, .ref q21, .ref q22, .ref q23, .int (0 : Int32), .int (0 : Int32), .int (0 : Int32)])), (q19, .inl ((d_w C).2.2.1, 60, .inl (fun _ => 0))), (q20, .inl ((d_w C).2.2.1, 60, .inl (fun _ => 0))), (q21, .inl ((d_w C).2.2.1, 60, .inl (fun _ => 0))), (q22, .inl ((d_w C).2.2.1, 60, .inl (fun _ => 0))), (q23, .inl ((d_w C).2.2.1, 60, .inl (fun _ => 0))), (q24, .inr (7, [.ref q1, .ref q3, .ref q25, .ref q26, .ref q27, .int (0 : Int32), .int (0 : Int32), .int (-7 : Int32), .int (0 : Int32), .int (-6 : Int32)])), (q25, .inl ((d_w C).2.2.1, 100, .inl (fun _ => 0))), (q26, .inl ((d_w C).2.2.1, 100, .inl (fun _ => 0))), (q27, .inl ((d_w C).2.2.1, 100, .inl (fun _ => 0))), (q28, .inr (0, [.ref q3, .ref q29, .ref q30, .int (0 : Int32)])), (q29, .inl ((d_w C).2.2.2.1, 780, .inr (.inl (fun _ => 0)))), (q30, .inl ((d_w C).2.2.2.1, 13, .inr (.inl (fun _ => 0)))), (q31, .inr (2, [.ref q3, .ref q32, .int (0 : Int32)])), (q32, .inl ((d_w C).2.2.1, 60, .inl (fun _ => 0)))]) (c2 := 32) (s2 := 6940) ?_ rfl rfl rfl
  refine y_putF hc hin dX8_init_123 fl_RX8_71 (ff_8_7 _) 0 rfl (Nat.le_of_ble_eq_true rfl) ?_
  refine y_ws (ws2 := [(h0, .inr (8, [.ref q1, .ref q3, .ref q8, .ref q14, .ref q18, .ref q24, .ref q28, .ref q31])), (q1, .inr (4, [.ref q2, .int (0 : Int32)])), (q2, .inl ((d_w C).2.2.1, 100, .inl (fun _ => 0))), (q3, .inr (3, [.int (60 : Int32), .ref q4, .ref q5, .ref q6, .ref q7, .int (0 : Int32)])), (q4, .inl ((d_w C).2.2.1, 60, .inl (fun _ => 0))), (q5, .inl ((d_w C).2.2.1, 60, .inl (fun _ => 0))), (q6, .inl ((d_w C).2.2.1, 480, .inl (fun _ => 0))), (q7, .inl ((d_w C).2.2.1, 8, .inl (zf_1.1 0))), (q8, .inr (6, [.ref q1, .ref q9, .int (0 : Int32), .int (0 : Int32)])), (q9, .inr (3, [.int (100 : Int32), .ref q10, .ref q11, .ref q12, .ref q13, .int (0 : Int32)])), (q10, .inl ((d_w C).2.2.1, 100, .inl (fun _ => 0))), (q11, .inl ((d_w C).2.2.1, 100, .inl (fun _ => 0))), (q12, .inl ((d_w C).2.2.1, 800, .inl (fun _ => 0))), (q13, .inl ((d_w C).2.2.1, 8, .inl (zf_1.1 0))), (q14, .inr (5, [.ref q3, .ref q15, .ref q16, .ref q17, .int (0 : Int32), .int (0 : Int32)])), (q15, .inl ((d_w C).2.2.1, 3600, .inl (fun _ => 0))), (q16, .inl ((d_w C).2.2.1, 60, .inl (fun _ => 0))), (q17, .inl ((d_w C).2.2.1, 60, .inl (fun _ => 0))), (q18, .inr (1, [.ref q3, .ref q14, .ref q19, .ref q20, .ref q21, .ref q22, .ref q23, .int (0 : Int32), .int (0 : Int32), .int (0 : Int32)])), (q19, .inl ((d_w C).2.2.1, 60, .inl (fun _ => 0))), (q20, .inl ((d_w C).2.2.1, 60, .inl (fun _ => 0))), (q21, .inl ((d_w C).2.2.1, 60, .inl (fun _ => 0))), (q22, .inl ((d_w C).2.2.1, 60, .inl (fun _ => 0))), (q23, .inl ((d_w C).2.2.1, 60, .inl (fun _ => 0))), (q24, .inr (7, [.ref q1, .ref q3, .ref q25, .ref q26, .ref q27, .int (0 : Int32), .int (0 : Int32), .int (-7 : Int32), .int (0 : Int32), .int (-6 : Int32)])), (q25, .inl ((d_w C).2.2.1, 100, .inl (fun _ => 0))), (q26, .inl ((d_w C).2.2.1, 100, .inl (fun _ => 0))), (q27, .inl ((d_w C).2.2.1, 100, .inl (fun _ => 0))), (q28, .inr (0, [.ref q3, .ref q29, .ref q30, .int (0 : Int32)])), (q29, .inl ((d_w C).2.2.2.1, 780, .inr (.inl (fun _ => 0)))), (q30, .inl ((d_w C).2.2.2.1, 13, .inr (.inl (fun _ => 0)))), (q31, .inr (2, [.ref q3, .ref q32, .int (0 : Int32)])), (q32, .inl ((d_w C).2.2.1, 60, .inl (fun _ => 0)))]) (c2 := 32) (s2 := 6940) ?_ rfl rfl rfl
  exact hv _ _ _ _ _ dX8_init_126 ⟨q1, q2, q3, q4, q5, q6, q7, q8, q9, q10, q11, q12, q13, q14, q15, q16, q17, q18, q19, q20, q21, q22, q23, q24, q25, q26, q27, q28, q29, q30, q31, q32, rfl⟩ rfl rfl

