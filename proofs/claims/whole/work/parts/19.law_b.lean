set_option maxRecDepth 20000 in
theorem iw_0 : Cond.instantiable RX0 4 ∈ lw_good := q_mem 257 rfl rfl
set_option maxRecDepth 20000 in
theorem iw_1 : Cond.instantiable RX1 10 ∈ lw_good := q_mem 183 rfl rfl
set_option maxRecDepth 20000 in
theorem iw_2 : Cond.instantiable RX2 3 ∈ lw_good := q_mem 277 rfl rfl
set_option maxRecDepth 20000 in
theorem iw_3 : Cond.instantiable RX3 6 ∈ lw_good := q_mem 109 rfl rfl
set_option maxRecDepth 20000 in
theorem iw_4 : Cond.instantiable RX4 2 ∈ lw_good := q_mem 95 rfl rfl
set_option maxRecDepth 20000 in
theorem iw_5 : Cond.instantiable RX5 6 ∈ lw_good := q_mem 158 rfl rfl
set_option maxRecDepth 20000 in
theorem iw_6 : Cond.instantiable RX6 4 ∈ lw_good := q_mem 137 rfl rfl
set_option maxRecDepth 20000 in
theorem iw_7 : Cond.instantiable RX7 10 ∈ lw_good := q_mem 220 rfl rfl
set_option maxRecDepth 20000 in
theorem iw_8 : Cond.instantiable RX8 8 ∈ lw_good := q_mem 87 rfl rfl
set_option maxRecDepth 20000 in
theorem iw_9 : Cond.instantiable RX9 34 ∈ lw_good := q_mem 819 rfl rfl
set_option maxRecDepth 20000 in
theorem lw_clK : Cond.classLink RL 7 RX8 ∈ lw_good := q_mem 86 rfl rfl
set_option maxRecDepth 20000 in
theorem lw_clM : Cond.classLink RL 10 RX9 ∈ lw_good := q_mem 818 rfl rfl
set_option maxRecDepth 20000 in
theorem lw_lkK : Cond.methodLink RL 9 yX8_init ∈ lw_good := q_mem 88 rfl rfl
set_option maxRecDepth 20000 in
theorem lw_lkM : Cond.methodLink RL 12 yX9_init ∈ lw_good := q_mem 820 rfl rfl
set_option maxRecDepth 20000 in
theorem lw_icK : Cond.code yX8_init cX8_init 1 none ∈ lw_good := q_mem 90 rfl rfl
set_option maxRecDepth 20000 in
theorem lw_icM : Cond.code yX9_init cX9_init 2 none ∈ lw_good := q_mem 822 rfl rfl
set_option maxRecDepth 20000 in
theorem lw_imK : Cond.instanceMethod yX8_init ∈ lw_good := q_mem 89 rfl rfl
set_option maxRecDepth 20000 in
theorem lw_imM : Cond.instanceMethod yX9_init ∈ lw_good := q_mem 821 rfl rfl
set_option maxRecDepth 20000 in
theorem lw_inK : Cond.initialized RX8 ∈ lw_good := q_mem 73 rfl rfl
set_option maxRecDepth 20000 in
theorem lw_inM : Cond.initialized RX9 ∈ lw_good := q_mem 83 rfl rfl
theorem df_K : ∀ j, j < 8 → defaultValue (tyX8 j) = vp_V [.null, .null, .null, .null, .null, .null, .null, .null] j := by
  intro j hj
  match j, hj with
  | 0, _ => rfl
  | 1, _ => rfl
  | 2, _ => rfl
  | 3, _ => rfl
  | 4, _ => rfl
  | 5, _ => rfl
  | 6, _ => rfl
  | 7, _ => rfl
  | (z + 8), h => omega
theorem df_M : ∀ j, j < 34 → defaultValue (tyX9 j) = vp_V [.int 0, .null, .int 0, .null, .null, .null, .int 0, .null, .null, .null, .int 0, .null, .null, .null, .int 0, .int 0, .null, .null, .int 0, .null, .null, .int 0, .null, .null, .int 0, .null, .null, .int 0, .null, .null, .null, .null, .null, .null] j := by
  intro j hj
  match j, hj with
  | 0, _ => rfl
  | 1, _ => rfl
  | 2, _ => rfl
  | 3, _ => rfl
  | 4, _ => rfl
  | 5, _ => rfl
  | 6, _ => rfl
  | 7, _ => rfl
  | 8, _ => rfl
  | 9, _ => rfl
  | 10, _ => rfl
  | 11, _ => rfl
  | 12, _ => rfl
  | 13, _ => rfl
  | 14, _ => rfl
  | 15, _ => rfl
  | 16, _ => rfl
  | 17, _ => rfl
  | 18, _ => rfl
  | 19, _ => rfl
  | 20, _ => rfl
  | 21, _ => rfl
  | 22, _ => rfl
  | 23, _ => rfl
  | 24, _ => rfl
  | 25, _ => rfl
  | 26, _ => rfl
  | 27, _ => rfl
  | 28, _ => rfl
  | 29, _ => rfl
  | 30, _ => rfl
  | 31, _ => rfl
  | 32, _ => rfl
  | 33, _ => rfl
  | (z + 34), h => omega
theorem q_arr {s : State} {args : Array Value} {ty : FieldType} (h : (Cond.arrayClass ty).before args s = true) : ∃ cA : ClassId, ArrOfT s cA ty ∧ s.vm.findClass ("[" ++ ty.toString) = some cA := by
  obtain ⟨cA, kA, comp, h1, h2, h3⟩ := Cond.arrayClass_spec h
  exact ⟨cA, fun n z => ⟨fun k h => (by cases h), kA, h2, comp, h3⟩, h1⟩
theorem q_injl {A : Nat → Prop} {w : QW} {SH : List QS} {M : QM} {rest : va_W} (h : va_D A (q_wl w SH M ++ rest)) : q_inj w SH := by
  intro i j hi hj hij
  obtain ⟨x, hx⟩ : ∃ x, SH[i]? = some x := ⟨_, List.getElem?_eq_getElem hi⟩
  obtain ⟨y, hy⟩ : ∃ y, SH[j]? = some y := ⟨_, List.getElem?_eq_getElem hj⟩
  refine h.1 i j (w.2.1 i, q_cell w M i x) (w.2.1 j, q_cell w M j y) ?_ ?_ hij
  · rw [List.getElem?_append_left (by rw [q_wlen]; exact hi)]; exact q_at hx
  · rw [List.getElem?_append_left (by rw [q_wlen]; exact hj)]; exact q_at hy
theorem q_injr {A : Nat → Prop} {w : QW} {SH : List QS} {M : QM} {front : va_W} (h : va_D A (front ++ q_wl w SH M)) : q_inj w SH := by
  intro i j hi hj hij
  obtain ⟨x, hx⟩ : ∃ x, SH[i]? = some x := ⟨_, List.getElem?_eq_getElem hi⟩
  obtain ⟨y, hy⟩ : ∃ y, SH[j]? = some y := ⟨_, List.getElem?_eq_getElem hj⟩
  have h1 := h.1 (front.length + i) (front.length + j) (w.2.1 i, q_cell w M i x) (w.2.1 j, q_cell w M j y) (by rw [List.getElem?_append_right (by omega), Nat.add_sub_cancel_left]; exact q_at hx) (by rw [List.getElem?_append_right (by omega), Nat.add_sub_cancel_left]; exact q_at hy) hij
  omega
theorem y_inj {C : QD} {nL pc : Nat} {L : List (Nat × Value)} {st : List Value} {ws : va_W} {cells slots : Nat} (k : (∃ A, va_D A ws) → WY C nL pc L st ws cells slots) : WY C nL pc L st ws cells slots := by
  obtain ⟨p, l, e, R, s, m, args, below, meth, c, w, A, Q⟩ := C
  intro ls H locs hl hP hD hS
  exact k ⟨A, hD⟩ ls H locs hl hP hD hS
theorem y_sub {C : QD} {nL pc : Nat} {L L2 : List (Nat × Value)} {st : List Value} {ws : va_W} {cells slots : Nat} (k : WY C nL pc L2 st ws cells slots) (ks : List Nat) (hL : ks.filterMap (fun k => L[k]?) = L2) : WY C nL pc L st ws cells slots := by
  obtain ⟨p, l, e, R, s, m, args, below, meth, c, w, A, Q⟩ := C
  intro ls H locs hl hP hD hS
  exact k ls H locs (lv_sub hl ks hL) hP hD hS
set_option maxRecDepth 100000 in
theorem w_K0 (w : QW) (a0 a1 a2 a3 a4 a5 a6 a7 a8 a9 a10 a11 a12 a13 a14 a15 a16 a17 a18 a19 a20 a21 a22 a23 a24 a25 a26 a27 a28 a29 a30 a31 a32 : Nat) : [(a0, .inr (8, [.ref a1, .ref a3, .ref a8, .ref a14, .ref a18, .ref a24, .ref a28, .ref a31])), (a1, .inr (4, [.ref a2, .int (0 : Int32)])), (a2, .inl (w.2.2.1, 100, .inl (fun _ => 0))), (a3, .inr (3, [.int (60 : Int32), .ref a4, .ref a5, .ref a6, .ref a7, .int (0 : Int32)])), (a4, .inl (w.2.2.1, 60, .inl (fun _ => 0))), (a5, .inl (w.2.2.1, 60, .inl (fun _ => 0))), (a6, .inl (w.2.2.1, 480, .inl (fun _ => 0))), (a7, .inl (w.2.2.1, 8, .inl (zf_1.1 0))), (a8, .inr (6, [.ref a1, .ref a9, .int (0 : Int32), .int (0 : Int32)])), (a9, .inr (3, [.int (100 : Int32), .ref a10, .ref a11, .ref a12, .ref a13, .int (0 : Int32)])), (a10, .inl (w.2.2.1, 100, .inl (fun _ => 0))), (a11, .inl (w.2.2.1, 100, .inl (fun _ => 0))), (a12, .inl (w.2.2.1, 800, .inl (fun _ => 0))), (a13, .inl (w.2.2.1, 8, .inl (zf_1.1 0))), (a14, .inr (5, [.ref a3, .ref a15, .ref a16, .ref a17, .int (0 : Int32), .int (0 : Int32)])), (a15, .inl (w.2.2.1, 3600, .inl (fun _ => 0))), (a16, .inl (w.2.2.1, 60, .inl (fun _ => 0))), (a17, .inl (w.2.2.1, 60, .inl (fun _ => 0))), (a18, .inr (1, [.ref a3, .ref a14, .ref a19, .ref a20, .ref a21, .ref a22, .ref a23, .int (0 : Int32), .int (0 : Int32), .int (0 : Int32)])), (a19, .inl (w.2.2.1, 60, .inl (fun _ => 0))), (a20, .inl (w.2.2.1, 60, .inl (fun _ => 0))), (a21, .inl (w.2.2.1, 60, .inl (fun _ => 0))), (a22, .inl (w.2.2.1, 60, .inl (fun _ => 0))), (a23, .inl (w.2.2.1, 60, .inl (fun _ => 0))), (a24, .inr (7, [.ref a1, .ref a3, .ref a25, .ref a26, .ref a27, .int (0 : Int32), .int (0 : Int32), .int (-7 : Int32), .int (0 : Int32), .int (-6 : Int32)])), (a25, .inl (w.2.2.1, 100, .inl (fun _ => 0))), (a26, .inl (w.2.2.1, 100, .inl (fun _ => 0))), (a27, .inl (w.2.2.1, 100, .inl (fun _ => 0))), (a28, .inr (0, [.ref a3, .ref a29, .ref a30, .int (0 : Int32)])), (a29, .inl (w.2.2.2.1, 780, .inr (.inl (fun _ => 0)))), (a30, .inl (w.2.2.2.1, 13, .inr (.inl (fun _ => 0)))), (a31, .inr (2, [.ref a3, .ref a32, .int (0 : Int32)])), (a32, .inl (w.2.2.1, 60, .inl (fun _ => 0)))] = q_wl (w.1, (fun i => [a0, a1, a2, a3, a4, a5, a6, a7, a8, a9, a10, a11, a12, a13, a14, a15, a16, a17, a18, a19, a20, a21, a22, a23, a24, a25, a26, a27, a28, a29, a30, a31, a32].getD i 0), w.2.2) SHK MK0 := by
  simp only [q_wl, SHK, List.mapIdx_cons, List.mapIdx_nil, q_cell, q_fv, Nat.zero_add, Nat.reduceAdd]
  rfl
set_option maxRecDepth 100000 in
theorem w_M0 (w : QW) (b0 b1 b2 b3 b4 b5 b6 b7 b8 b9 b10 b11 b12 b13 b14 b15 b16 b17 b18 b19 b20 b21 b22 b23 b24 : Nat) : [(b0, .inr (9, [.int 0, .ref b1, .int 0, .ref b2, .ref b3, .ref b4, .int 0, .ref b5, .ref b6, .ref b7, .int 0, .ref b8, .ref b9, .ref b10, .int 0, .int 0, .ref b11, .ref b12, .int 0, .ref b13, .ref b14, .int 0, .ref b15, .ref b16, .int 0, .ref b17, .ref b18, .int 0, .ref b19, .ref b20, .ref b21, .ref b22, .ref b23, .ref b24])), (b1, .inl (w.2.2.1, 100, .inl (fun _ => 0))), (b2, .inl (w.2.2.1, 60, .inl (fun _ => 0))), (b3, .inl (w.2.2.1, 480, .inl (fun _ => 0))), (b4, .inl (w.2.2.1, 8, .inl (upd (upd (upd (upd (upd (upd (upd (upd (fun _ => 0) (Int32.toNatClampNeg (0 : Int32)) (-6 : Int32)) (Int32.toNatClampNeg (1 : Int32)) (-6 : Int32)) (Int32.toNatClampNeg (2 : Int32)) (-6 : Int32)) (Int32.toNatClampNeg (3 : Int32)) (-6 : Int32)) (Int32.toNatClampNeg (4 : Int32)) (-6 : Int32)) (Int32.toNatClampNeg (5 : Int32)) (-6 : Int32)) (Int32.toNatClampNeg (6 : Int32)) (-6 : Int32)) (Int32.toNatClampNeg (7 : Int32)) (-6 : Int32)))), (b5, .inl (w.2.2.1, 100, .inl (fun _ => 0))), (b6, .inl (w.2.2.1, 800, .inl (fun _ => 0))), (b7, .inl (w.2.2.1, 8, .inl (fun _ => 0))), (b8, .inl (w.2.2.1, 16, .inl (fun _ => 0))), (b9, .inl (w.2.2.1, 16, .inl (fun _ => 0))), (b10, .inl (w.2.2.1, 16, .inl (fun _ => 0))), (b11, .inl (w.2.2.2.2, 3600, .inl (fun _ => 0))), (b12, .inl (w.2.2.1, 3600, .inl (fun _ => 0))), (b13, .inl (w.2.2.2.2, 60, .inl (fun _ => 0))), (b14, .inl (w.2.2.1, 7200, .inl (fun _ => 0))), (b15, .inl (w.2.2.1, 600, .inl (fun _ => 0))), (b16, .inl (w.2.2.1, 600, .inl (fun _ => 0))), (b17, .inl (w.2.2.1, 101, .inl (fun _ => 0))), (b18, .inl (w.2.2.1, 101, .inl (fun _ => 0))), (b19, .inl (w.2.2.1, 101, .inl (fun _ => 0))), (b20, .inl (w.2.2.1, 101, .inl (fun _ => 0))), (b21, .inl (w.2.2.2.1, 780, .inr (.inl (fun _ => 0)))), (b22, .inl (w.2.2.2.1, 13, .inr (.inl (fun _ => 0)))), (b23, .inl (w.2.2.2.1, 13, .inr (.inl (fun _ => 0)))), (b24, .inl (w.2.2.1, 60, .inl (fun _ => 0)))] = q_wl (w.1, (fun i => [b0, b1, b2, b3, b4, b5, b6, b7, b8, b9, b10, b11, b12, b13, b14, b15, b16, b17, b18, b19, b20, b21, b22, b23, b24].getD i 0), w.2.2) SHM MM0 := by
  simp only [q_wl, SHM, List.mapIdx_cons, List.mapIdx_nil, q_cell, q_fv, Nat.zero_add, Nat.reduceAdd]
  rfl
set_option maxRecDepth 100000 in
set_option maxHeartbeats 4000000 in
theorem z_walk {Rel : Nat → QM → QM → Prop} (h0 : Rel 0 MK0 MM0) (hs : Stq Rel) {C : QD} (hc : OKY C RL cL_law 4 room_1) {b Ln : Nat} {xs : Nat → Int32} (hX : OKL C b Ln xs) (hL2 : Ln ≤ 2048) (hend : ∀ (L : List (Nat × Value)) (ws : va_W), WY C 4 580 L [] ws 58 25516) : WY C 4 0 [(0, .ref b)] [] [] 0 0 := by
  refine y_new (ci := 8) (N := 8) (Cn := RX8) (T := TX8) (ty := tyX8) (fs := [.null, .null, .null, .null, .null, .null, .null, .null]) hc dL_law_0 lw_clK iw_8 lw_inK rfl tyX8_ok df_K (by decide) (by decide) (fun a0 => ?_)
  refine y_dup hc dL_law_3 rfl ?_
  refine y_init (n := 0) (As := []) (st := [.ref a0]) (wr := []) hc dL_law_4 lw_icK lw_inK lw_imK lw_lkK rfl (by decide +kernel) rfl 0 [] rfl rfl (by decide) (by decide) (I_X8 (d_w C) a0) (by decide) (by decide) (Nat.le_of_ble_eq_true rfl) (fun u hu => ?_)
  obtain ⟨a1, a2, a3, a4, a5, a6, a7, a8, a9, a10, a11, a12, a13, a14, a15, a16, a17, a18, a19, a20, a21, a22, a23, a24, a25, a26, a27, a28, a29, a30, a31, a32, rfl⟩ := hu
  refine y_ws (ws2 := q_wl ((d_w C).1, (fun i => [a0, a1, a2, a3, a4, a5, a6, a7, a8, a9, a10, a11, a12, a13, a14, a15, a16, a17, a18, a19, a20, a21, a22, a23, a24, a25, a26, a27, a28, a29, a30, a31, a32].getD i 0), (d_w C).2.2) SHK MK0) (c2 := 33) (s2 := 6948) ?_ (w_K0 (d_w C) a0 a1 a2 a3 a4 a5 a6 a7 a8 a9 a10 a11 a12 a13 a14 a15 a16 a17 a18 a19 a20 a21 a22 a23 a24 a25 a26 a27 a28 a29 a30 a31 a32) rfl rfl
  refine y_astore_n (L2 := [(1, .ref a0), (0, .ref b)]) hc dL_law_7 rfl (by decide) rfl ?_
  refine y_new (ci := 9) (N := 34) (Cn := RX9) (T := TX9) (ty := tyX9) (fs := [.int 0, .null, .int 0, .null, .null, .null, .int 0, .null, .null, .null, .int 0, .null, .null, .null, .int 0, .int 0, .null, .null, .int 0, .null, .null, .int 0, .null, .null, .int 0, .null, .null, .int 0, .null, .null, .null, .null, .null, .null]) hc dL_law_8 lw_clM iw_9 lw_inM rfl tyX9_ok df_M (by decide) (by decide) (fun b0 => ?_)
  refine y_dup hc dL_law_11 rfl ?_
  refine y_init (n := 0) (As := []) (st := [.ref b0]) (wr := q_wl ((d_w C).1, (fun i => [a0, a1, a2, a3, a4, a5, a6, a7, a8, a9, a10, a11, a12, a13, a14, a15, a16, a17, a18, a19, a20, a21, a22, a23, a24, a25, a26, a27, a28, a29, a30, a31, a32].getD i 0), (d_w C).2.2) SHK MK0) hc dL_law_12 lw_icM lw_inM lw_imM lw_lkM rfl (by decide +kernel) rfl 33 (List.range 33) ?hC (q_rng _ _ (z_lK _ _)) (by decide) (by decide) (I_X9 (d_w C) b0) (by decide) (by decide) (Nat.le_of_ble_eq_true rfl) (fun u hu => ?_)
  case hC => rw [List.getElem?_append_right (by rw [z_lK]; exact Nat.le_refl _), z_lK]; rfl
  obtain ⟨b1, b2, b3, b4, b5, b6, b7, b8, b9, b10, b11, b12, b13, b14, b15, b16, b17, b18, b19, b20, b21, b22, b23, b24, rfl⟩ := hu
  refine y_ws (ws2 := q_wl ((d_w C).1, (fun i => [a0, a1, a2, a3, a4, a5, a6, a7, a8, a9, a10, a11, a12, a13, a14, a15, a16, a17, a18, a19, a20, a21, a22, a23, a24, a25, a26, a27, a28, a29, a30, a31, a32].getD i 0), (d_w C).2.2) SHK MK0 ++ q_wl ((d_w C).1, (fun i => [b0, b1, b2, b3, b4, b5, b6, b7, b8, b9, b10, b11, b12, b13, b14, b15, b16, b17, b18, b19, b20, b21, b22, b23, b24].getD i 0), (d_w C).2.2) SHM MM0) (c2 := 58) (s2 := 25516) ?_ (congrArg (fun z => _ ++ z) (w_M0 (d_w C) b0 b1 b2 b3 b4 b5 b6 b7 b8 b9 b10 b11 b12 b13 b14 b15 b16 b17 b18 b19 b20 b21 b22 b23 b24)) rfl rfl
  refine y_astore_n (L2 := [(2, .ref b0), (1, .ref a0), (0, .ref b)]) hc dL_law_15 rfl (by decide) rfl ?_
  refine y_iconst hc dL_law_16 kc_0 ?_
  refine y_istore_n (L2 := [(3, .int 0), (2, .ref b0), (1, .ref a0), (0, .ref b)]) hc dL_law_17 rfl (by decide) rfl ?_
  refine y_inj (fun ⟨A, hD⟩ => ?_)
  refine y_sub (L2 := [(3, .int (nI (4 * 0))), (0, .ref b), (1, .ref a0), (2, .ref b0)]) ?_ [0, 3, 2, 1] rfl
  exact z_loop hs hc hX (q_injl hD) (q_injr hD) hL2 hend 512 0 MK0 MM0 rfl h0

set_option maxHeartbeats 4000000 in
theorem whole_open {Rel : Nat → QM → QM → Prop} (h0 : Rel 0 MK0 MM0) (hs : Stq Rel) {p : Program} {e : Env} {s : State} {m : MethodId} {below : List Frame} {meth : Method} {c : Code} (l : Launch) {b L : Nat} {xs : Nat → Int32} (hL : L ≤ 2048) (C0 : lw_At p s m meth c b L xs) : W p l e room_1 s m #[Value.ref b] below meth c s.heap [] 0 0 (lw_Z below #[Value.ref b] s) (entryFrame m ([Value.ref b] : List Value).toArray 4) := by
  obtain ⟨hx, hb, hr, hml, hown, hts0, hX, hbl, hlocks, hgv⟩ := id C0
  have hts : ∀ w ∈ lw_good, w.before #[Value.ref b] s = true := fun w hw => hts0 w (List.mem_filter.mp hw).1
  obtain ⟨c0, iS0, hKn0⟩ := u_known (C := RX0) (T := TX0) (N := 4) (n := 4) hts q_cl0.1 (hts _ iw_0)
  obtain ⟨c1, iS1, hKn1⟩ := u_known (C := RX1) (T := TX1) (N := 10) (n := 10) hts q_cl1.1 (hts _ iw_1)
  obtain ⟨c2, iS2, hKn2⟩ := u_known (C := RX2) (T := TX2) (N := 3) (n := 3) hts q_cl2.1 (hts _ iw_2)
  obtain ⟨c3, iS3, hKn3⟩ := u_known (C := RX3) (T := TX3) (N := 6) (n := 6) hts q_cl3.1 (hts _ iw_3)
  obtain ⟨c4, iS4, hKn4⟩ := u_known (C := RX4) (T := TX4) (N := 2) (n := 2) hts q_cl4.1 (hts _ iw_4)
  obtain ⟨c5, iS5, hKn5⟩ := u_known (C := RX5) (T := TX5) (N := 6) (n := 6) hts q_cl5.1 (hts _ iw_5)
  obtain ⟨c6, iS6, hKn6⟩ := u_known (C := RX6) (T := TX6) (N := 4) (n := 4) hts q_cl6.1 (hts _ iw_6)
  obtain ⟨c7, iS7, hKn7⟩ := u_known (C := RX7) (T := TX7) (N := 10) (n := 10) hts q_cl7.1 (hts _ iw_7)
  obtain ⟨c8, iS8, hKn8⟩ := u_known (C := RX8) (T := TX8) (N := 8) (n := 8) hts q_cl8.1 (hts _ iw_8)
  obtain ⟨c9, iS9, hKn9⟩ := u_known (C := RX9) (T := TX9) (N := 34) (n := 34) hts q_cl9.1 (hts _ iw_9)
  obtain ⟨dC, dI, hKc⟩ : ∃ (dC : Nat → ClassId) (dI : Nat → Nat → Nat), ∀ (k : Nat) (q : vw_C), vwCl[k]? = some q → u_Kn s q.1 q.2.1 q.2.2 (dC k) (dI k) := by
    refine ⟨fun k => match k with | 0 => c0 | 1 => c1 | 2 => c2 | 3 => c3 | 4 => c4 | 5 => c5 | 6 => c6 | 7 => c7 | 8 => c8 | _ => c9, fun k => match k with | 0 => iS0 | 1 => iS1 | 2 => iS2 | 3 => iS3 | 4 => iS4 | 5 => iS5 | 6 => iS6 | 7 => iS7 | 8 => iS8 | _ => iS9, ?_⟩
    intro k q hq
    match k, hq with
    | 0, hq => cases hq; exact hKn0
    | 1, hq => cases hq; exact hKn1
    | 2, hq => cases hq; exact hKn2
    | 3, hq => cases hq; exact hKn3
    | 4, hq => cases hq; exact hKn4
    | 5, hq => cases hq; exact hKn5
    | 6, hq => cases hq; exact hKn6
    | 7, hq => cases hq; exact hKn7
    | 8, hq => cases hq; exact hKn8
    | 9, hq => cases hq; exact hKn9
    | k + 10, hq => cases hq
  obtain ⟨cI, hI1, hI2⟩ := q_arr (hts _ ac_int)
  obtain ⟨cJ, hJ1, hJ2⟩ := q_arr (hts _ ac_long)
  obtain ⟨cZ, hZ1, hZ2⟩ := q_arr (hts _ ac_boolean)
  have hK : va_K (dC, dI) vwCl (q_ty ((dC, dI), fun _ => 0, cI, cJ, cZ)) s := by
    refine ⟨hKc, ?_⟩
    intro k q hq
    match k, hq with
    | 0, hq => cases hq; exact ⟨hI1, hI2⟩
    | 1, hq => cases hq; exact ⟨hJ1, hJ2⟩
    | 2, hq => cases hq; exact ⟨hZ1, hZ2⟩
    | k + 3, hq => cases hq
  have hP : va_P (dC, dI) vwCl [] s.heap := fun k q h => by simp at h
  have hD : va_D (fun q : Nat => s.heap.size ≤ q) [] := ⟨fun i j p q h => by simp at h, fun k q h => by simp at h⟩
  have hl := lv_entry ([.ref b]) (n := 4) (Nat.le_of_ble_eq_true rfl)
  rw [lg_entry_eq]
  generalize (lg_sl ([.ref b]) ++ List.replicate (4 - (lg_sl ([.ref b])).length) Slot.unset).toArray = ls at hl ⊢
  have hl : lv_has ls 4 [(0, .ref b)] := hl
  refine z_walk h0 hs (C := (p, l, e, room_1, s, m, #[Value.ref b], below, meth, c, ((dC, dI), fun _ => 0, cI, cJ, cZ), fun q => s.heap.size ≤ q, lw_Z below #[Value.ref b] s)) ⟨hx, hb, hml, hown, hts, hK, fun _ h => h, rfl⟩ ⟨hX, hbl, Nat.not_le.mpr hbl⟩ hL ?_ ls s.heap [] hl hP hD va_S.rf
  intro L2 ws2 ls2 H2 locs2 hl2 hP2 hD2 hS2
  refine va_forget hS2.2.2 ?_
  refine W.widen (k := 600000) (n := 7302250) (by decide) (by decide) ?_
  refine lv_iconst hx hb dL_law_580 (v := 1) (by decide) ?_
  exact lw_ret hx hb hr hlocks dL_law_581

