def SHK : List QS := [.inr (8, [some 1, some 3, some 8, some 14, some 18, some 24, some 28, some 31]), .inr (4, [some 2, none]), .inl (0, 100), .inr (3, [none, some 4, some 5, some 6, some 7, none]), .inl (0, 60), .inl (0, 60), .inl (0, 480), .inl (0, 8), .inr (6, [some 1, some 9, none, none]), .inr (3, [none, some 10, some 11, some 12, some 13, none]), .inl (0, 100), .inl (0, 100), .inl (0, 800), .inl (0, 8), .inr (5, [some 3, some 15, some 16, some 17, none, none]), .inl (0, 3600), .inl (0, 60), .inl (0, 60), .inr (1, [some 3, some 14, some 19, some 20, some 21, some 22, some 23, none, none, none]), .inl (0, 60), .inl (0, 60), .inl (0, 60), .inl (0, 60), .inl (0, 60), .inr (7, [some 1, some 3, some 25, some 26, some 27, none, none, none, none, none]), .inl (0, 100), .inl (0, 100), .inl (0, 100), .inr (0, [some 3, some 29, some 30, none]), .inl (1, 780), .inl (1, 13), .inr (2, [some 3, some 32, none]), .inl (0, 60)]
theorem sh_0 : SHK[0]? = some (.inr (8, [some 1, some 3, some 8, some 14, some 18, some 24, some 28, some 31])) := rfl
theorem sh_1 : SHK[1]? = some (.inr (4, [some 2, none])) := rfl
theorem sh_2 : SHK[2]? = some (.inl (0, 100)) := rfl
theorem sh_3 : SHK[3]? = some (.inr (3, [none, some 4, some 5, some 6, some 7, none])) := rfl
theorem sh_4 : SHK[4]? = some (.inl (0, 60)) := rfl
theorem sh_5 : SHK[5]? = some (.inl (0, 60)) := rfl
theorem sh_6 : SHK[6]? = some (.inl (0, 480)) := rfl
theorem sh_7 : SHK[7]? = some (.inl (0, 8)) := rfl
theorem sh_8 : SHK[8]? = some (.inr (6, [some 1, some 9, none, none])) := rfl
theorem sh_9 : SHK[9]? = some (.inr (3, [none, some 10, some 11, some 12, some 13, none])) := rfl
theorem sh_10 : SHK[10]? = some (.inl (0, 100)) := rfl
theorem sh_11 : SHK[11]? = some (.inl (0, 100)) := rfl
theorem sh_12 : SHK[12]? = some (.inl (0, 800)) := rfl
theorem sh_13 : SHK[13]? = some (.inl (0, 8)) := rfl
theorem sh_14 : SHK[14]? = some (.inr (5, [some 3, some 15, some 16, some 17, none, none])) := rfl
theorem sh_15 : SHK[15]? = some (.inl (0, 3600)) := rfl
theorem sh_16 : SHK[16]? = some (.inl (0, 60)) := rfl
theorem sh_17 : SHK[17]? = some (.inl (0, 60)) := rfl
theorem sh_18 : SHK[18]? = some (.inr (1, [some 3, some 14, some 19, some 20, some 21, some 22, some 23, none, none, none])) := rfl
theorem sh_19 : SHK[19]? = some (.inl (0, 60)) := rfl
theorem sh_20 : SHK[20]? = some (.inl (0, 60)) := rfl
theorem sh_21 : SHK[21]? = some (.inl (0, 60)) := rfl
theorem sh_22 : SHK[22]? = some (.inl (0, 60)) := rfl
theorem sh_23 : SHK[23]? = some (.inl (0, 60)) := rfl
theorem sh_24 : SHK[24]? = some (.inr (7, [some 1, some 3, some 25, some 26, some 27, none, none, none, none, none])) := rfl
theorem sh_25 : SHK[25]? = some (.inl (0, 100)) := rfl
theorem sh_26 : SHK[26]? = some (.inl (0, 100)) := rfl
theorem sh_27 : SHK[27]? = some (.inl (0, 100)) := rfl
theorem sh_28 : SHK[28]? = some (.inr (0, [some 3, some 29, some 30, none])) := rfl
theorem sh_29 : SHK[29]? = some (.inl (1, 780)) := rfl
theorem sh_30 : SHK[30]? = some (.inl (1, 13)) := rfl
theorem sh_31 : SHK[31]? = some (.inr (2, [some 3, some 32, none])) := rfl
theorem sh_32 : SHK[32]? = some (.inl (0, 60)) := rfl
def SHM : List QS := [.inr (9, [none, some 1, none, some 2, some 3, some 4, none, some 5, some 6, some 7, none, some 8, some 9, some 10, none, none, some 11, some 12, none, some 13, some 14, none, some 15, some 16, none, some 17, some 18, none, some 19, some 20, some 21, some 22, some 23, some 24]), .inl (0, 100), .inl (0, 60), .inl (0, 480), .inl (0, 8), .inl (0, 100), .inl (0, 800), .inl (0, 8), .inl (0, 16), .inl (0, 16), .inl (0, 16), .inl (2, 3600), .inl (0, 3600), .inl (2, 60), .inl (0, 7200), .inl (0, 600), .inl (0, 600), .inl (0, 101), .inl (0, 101), .inl (0, 101), .inl (0, 101), .inl (1, 780), .inl (1, 13), .inl (1, 13), .inl (0, 60)]
theorem sm_0 : SHM[0]? = some (.inr (9, [none, some 1, none, some 2, some 3, some 4, none, some 5, some 6, some 7, none, some 8, some 9, some 10, none, none, some 11, some 12, none, some 13, some 14, none, some 15, some 16, none, some 17, some 18, none, some 19, some 20, some 21, some 22, some 23, some 24])) := rfl
theorem sm_1 : SHM[1]? = some (.inl (0, 100)) := rfl
theorem sm_2 : SHM[2]? = some (.inl (0, 60)) := rfl
theorem sm_3 : SHM[3]? = some (.inl (0, 480)) := rfl
theorem sm_4 : SHM[4]? = some (.inl (0, 8)) := rfl
theorem sm_5 : SHM[5]? = some (.inl (0, 100)) := rfl
theorem sm_6 : SHM[6]? = some (.inl (0, 800)) := rfl
theorem sm_7 : SHM[7]? = some (.inl (0, 8)) := rfl
theorem sm_8 : SHM[8]? = some (.inl (0, 16)) := rfl
theorem sm_9 : SHM[9]? = some (.inl (0, 16)) := rfl
theorem sm_10 : SHM[10]? = some (.inl (0, 16)) := rfl
theorem sm_11 : SHM[11]? = some (.inl (2, 3600)) := rfl
theorem sm_12 : SHM[12]? = some (.inl (0, 3600)) := rfl
theorem sm_13 : SHM[13]? = some (.inl (2, 60)) := rfl
theorem sm_14 : SHM[14]? = some (.inl (0, 7200)) := rfl
theorem sm_15 : SHM[15]? = some (.inl (0, 600)) := rfl
theorem sm_16 : SHM[16]? = some (.inl (0, 600)) := rfl
theorem sm_17 : SHM[17]? = some (.inl (0, 101)) := rfl
theorem sm_18 : SHM[18]? = some (.inl (0, 101)) := rfl
theorem sm_19 : SHM[19]? = some (.inl (0, 101)) := rfl
theorem sm_20 : SHM[20]? = some (.inl (0, 101)) := rfl
theorem sm_21 : SHM[21]? = some (.inl (1, 780)) := rfl
theorem sm_22 : SHM[22]? = some (.inl (1, 13)) := rfl
theorem sm_23 : SHM[23]? = some (.inl (1, 13)) := rfl
theorem sm_24 : SHM[24]? = some (.inl (0, 60)) := rfl
theorem q_s {C : QC} {SH : List QS} (h : q_SH C = SH) {o : Nat} {x : QS} (hx : SH[o]? = some x) : (q_SH C)[o]? = some x := by rw [h]; exact hx
theorem q_cn {C : QC} {SH : List QS} (h : q_SH C = SH) {y : MethodName} {cy : ByteArray} {maxL : Nat} {rt : Option FieldType} {d : Nat} {av : List Value} {M M2 : QM} {r : Option Value} (hm : Cn y cy maxL rt d SH av M r M2) : Cn y cy maxL rt d (q_SH C) av M r M2 := by rw [h]; exact hm
theorem x_sub {C : QC} {nL pc : Nat} {L L2 : List (Nat × Value)} {st : List Value} {M : QM} (k : WX C nL pc L2 st M) (ks : List Nat) (hL : ks.filterMap (fun k => L[k]?) = L2) : WX C nL pc L st M := by
  obtain ⟨p, l, e, R, s, m, args, below, meth, c, w, SH, r, Mf⟩ := C
  intro ls H locs hl hP hS
  refine k ls H locs (lv_sub hl ks ?_) hP hS
  subst hL
  unfold lv_pick q_L
  rw [List.map_filterMap]
  congr 1
  funext k
  rw [List.getElem?_map]
theorem sum_r {α β γ : Type} {f : α → Option γ} {g : β → Option γ} {x : β} {c : γ} (h : Sum.elim f g (.inr x) = some c) : g x = some c := h
theorem sum_l {α β γ : Type} {f : α → Option γ} {g : β → Option γ} {x : α} {c : γ} (h : Sum.elim f g (.inl x) = some c) : f x = some c := h
theorem q_hit {x k : Int32} {a o d : Int} {r : List (Int × Int)} (h : x = k) (hk : k.toInt = a) : Op.lookupswitch.offset ((a, o) :: r) d x.toInt = o := by
  rw [Op.lookupswitch.offset_cons, if_pos]
  rw [h, hk]
theorem q_dec (x : Int32) : x + Int32.ofInt (-1) = x - 1 := by
  rw [Int32.sub_eq_add_neg]
  rfl
theorem nar_0 : vp_nar .boolean 0 = 0 := rfl
theorem nar_1 : vp_nar .boolean 1 = 1 := rfl
theorem x_ldc_w {C : QC} {own : String} {cc : ByteArray} {nL d : Nat} {ret : Option FieldType} (hc : OKX C own cc nL d ret) {pc : Nat} {L : List (Nat × Value)} {st : List Value} {M : QM} {n : Nat} {v : Int32} (hd : decode cc pc = .ok (.ldc_w n, 3)) (hv : Cond.constant own n v ∈ lw_good) (k : WX C nL (pc + 3) L (.int v :: st) M) : WX C nL pc L st M := by
  obtain ⟨p, l, e, R, s, m, args, below, meth, c, w, SH, r, Mf⟩ := C
  intro ls H locs hl hP hS
  exact lv_ldcw hc.1 hc.2.1 hc.2.2.2.1 (hc.2.2.2.2.1 _ hv) hd (k ls H locs hl hP hS)
theorem x_callVi {C : QC} {own : String} {cc : ByteArray} {nL d : Nat} {ret : Option FieldType} (hc : OKX C own cc nL d ret) {pc : Nat} {L : List (Nat × Value)} {st : List Value} {M : QM} {idx ci o n d1 maxL : Nat} {fs : List (Option Nat)} {y : MethodName} {cy : ByteArray} {rt : Option FieldType} {As : List Value} {v : Int32} {M1 : QM} (hd : decode cc pc = .ok (.invokevirtual idx, 3)) (hy : CV y cy maxL rt n) (hlk : Cond.methodLink own idx y ∈ lw_good) (ho : (q_SH C)[o]? = some (.inr (ci, fs))) (hci : (vwCl[ci]?).map (fun q => q.1) = some y.cls) (hn : As.length = n) (hM : Cn y cy maxL rt d1 (q_SH C) (.ref o :: As) M (some (.int v)) M1) (hdd : d1 < d) (hst : (st.map fun v => v.category).sum ≤ 8) (k : WX C nL (pc + 3) L (.int v :: st) M1) : WX C nL pc L (As.reverse ++ .ref o :: st) M := x_callV hc hd hy hlk ho hci hn hM hdd hst (q_num_i v) k
theorem x_callSi {C : QC} {own : String} {cc : ByteArray} {nL d : Nat} {ret : Option FieldType} (hc : OKX C own cc nL d ret) {pc : Nat} {L : List (Nat × Value)} {st : List Value} {M : QM} {idx n d1 maxL : Nat} {y : MethodName} {cy : ByteArray} {rt : Option FieldType} {As : List Value} {v : Int32} {M1 : QM} (hd : decode cc pc = .ok (.invokestatic idx, 3)) (hy : CS y cy maxL rt n) (hlk : Cond.methodLink own idx y ∈ lw_good) (hn : As.length = n) (hM : Cn y cy maxL rt d1 (q_SH C) As M (some (.int v)) M1) (hdd : d1 < d) (hst : (st.map fun v => v.category).sum ≤ 8) (k : WX C nL (pc + 3) L (.int v :: st) M1) : WX C nL pc L (As.reverse ++ st) M := x_callS hc hd hy hlk hn hM hdd hst (q_num_i v) k
theorem x_callVl {C : QC} {own : String} {cc : ByteArray} {nL d : Nat} {ret : Option FieldType} (hc : OKX C own cc nL d ret) {pc : Nat} {L : List (Nat × Value)} {st : List Value} {M : QM} {idx ci o n d1 maxL : Nat} {fs : List (Option Nat)} {y : MethodName} {cy : ByteArray} {rt : Option FieldType} {As : List Value} {v : Int64} {M1 : QM} (hd : decode cc pc = .ok (.invokevirtual idx, 3)) (hy : CV y cy maxL rt n) (hlk : Cond.methodLink own idx y ∈ lw_good) (ho : (q_SH C)[o]? = some (.inr (ci, fs))) (hci : (vwCl[ci]?).map (fun q => q.1) = some y.cls) (hn : As.length = n) (hM : Cn y cy maxL rt d1 (q_SH C) (.ref o :: As) M (some (.long v)) M1) (hdd : d1 < d) (hst : (st.map fun v => v.category).sum ≤ 8) (k : WX C nL (pc + 3) L (.long v :: st) M1) : WX C nL pc L (As.reverse ++ .ref o :: st) M := x_callV hc hd hy hlk ho hci hn hM hdd hst (q_num_l v) k
theorem x_callSl {C : QC} {own : String} {cc : ByteArray} {nL d : Nat} {ret : Option FieldType} (hc : OKX C own cc nL d ret) {pc : Nat} {L : List (Nat × Value)} {st : List Value} {M : QM} {idx n d1 maxL : Nat} {y : MethodName} {cy : ByteArray} {rt : Option FieldType} {As : List Value} {v : Int64} {M1 : QM} (hd : decode cc pc = .ok (.invokestatic idx, 3)) (hy : CS y cy maxL rt n) (hlk : Cond.methodLink own idx y ∈ lw_good) (hn : As.length = n) (hM : Cn y cy maxL rt d1 (q_SH C) As M (some (.long v)) M1) (hdd : d1 < d) (hst : (st.map fun v => v.category).sum ≤ 8) (k : WX C nL (pc + 3) L (.long v :: st) M1) : WX C nL pc L (As.reverse ++ st) M := x_callS hc hd hy hlk hn hM hdd hst (q_num_l v) k
theorem x_callVv {C : QC} {own : String} {cc : ByteArray} {nL d : Nat} {ret : Option FieldType} (hc : OKX C own cc nL d ret) {pc : Nat} {L : List (Nat × Value)} {st : List Value} {M : QM} {idx ci o n d1 maxL : Nat} {fs : List (Option Nat)} {y : MethodName} {cy : ByteArray} {rt : Option FieldType} {As : List Value} {M1 : QM} (hd : decode cc pc = .ok (.invokevirtual idx, 3)) (hy : CV y cy maxL rt n) (hlk : Cond.methodLink own idx y ∈ lw_good) (ho : (q_SH C)[o]? = some (.inr (ci, fs))) (hci : (vwCl[ci]?).map (fun q => q.1) = some y.cls) (hn : As.length = n) (hM : Cn y cy maxL rt d1 (q_SH C) (.ref o :: As) M none M1) (hdd : d1 < d) (hst : (st.map fun v => v.category).sum ≤ 8) (k : WX C nL (pc + 3) L st M1) : WX C nL pc L (As.reverse ++ .ref o :: st) M := x_callV hc hd hy hlk ho hci hn hM hdd hst q_num_v k
theorem x_callSv {C : QC} {own : String} {cc : ByteArray} {nL d : Nat} {ret : Option FieldType} (hc : OKX C own cc nL d ret) {pc : Nat} {L : List (Nat × Value)} {st : List Value} {M : QM} {idx n d1 maxL : Nat} {y : MethodName} {cy : ByteArray} {rt : Option FieldType} {As : List Value} {M1 : QM} (hd : decode cc pc = .ok (.invokestatic idx, 3)) (hy : CS y cy maxL rt n) (hlk : Cond.methodLink own idx y ∈ lw_good) (hn : As.length = n) (hM : Cn y cy maxL rt d1 (q_SH C) As M none M1) (hdd : d1 < d) (hst : (st.map fun v => v.category).sum ≤ 8) (k : WX C nL (pc + 3) L st M1) : WX C nL pc L (As.reverse ++ st) M := x_callS hc hd hy hlk hn hM hdd hst q_num_v k
set_option maxRecDepth 20000 in
theorem kc_1 : Int32.ofInt (1) = 1 := by decide
set_option maxRecDepth 20000 in
theorem kd_RJ6_265 : Cond.constant RJ6 265 (1431655765) ∈ lw_good := q_mem 458 rfl rfl
set_option maxRecDepth 20000 in
theorem kd_RJ6_266 : Cond.constant RJ6 266 (858993459) ∈ lw_good := q_mem 459 rfl rfl
set_option maxRecDepth 20000 in
theorem kc_2 : Int32.ofInt (2) = 2 := by decide
set_option maxRecDepth 20000 in
theorem kc_4 : Int32.ofInt (4) = 4 := by decide
set_option maxRecDepth 20000 in
theorem kd_RJ6_267 : Cond.constant RJ6 267 (252645135) ∈ lw_good := q_mem 460 rfl rfl
set_option maxRecDepth 20000 in
theorem kb_8 : (Int8.ofInt (8)).toInt32 = 8 := by decide
set_option maxRecDepth 20000 in
theorem kb_16 : (Int8.ofInt (16)).toInt32 = 16 := by decide
set_option maxRecDepth 20000 in
theorem kb_63 : (Int8.ofInt (63)).toInt32 = 63 := by decide
set_option maxRecDepth 20000 in
theorem kc_0 : Int32.ofInt (0) = 0 := by decide
set_option maxRecDepth 20000 in
theorem fl_RX4_15 : FL RX4 15 4 1 := ⟨_, rfl, by decide, q_mem 101 rfl rfl⟩
set_option maxRecDepth 20000 in
theorem fw_4_1 (v : Int32) : FW 4 1 v := ⟨_, .int, rfl, rfl, by decide +kernel, rfl, rfl⟩
set_option maxRecDepth 20000 in
theorem kb_100 : (Int8.ofInt (100)).toInt32 = 100 := by decide
set_option maxRecDepth 20000 in
theorem fl_RX4_9 : FL RX4 9 4 0 := ⟨_, rfl, by decide, q_mem 100 rfl rfl⟩
set_option maxRecDepth 20000 in
theorem fl_RX3_34 : FL RX3 34 3 5 := ⟨_, rfl, by decide, q_mem 122 rfl rfl⟩
set_option maxRecDepth 20000 in
theorem kb_m6 : (Int8.ofInt (-6)).toInt32 = -6 := by decide
set_option maxRecDepth 20000 in
theorem fl_RX3_9 : FL RX3 9 3 0 := ⟨_, rfl, by decide, q_mem 117 rfl rfl⟩
set_option maxRecDepth 20000 in
theorem fl_RX3_15 : FL RX3 15 3 1 := ⟨_, rfl, by decide, q_mem 118 rfl rfl⟩
set_option maxRecDepth 20000 in
theorem fl_RX3_19 : FL RX3 19 3 2 := ⟨_, rfl, by decide, q_mem 119 rfl rfl⟩
set_option maxRecDepth 20000 in
theorem fw_3_5 (v : Int32) : FW 3 5 v := ⟨_, .int, rfl, rfl, by decide +kernel, rfl, rfl⟩
set_option maxRecDepth 20000 in
theorem fl_RX3_25 : FL RX3 25 3 4 := ⟨_, rfl, by decide, q_mem 121 rfl rfl⟩
set_option maxRecDepth 20000 in
theorem lk_RX3_28 : Cond.methodLink RX3 28 yJ7_fill_53178 ∈ lw_good := q_mem 114 rfl rfl
set_option maxRecDepth 20000 in
theorem cs_J7_fill_53178 : CS yJ7_fill_53178 cJ7_fill_53178 4 none 2 := ⟨q_mem 116 rfl rfl, q_mem 115 rfl rfl, q_mem 76 rfl rfl, by decide +kernel, by decide⟩
set_option maxRecDepth 20000 in
theorem lk_RX3_37 : Cond.methodLink RX3 37 yX3_nameAt ∈ lw_good := q_mem 809 rfl rfl
set_option maxRecDepth 20000 in
theorem cv_X3_nameAt : CV yX3_nameAt cX3_nameAt 2 (some .int) 1 := ⟨q_mem 360 rfl rfl, q_mem 358 rfl rfl, q_mem 359 rfl rfl, q_mem 75 rfl rfl, by decide +kernel, by decide⟩
set_option maxRecDepth 20000 in
theorem fl_RX3_22 : FL RX3 22 3 3 := ⟨_, rfl, by decide, q_mem 120 rfl rfl⟩
set_option maxRecDepth 20000 in
theorem fl_RX6_20 : FL RX6 20 6 1 := ⟨_, rfl, by decide, q_mem 145 rfl rfl⟩
set_option maxRecDepth 20000 in
theorem lk_RX6_51 : Cond.methodLink RX6 51 yX3_nameAt ∈ lw_good := q_mem 357 rfl rfl
set_option maxRecDepth 20000 in
theorem lk_RX6_54 : Cond.methodLink RX6 54 yX6_nodeOf ∈ lw_good := q_mem 400 rfl rfl
set_option maxRecDepth 20000 in
theorem ks_1000 : (Int16.ofInt (1000)).toInt32 = 1000 := by decide
set_option maxRecDepth 20000 in
theorem cv_X6_nodeOf : CV yX6_nodeOf cX6_nodeOf 4 (some .int) 1 := ⟨q_mem 403 rfl rfl, q_mem 402 rfl rfl, q_mem 4 rfl rfl, q_mem 77 rfl rfl, by decide +kernel, by decide⟩
set_option maxRecDepth 20000 in
theorem lk_RX6_48 : Cond.methodLink RX6 48 yX3_nodes ∈ lw_good := q_mem 404 rfl rfl
set_option maxRecDepth 20000 in
theorem cv_X3_nodes : CV yX3_nodes cX3_nodes 1 (some .int) 0 := ⟨q_mem 407 rfl rfl, q_mem 405 rfl rfl, q_mem 406 rfl rfl, q_mem 75 rfl rfl, by decide +kernel, by decide⟩
set_option maxRecDepth 20000 in
theorem lk_RX6_57 : Cond.methodLink RX6 57 yX3_partAt ∈ lw_good := q_mem 408 rfl rfl
set_option maxRecDepth 20000 in
theorem cv_X3_partAt : CV yX3_partAt cX3_partAt 3 (some .int) 2 := ⟨q_mem 411 rfl rfl, q_mem 409 rfl rfl, q_mem 410 rfl rfl, q_mem 75 rfl rfl, by decide +kernel, by decide⟩
set_option maxRecDepth 20000 in
theorem lk_RX6_32 : Cond.methodLink RX6 32 yX3_clear ∈ lw_good := q_mem 345 rfl rfl
set_option maxRecDepth 20000 in
theorem cv_X3_clear : CV yX3_clear cX3_clear 1 none 0 := ⟨q_mem 348 rfl rfl, q_mem 346 rfl rfl, q_mem 347 rfl rfl, q_mem 75 rfl rfl, by decide +kernel, by decide⟩
set_option maxRecDepth 20000 in
theorem lk_RX6_61 : Cond.methodLink RX6 61 yX3_signOf ∈ lw_good := q_mem 420 rfl rfl
set_option maxRecDepth 20000 in
theorem cv_X3_signOf : CV yX3_signOf cX3_signOf 2 (some .int) 1 := ⟨q_mem 423 rfl rfl, q_mem 421 rfl rfl, q_mem 422 rfl rfl, q_mem 75 rfl rfl, by decide +kernel, by decide⟩
set_option maxRecDepth 20000 in
theorem lk_RX6_64 : Cond.methodLink RX6 64 yX3_addNode ∈ lw_good := q_mem 371 rfl rfl
set_option maxRecDepth 20000 in
theorem cv_X3_addNode : CV yX3_addNode cX3_addNode 2 (some .int) 1 := ⟨q_mem 374 rfl rfl, q_mem 372 rfl rfl, q_mem 373 rfl rfl, q_mem 75 rfl rfl, by decide +kernel, by decide⟩
set_option maxRecDepth 20000 in
theorem lk_RX6_67 : Cond.methodLink RX6 67 yX3_setPart ∈ lw_good := q_mem 383 rfl rfl
set_option maxRecDepth 20000 in
theorem cv_X3_setPart : CV yX3_setPart cX3_setPart 4 none 3 := ⟨q_mem 386 rfl rfl, q_mem 384 rfl rfl, q_mem 385 rfl rfl, q_mem 75 rfl rfl, by decide +kernel, by decide⟩
set_option maxRecDepth 20000 in
theorem lk_RX6_71 : Cond.methodLink RX6 71 yX3_setName ∈ lw_good := q_mem 387 rfl rfl
set_option maxRecDepth 20000 in
theorem cv_X3_setName : CV yX3_setName cX3_setName 3 none 2 := ⟨q_mem 390 rfl rfl, q_mem 388 rfl rfl, q_mem 389 rfl rfl, q_mem 75 rfl rfl, by decide +kernel, by decide⟩
set_option maxRecDepth 20000 in
theorem kb_42 : (Int8.ofInt (42)).toInt32 = 42 := by decide
set_option maxRecDepth 20000 in
theorem kb_62 : (Int8.ofInt (62)).toInt32 = 62 := by decide
set_option maxRecDepth 20000 in
theorem fl_RX6_24 : FL RX6 24 6 2 := ⟨_, rfl, by decide, q_mem 146 rfl rfl⟩
set_option maxRecDepth 20000 in
theorem fw_6_2 (v : Int32) : FW 6 2 v := ⟨_, .int, rfl, rfl, by decide +kernel, rfl, rfl⟩
set_option maxRecDepth 20000 in
theorem fl_RX6_28 : FL RX6 28 6 3 := ⟨_, rfl, by decide, q_mem 147 rfl rfl⟩
set_option maxRecDepth 20000 in
theorem fw_6_3 (v : Int32) (h : v = 0 ∨ v = 1) : FW 6 3 v := by rcases h with rfl | rfl <;> exact ⟨_, .boolean, rfl, rfl, by decide +kernel, rfl, rfl⟩
set_option maxRecDepth 20000 in
theorem lk_RX6_35 : Cond.methodLink RX6 35 yX6_readNaming ∈ lw_good := q_mem 349 rfl rfl
set_option maxRecDepth 20000 in
theorem fl_RX6_9 : FL RX6 9 6 0 := ⟨_, rfl, by decide, q_mem 144 rfl rfl⟩
set_option maxRecDepth 20000 in
theorem lk_RX6_44 : Cond.methodLink RX6 44 yX4_signAt ∈ lw_good := q_mem 353 rfl rfl
set_option maxRecDepth 20000 in
theorem cv_X4_signAt : CV yX4_signAt cX4_signAt 2 (some .int) 1 := ⟨q_mem 356 rfl rfl, q_mem 354 rfl rfl, q_mem 355 rfl rfl, q_mem 74 rfl rfl, by decide +kernel, by decide⟩
set_option maxRecDepth 20000 in
theorem kb_65 : (Int8.ofInt (65)).toInt32 = 65 := by decide
set_option maxRecDepth 20000 in
theorem kb_61 : (Int8.ofInt (61)).toInt32 = 61 := by decide
set_option maxRecDepth 20000 in
theorem lk_RX6_75 : Cond.methodLink RX6 75 yX6_readKind ∈ lw_good := q_mem 361 rfl rfl
set_option maxRecDepth 20000 in
theorem kb_12 : (Int8.ofInt (12)).toInt32 = 12 := by decide
set_option maxRecDepth 20000 in
theorem lk_RX6_78 : Cond.methodLink RX6 78 yX6_isKindSign ∈ lw_good := q_mem 365 rfl rfl
set_option maxRecDepth 20000 in
theorem cs_X6_isKindSign : CS yX6_isKindSign cX6_isKindSign 1 (some .boolean) 1 := ⟨q_mem 367 rfl rfl, q_mem 366 rfl rfl, q_mem 77 rfl rfl, by decide +kernel, by decide⟩
set_option maxRecDepth 20000 in
theorem kb_123 : (Int8.ofInt (123)).toInt32 = 123 := by decide
set_option maxRecDepth 20000 in
theorem kb_93 : (Int8.ofInt (93)).toInt32 = 93 := by decide
set_option maxRecDepth 20000 in
theorem lk_RX6_85 : Cond.methodLink RX6 85 yX6_readLetters ∈ lw_good := q_mem 375 rfl rfl
set_option maxRecDepth 20000 in
theorem kb_97 : (Int8.ofInt (97)).toInt32 = 97 := by decide
set_option maxRecDepth 20000 in
theorem lk_RX6_88 : Cond.methodLink RX6 88 yX6_readPart ∈ lw_good := q_mem 379 rfl rfl
set_option maxRecDepth 20000 in
theorem cv_X6_readKind : CV yX6_readKind cX6_readKind 4 (some .int) 1 := ⟨q_mem 364 rfl rfl, q_mem 363 rfl rfl, q_mem 1 rfl rfl, q_mem 77 rfl rfl, by decide +kernel, by decide⟩
set_option maxRecDepth 20000 in
theorem cv_X6_readPart : CV yX6_readPart cX6_readPart 4 none 3 := ⟨q_mem 382 rfl rfl, q_mem 381 rfl rfl, q_mem 3 rfl rfl, q_mem 77 rfl rfl, by decide +kernel, by decide⟩
set_option maxRecDepth 20000 in
theorem cv_X6_readLetters : CV yX6_readLetters cX6_readLetters 8 none 3 := ⟨q_mem 378 rfl rfl, q_mem 377 rfl rfl, q_mem 2 rfl rfl, q_mem 77 rfl rfl, by decide +kernel, by decide⟩
set_option maxRecDepth 20000 in
theorem kb_125 : (Int8.ofInt (125)).toInt32 = 125 := by decide
set_option maxRecDepth 20000 in
theorem kb_91 : (Int8.ofInt (91)).toInt32 = 91 := by decide
set_option maxRecDepth 20000 in
theorem lk_RX6_82 : Cond.methodLink RX6 82 yX6_needsParts ∈ lw_good := q_mem 368 rfl rfl
set_option maxRecDepth 20000 in
theorem cs_X6_needsParts : CS yX6_needsParts cX6_needsParts 1 (some .boolean) 1 := ⟨q_mem 370 rfl rfl, q_mem 369 rfl rfl, q_mem 77 rfl rfl, by decide +kernel, by decide⟩
set_option maxRecDepth 20000 in
theorem kb_73 : (Int8.ofInt (73)).toInt32 = 73 := by decide
set_option maxRecDepth 20000 in
theorem cv_X6_readNaming : CV yX6_readNaming cX6_readNaming 2 none 0 := ⟨q_mem 352 rfl rfl, q_mem 351 rfl rfl, q_mem 0 rfl rfl, q_mem 77 rfl rfl, by decide +kernel, by decide⟩
set_option maxRecDepth 20000 in
theorem lk_RX6_38 : Cond.methodLink RX6 38 yX4_length ∈ lw_good := q_mem 391 rfl rfl
set_option maxRecDepth 20000 in
theorem cv_X4_length : CV yX4_length cX4_length 1 (some .int) 0 := ⟨q_mem 328 rfl rfl, q_mem 326 rfl rfl, q_mem 327 rfl rfl, q_mem 74 rfl rfl, by decide +kernel, by decide⟩
set_option maxRecDepth 20000 in
theorem kb_59 : (Int8.ofInt (59)).toInt32 = 59 := by decide
set_option maxRecDepth 20000 in
theorem lk_RX5_51 : Cond.methodLink RX5 51 yX5_mayStand ∈ lw_good := q_mem 522 rfl rfl
set_option maxRecDepth 20000 in
theorem lk_RX5_46 : Cond.methodLink RX5 46 yX5_stepsOf ∈ lw_good := q_mem 490 rfl rfl
set_option maxRecDepth 20000 in
theorem kb_60 : (Int8.ofInt (60)).toInt32 = 60 := by decide
set_option maxRecDepth 20000 in
theorem lk_RX5_106 : Cond.methodLink RX5 106 yX5_stepsOfPair ∈ lw_good := q_mem 494 rfl rfl
set_option maxRecDepth 20000 in
theorem kd_RX5_50 : Cond.constant RX5 50 (1000000) ∈ lw_good := q_mem 481 rfl rfl
set_option maxRecDepth 20000 in
theorem ks_3600 : (Int16.ofInt (3600)).toInt32 = 3600 := by decide
set_option maxRecDepth 20000 in
theorem fl_RX5_15 : FL RX5 15 5 1 := ⟨_, rfl, by decide, q_mem 164 rfl rfl⟩
set_option maxRecDepth 20000 in
theorem cv_X5_stepsOfPair : CV yX5_stepsOfPair cX5_stepsOfPair 2 (some .int) 1 := ⟨q_mem 497 rfl rfl, q_mem 496 rfl rfl, q_mem 10 rfl rfl, q_mem 78 rfl rfl, by decide +kernel, by decide⟩
set_option maxRecDepth 20000 in
theorem cv_X5_stepsOf : CV yX5_stepsOf cX5_stepsOf 3 (some .int) 2 := ⟨q_mem 493 rfl rfl, q_mem 492 rfl rfl, q_mem 9 rfl rfl, q_mem 78 rfl rfl, by decide +kernel, by decide⟩
set_option maxRecDepth 20000 in
theorem cv_X5_mayStand : CV yX5_mayStand cX5_mayStand 3 (some .boolean) 2 := ⟨q_mem 513 rfl rfl, q_mem 511 rfl rfl, q_mem 512 rfl rfl, q_mem 78 rfl rfl, by decide +kernel, by decide⟩
set_option maxRecDepth 20000 in
theorem fl_RX5_9 : FL RX5 9 5 0 := ⟨_, rfl, by decide, q_mem 163 rfl rfl⟩
set_option maxRecDepth 20000 in
theorem lk_RX5_32 : Cond.methodLink RX5 32 yX3_nodes ∈ lw_good := q_mem 470 rfl rfl
set_option maxRecDepth 20000 in
theorem fl_RX5_29 : FL RX5 29 5 5 := ⟨_, rfl, by decide, q_mem 168 rfl rfl⟩
set_option maxRecDepth 20000 in
theorem lk_RX5_38 : Cond.methodLink RX5 38 yX5_startPairs ∈ lw_good := q_mem 471 rfl rfl
set_option maxRecDepth 20000 in
theorem lk_RX5_93 : Cond.methodLink RX5 93 yX5_fitByThemselves ∈ lw_good := q_mem 475 rfl rfl
set_option maxRecDepth 20000 in
theorem lk_RX5_62 : Cond.methodLink RX5 62 yX3_signOf ∈ lw_good := q_mem 479 rfl rfl
set_option maxRecDepth 20000 in
theorem kb_33 : (Int8.ofInt (33)).toInt32 = 33 := by decide
set_option maxRecDepth 20000 in
theorem kb_46 : (Int8.ofInt (46)).toInt32 = 46 := by decide
set_option maxRecDepth 20000 in
theorem lk_RX5_103 : Cond.methodLink RX5 103 yX3_slotsOf ∈ lw_good := q_mem 480 rfl rfl
set_option maxRecDepth 20000 in
theorem cv_X3_slotsOf : CV yX3_slotsOf cX3_slotsOf 2 (some .int) 1 := ⟨q_mem 454 rfl rfl, q_mem 452 rfl rfl, q_mem 453 rfl rfl, q_mem 75 rfl rfl, by decide +kernel, by decide⟩
set_option maxRecDepth 20000 in
theorem kc_m1 : Int32.ofInt (-1) = -1 := by decide
set_option maxRecDepth 20000 in
theorem cv_X5_fitByThemselves : CV yX5_fitByThemselves cX5_fitByThemselves 4 (some .boolean) 2 := ⟨q_mem 478 rfl rfl, q_mem 477 rfl rfl, q_mem 6 rfl rfl, q_mem 78 rfl rfl, by decide +kernel, by decide⟩
set_option maxRecDepth 20000 in
theorem lk_RX5_96 : Cond.methodLink RX5 96 yX5_setSteps ∈ lw_good := q_mem 482 rfl rfl
set_option maxRecDepth 20000 in
theorem cv_X5_setSteps : CV yX5_setSteps cX5_setSteps 5 none 3 := ⟨q_mem 485 rfl rfl, q_mem 484 rfl rfl, q_mem 7 rfl rfl, q_mem 78 rfl rfl, by decide +kernel, by decide⟩
set_option maxRecDepth 20000 in
theorem cv_X5_startPairs : CV yX5_startPairs cX5_startPairs 4 none 1 := ⟨q_mem 474 rfl rfl, q_mem 473 rfl rfl, q_mem 5 rfl rfl, q_mem 78 rfl rfl, by decide +kernel, by decide⟩
set_option maxRecDepth 20000 in
theorem lk_RX5_42 : Cond.methodLink RX5 42 yX5_shortenPairs ∈ lw_good := q_mem 486 rfl rfl
set_option maxRecDepth 20000 in
theorem lk_RX5_100 : Cond.methodLink RX5 100 yX5_fewestBehind ∈ lw_good := q_mem 498 rfl rfl
set_option maxRecDepth 20000 in
theorem lk_RX5_78 : Cond.methodLink RX5 78 yX5_pairBehind ∈ lw_good := q_mem 502 rfl rfl
set_option maxRecDepth 20000 in
theorem lk_RX5_90 : Cond.methodLink RX5 90 yX3_partAt ∈ lw_good := q_mem 506 rfl rfl
set_option maxRecDepth 20000 in
theorem cv_X5_pairBehind : CV yX5_pairBehind cX5_pairBehind 6 (some .int) 2 := ⟨q_mem 505 rfl rfl, q_mem 504 rfl rfl, q_mem 12 rfl rfl, q_mem 78 rfl rfl, by decide +kernel, by decide⟩
set_option maxRecDepth 20000 in
theorem lk_RX5_109 : Cond.methodLink RX5 109 Lib.Math.min.name ∈ lw_good := q_mem 507 rfl rfl
set_option maxRecDepth 20000 in
theorem mw_mmin : MW_mmin := ⟨q_mem 508 rfl rfl, q_mem 85 rfl rfl, q_mem 509 rfl rfl⟩
set_option maxRecDepth 20000 in
theorem cv_X5_fewestBehind : CV yX5_fewestBehind cX5_fewestBehind 6 (some .int) 2 := ⟨q_mem 501 rfl rfl, q_mem 500 rfl rfl, q_mem 11 rfl rfl, q_mem 78 rfl rfl, by decide +kernel, by decide⟩
set_option maxRecDepth 20000 in
theorem cv_X5_shortenPairs : CV yX5_shortenPairs cX5_shortenPairs 8 (some .boolean) 1 := ⟨q_mem 489 rfl rfl, q_mem 488 rfl rfl, q_mem 8 rfl rfl, q_mem 78 rfl rfl, by decide +kernel, by decide⟩
set_option maxRecDepth 20000 in
theorem fw_5_5 (v : Int32) : FW 5 5 v := ⟨_, .int, rfl, rfl, by decide +kernel, rfl, rfl⟩
set_option maxRecDepth 20000 in
theorem lk_RX5_55 : Cond.methodLink RX5 55 yX5_stepsDown ∈ lw_good := q_mem 527 rfl rfl
set_option maxRecDepth 20000 in
theorem cv_X5_stepsDown : CV yX5_stepsDown cX5_stepsDown 3 (some .int) 2 := ⟨q_mem 521 rfl rfl, q_mem 519 rfl rfl, q_mem 520 rfl rfl, q_mem 78 rfl rfl, by decide +kernel, by decide⟩
set_option maxRecDepth 20000 in
theorem lk_RX5_58 : Cond.methodLink RX5 58 yX5_pairAfter ∈ lw_good := q_mem 528 rfl rfl
set_option maxRecDepth 20000 in
theorem lk_RX5_66 : Cond.methodLink RX5 66 yX5_firstSlotDown ∈ lw_good := q_mem 532 rfl rfl
set_option maxRecDepth 20000 in
theorem cv_X5_firstSlotDown : CV yX5_firstSlotDown cX5_firstSlotDown 4 (some .int) 1 := ⟨q_mem 535 rfl rfl, q_mem 534 rfl rfl, q_mem 14 rfl rfl, q_mem 78 rfl rfl, by decide +kernel, by decide⟩
set_option maxRecDepth 20000 in
theorem cv_X5_pairAfter : CV yX5_pairAfter cX5_pairAfter 6 (some .int) 3 := ⟨q_mem 531 rfl rfl, q_mem 530 rfl rfl, q_mem 13 rfl rfl, q_mem 78 rfl rfl, by decide +kernel, by decide⟩
set_option maxRecDepth 20000 in
theorem lk_RX5_81 : Cond.methodLink RX5 81 yX5_reachedAt ∈ lw_good := q_mem 571 rfl rfl
set_option maxRecDepth 20000 in
theorem fl_RX5_19 : FL RX5 19 5 2 := ⟨_, rfl, by decide, q_mem 165 rfl rfl⟩
set_option maxRecDepth 20000 in
theorem cv_X5_reachedAt : CV yX5_reachedAt cX5_reachedAt 2 (some .int) 1 := ⟨q_mem 574 rfl rfl, q_mem 573 rfl rfl, q_mem 17 rfl rfl, q_mem 78 rfl rfl, by decide +kernel, by decide⟩
set_option maxRecDepth 20000 in
theorem lk_RX5_84 : Cond.methodLink RX5 84 yX5_areAlike ∈ lw_good := q_mem 579 rfl rfl
set_option maxRecDepth 20000 in
theorem cv_X5_areAlike : CV yX5_areAlike cX5_areAlike 3 (some .boolean) 2 := ⟨q_mem 554 rfl rfl, q_mem 552 rfl rfl, q_mem 553 rfl rfl, q_mem 78 rfl rfl, by decide +kernel, by decide⟩
set_option maxRecDepth 20000 in
theorem fl_RX5_22 : FL RX5 22 5 3 := ⟨_, rfl, by decide, q_mem 166 rfl rfl⟩
set_option maxRecDepth 20000 in
theorem fl_RX5_25 : FL RX5 25 5 4 := ⟨_, rfl, by decide, q_mem 167 rfl rfl⟩
set_option maxRecDepth 20000 in
theorem fw_5_4 (v : Int32) : FW 5 4 v := ⟨_, .int, rfl, rfl, by decide +kernel, rfl, rfl⟩
set_option maxRecDepth 20000 in
theorem lk_RX5_87 : Cond.methodLink RX5 87 yX5_reachAlso ∈ lw_good := q_mem 567 rfl rfl
set_option maxRecDepth 20000 in
theorem cv_X5_reachAlso : CV yX5_reachAlso cX5_reachAlso 3 (some .int) 2 := ⟨q_mem 570 rfl rfl, q_mem 569 rfl rfl, q_mem 16 rfl rfl, q_mem 78 rfl rfl, by decide +kernel, by decide⟩
set_option maxRecDepth 20000 in
theorem lk_RX5_69 : Cond.methodLink RX5 69 yX5_stepThrough ∈ lw_good := q_mem 536 rfl rfl
set_option maxRecDepth 20000 in
theorem kb_9 : (Int8.ofInt (9)).toInt32 = 9 := by decide
set_option maxRecDepth 20000 in
theorem cs_X5_stepThrough : CS yX5_stepThrough cX5_stepThrough 2 (some .int) 2 := ⟨q_mem 538 rfl rfl, q_mem 537 rfl rfl, q_mem 78 rfl rfl, by decide +kernel, by decide⟩
set_option maxRecDepth 20000 in
theorem lk_RX5_72 : Cond.methodLink RX5 72 yX5_reachFrom ∈ lw_good := q_mem 563 rfl rfl
set_option maxRecDepth 20000 in
theorem cv_X5_reachFrom : CV yX5_reachFrom cX5_reachFrom 5 (some .int) 1 := ⟨q_mem 566 rfl rfl, q_mem 565 rfl rfl, q_mem 15 rfl rfl, q_mem 78 rfl rfl, by decide +kernel, by decide⟩
set_option maxRecDepth 20000 in
theorem lk_RX5_75 : Cond.methodLink RX5 75 yX5_isAlikeEarlier ∈ lw_good := q_mem 575 rfl rfl
set_option maxRecDepth 20000 in
theorem cv_X5_isAlikeEarlier : CV yX5_isAlikeEarlier cX5_isAlikeEarlier 3 (some .boolean) 1 := ⟨q_mem 578 rfl rfl, q_mem 577 rfl rfl, q_mem 18 rfl rfl, q_mem 78 rfl rfl, by decide +kernel, by decide⟩
set_option maxRecDepth 20000 in
theorem fl_RX1_9 : FL RX1 9 1 0 := ⟨_, rfl, by decide, q_mem 188 rfl rfl⟩
set_option maxRecDepth 20000 in
theorem lk_RX1_76 : Cond.methodLink RX1 76 yX3_signOf ∈ lw_good := q_mem 606 rfl rfl
set_option maxRecDepth 20000 in
theorem lk_RX1_108 : Cond.methodLink RX1 108 yX3_addNode ∈ lw_good := q_mem 607 rfl rfl
set_option maxRecDepth 20000 in
theorem fl_RX1_42 : FL RX1 42 1 9 := ⟨_, rfl, by decide, q_mem 197 rfl rfl⟩
set_option maxRecDepth 20000 in
theorem fw_1_9 (v : Int32) (h : v = 0 ∨ v = 1) : FW 1 9 v := by rcases h with rfl | rfl <;> exact ⟨_, .boolean, rfl, rfl, by decide +kernel, rfl, rfl⟩
set_option maxRecDepth 20000 in
theorem fl_RX1_35 : FL RX1 35 1 7 := ⟨_, rfl, by decide, q_mem 195 rfl rfl⟩
set_option maxRecDepth 20000 in
theorem fl_RX1_19 : FL RX1 19 1 2 := ⟨_, rfl, by decide, q_mem 190 rfl rfl⟩
set_option maxRecDepth 20000 in
theorem fl_RX1_23 : FL RX1 23 1 3 := ⟨_, rfl, by decide, q_mem 191 rfl rfl⟩
set_option maxRecDepth 20000 in
theorem fl_RX1_26 : FL RX1 26 1 4 := ⟨_, rfl, by decide, q_mem 192 rfl rfl⟩
set_option maxRecDepth 20000 in
theorem fl_RX1_29 : FL RX1 29 1 5 := ⟨_, rfl, by decide, q_mem 193 rfl rfl⟩
set_option maxRecDepth 20000 in
theorem fl_RX1_32 : FL RX1 32 1 6 := ⟨_, rfl, by decide, q_mem 194 rfl rfl⟩
set_option maxRecDepth 20000 in
theorem fw_1_7 (v : Int32) : FW 1 7 v := ⟨_, .int, rfl, rfl, by decide +kernel, rfl, rfl⟩
set_option maxRecDepth 20000 in
theorem lk_RX1_68 : Cond.methodLink RX1 68 yX1_partFor ∈ lw_good := q_mem 612 rfl rfl
set_option maxRecDepth 20000 in
theorem lk_RX1_80 : Cond.methodLink RX1 80 yX1_hasParts ∈ lw_good := q_mem 616 rfl rfl
set_option maxRecDepth 20000 in
theorem cs_X1_hasParts : CS yX1_hasParts cX1_hasParts 1 (some .boolean) 1 := ⟨q_mem 618 rfl rfl, q_mem 617 rfl rfl, q_mem 79 rfl rfl, by decide +kernel, by decide⟩
set_option maxRecDepth 20000 in
theorem lk_RX1_84 : Cond.methodLink RX1 84 yX3_partAt ∈ lw_good := q_mem 619 rfl rfl
set_option maxRecDepth 20000 in
theorem lk_RX1_90 : Cond.methodLink RX1 90 yX1_keepsAll ∈ lw_good := q_mem 623 rfl rfl
set_option maxRecDepth 20000 in
theorem cs_X1_keepsAll : CS yX1_keepsAll cX1_keepsAll 2 (some .boolean) 2 := ⟨q_mem 625 rfl rfl, q_mem 624 rfl rfl, q_mem 79 rfl rfl, by decide +kernel, by decide⟩
set_option maxRecDepth 20000 in
theorem lk_RX1_94 : Cond.methodLink RX1 94 Lib.Math.max.name ∈ lw_good := q_mem 599 rfl rfl
set_option maxRecDepth 20000 in
theorem mw_mmax : MW_mmax := ⟨q_mem 600 rfl rfl, q_mem 85 rfl rfl, q_mem 601 rfl rfl⟩
set_option maxRecDepth 20000 in
theorem lk_RX1_57 : Cond.methodLink RX1 57 yX1_nodeFor ∈ lw_good := q_mem 590 rfl rfl
set_option maxRecDepth 20000 in
theorem fl_RX1_15 : FL RX1 15 1 1 := ⟨_, rfl, by decide, q_mem 189 rfl rfl⟩
set_option maxRecDepth 20000 in
theorem lk_RX1_99 : Cond.methodLink RX1 99 yX5_mayStand ∈ lw_good := q_mem 594 rfl rfl
set_option maxRecDepth 20000 in
theorem lk_RX1_102 : Cond.methodLink RX1 102 yX1_madeFor ∈ lw_good := q_mem 595 rfl rfl
set_option maxRecDepth 20000 in
theorem fl_RX1_39 : FL RX1 39 1 8 := ⟨_, rfl, by decide, q_mem 196 rfl rfl⟩
set_option maxRecDepth 20000 in
theorem lk_RX1_51 : Cond.methodLink RX1 51 yX3_nodes ∈ lw_good := q_mem 589 rfl rfl
set_option maxRecDepth 20000 in
theorem cv_X1_madeFor : CV yX1_madeFor cX1_madeFor 5 (some .int) 3 := ⟨q_mem 598 rfl rfl, q_mem 597 rfl rfl, q_mem 20 rfl rfl, q_mem 79 rfl rfl, by decide +kernel, by decide⟩
set_option maxRecDepth 20000 in
theorem lk_RX1_105 : Cond.methodLink RX1 105 yX1_begin ∈ lw_good := q_mem 602 rfl rfl
set_option maxRecDepth 20000 in
theorem cv_X1_begin : CV yX1_begin cX1_begin 6 (some .int) 3 := ⟨q_mem 605 rfl rfl, q_mem 604 rfl rfl, q_mem 21 rfl rfl, q_mem 79 rfl rfl, by decide +kernel, by decide⟩
set_option maxRecDepth 20000 in
theorem cv_X1_nodeFor : CV yX1_nodeFor cX1_nodeFor 7 (some .int) 3 := ⟨q_mem 593 rfl rfl, q_mem 592 rfl rfl, q_mem 19 rfl rfl, q_mem 79 rfl rfl, by decide +kernel, by decide⟩
set_option maxRecDepth 20000 in
theorem lk_RX1_87 : Cond.methodLink RX1 87 yX1_turn ∈ lw_good := q_mem 620 rfl rfl
set_option maxRecDepth 20000 in
theorem cs_X1_turn : CS yX1_turn cX1_turn 1 (some .int) 1 := ⟨q_mem 622 rfl rfl, q_mem 621 rfl rfl, q_mem 79 rfl rfl, by decide +kernel, by decide⟩
set_option maxRecDepth 20000 in
theorem cv_X1_partFor : CV yX1_partFor cX1_partFor 6 (some .int) 2 := ⟨q_mem 615 rfl rfl, q_mem 614 rfl rfl, q_mem 23 rfl rfl, q_mem 79 rfl rfl, by decide +kernel, by decide⟩
set_option maxRecDepth 20000 in
theorem lk_RX1_72 : Cond.methodLink RX1 72 yX3_setPart ∈ lw_good := q_mem 626 rfl rfl
set_option maxRecDepth 20000 in
theorem lk_RX1_46 : Cond.methodLink RX1 46 yX5_catchUp ∈ lw_good := q_mem 588 rfl rfl
set_option maxRecDepth 20000 in
theorem cv_X5_catchUp : CV yX5_catchUp cX5_catchUp 4 none 0 := ⟨q_mem 469 rfl rfl, q_mem 467 rfl rfl, q_mem 468 rfl rfl, q_mem 78 rfl rfl, by decide +kernel, by decide⟩
set_option maxRecDepth 20000 in
theorem fw_1_8 (v : Int32) : FW 1 8 v := ⟨_, .int, rfl, rfl, by decide +kernel, rfl, rfl⟩
set_option maxRecDepth 20000 in
theorem ks_540 : (Int16.ofInt (540)).toInt32 = 540 := by decide
set_option maxRecDepth 20000 in
theorem lk_RX1_61 : Cond.methodLink RX1 61 yX1_goOn ∈ lw_good := q_mem 608 rfl rfl
set_option maxRecDepth 20000 in
theorem cv_X1_goOn : CV yX1_goOn cX1_goOn 4 none 0 := ⟨q_mem 611 rfl rfl, q_mem 610 rfl rfl, q_mem 22 rfl rfl, q_mem 79 rfl rfl, by decide +kernel, by decide⟩
set_option maxRecDepth 20000 in
theorem lk_RX1_64 : Cond.methodLink RX1 64 yX3_dropFrom ∈ lw_good := q_mem 627 rfl rfl
set_option maxRecDepth 20000 in
theorem cv_X3_dropFrom : CV yX3_dropFrom cX3_dropFrom 2 none 1 := ⟨q_mem 630 rfl rfl, q_mem 628 rfl rfl, q_mem 629 rfl rfl, q_mem 75 rfl rfl, by decide +kernel, by decide⟩
set_option maxRecDepth 20000 in
theorem kb_m4 : (Int8.ofInt (-4)).toInt32 = -4 := by decide
set_option maxRecDepth 20000 in
theorem lk_RX7_78 : Cond.methodLink RX7 78 yX7_kindBegunBy ∈ lw_good := q_mem 649 rfl rfl
set_option maxRecDepth 20000 in
theorem kb_48 : (Int8.ofInt (48)).toInt32 = 48 := by decide
set_option maxRecDepth 20000 in
theorem kb_115 : (Int8.ofInt (115)).toInt32 = 115 := by decide
set_option maxRecDepth 20000 in
theorem kb_116 : (Int8.ofInt (116)).toInt32 = 116 := by decide
set_option maxRecDepth 20000 in
theorem kb_57 : (Int8.ofInt (57)).toInt32 = 57 := by decide
set_option maxRecDepth 20000 in
theorem kb_110 : (Int8.ofInt (110)).toInt32 = 110 := by decide
set_option maxRecDepth 20000 in
theorem cs_X7_kindBegunBy : CS yX7_kindBegunBy cX7_kindBegunBy 1 (some .int) 1 := ⟨q_mem 651 rfl rfl, q_mem 650 rfl rfl, q_mem 80 rfl rfl, by decide +kernel, by decide⟩
set_option maxRecDepth 20000 in
theorem fl_RX7_39 : FL RX7 39 7 8 := ⟨_, rfl, by decide, q_mem 233 rfl rfl⟩
set_option maxRecDepth 20000 in
theorem fw_7_8 (v : Int32) : FW 7 8 v := ⟨_, .int, rfl, rfl, by decide +kernel, rfl, rfl⟩
set_option maxRecDepth 20000 in
theorem lk_RX7_81 : Cond.methodLink RX7 81 yX7_nodeHeldAgainst ∈ lw_good := q_mem 652 rfl rfl
set_option maxRecDepth 20000 in
theorem fl_RX7_36 : FL RX7 36 7 7 := ⟨_, rfl, by decide, q_mem 232 rfl rfl⟩
set_option maxRecDepth 20000 in
theorem kb_m7 : (Int8.ofInt (-7)).toInt32 = -7 := by decide
set_option maxRecDepth 20000 in
theorem fl_RX7_15 : FL RX7 15 7 1 := ⟨_, rfl, by decide, q_mem 226 rfl rfl⟩
set_option maxRecDepth 20000 in
theorem lk_RX7_88 : Cond.methodLink RX7 88 yX3_signOf ∈ lw_good := q_mem 656 rfl rfl
set_option maxRecDepth 20000 in
theorem lk_RX7_93 : Cond.methodLink RX7 93 yX7_noteMisfit ∈ lw_good := q_mem 657 rfl rfl
set_option maxRecDepth 20000 in
theorem fl_RX7_42 : FL RX7 42 7 9 := ⟨_, rfl, by decide, q_mem 234 rfl rfl⟩
set_option maxRecDepth 20000 in
theorem fw_7_9 (v : Int32) : FW 7 9 v := ⟨_, .int, rfl, rfl, by decide +kernel, rfl, rfl⟩
set_option maxRecDepth 20000 in
theorem cv_X7_noteMisfit : CV yX7_noteMisfit cX7_noteMisfit 2 none 1 := ⟨q_mem 660 rfl rfl, q_mem 659 rfl rfl, q_mem 27 rfl rfl, q_mem 80 rfl rfl, by decide +kernel, by decide⟩
set_option maxRecDepth 20000 in
theorem cv_X7_nodeHeldAgainst : CV yX7_nodeHeldAgainst cX7_nodeHeldAgainst 3 (some .int) 2 := ⟨q_mem 655 rfl rfl, q_mem 654 rfl rfl, q_mem 26 rfl rfl, q_mem 80 rfl rfl, by decide +kernel, by decide⟩
set_option maxRecDepth 20000 in
theorem lk_RX7_75 : Cond.methodLink RX7 75 yX7_endValue ∈ lw_good := q_mem 661 rfl rfl
set_option maxRecDepth 20000 in
theorem lk_RX7_97 : Cond.methodLink RX7 97 yX7_isInnermostKnown ∈ lw_good := q_mem 665 rfl rfl
set_option maxRecDepth 20000 in
theorem fl_RX7_29 : FL RX7 29 7 5 := ⟨_, rfl, by decide, q_mem 230 rfl rfl⟩
set_option maxRecDepth 20000 in
theorem cv_X7_isInnermostKnown : CV yX7_isInnermostKnown cX7_isInnermostKnown 1 (some .boolean) 0 := ⟨q_mem 668 rfl rfl, q_mem 667 rfl rfl, q_mem 29 rfl rfl, q_mem 80 rfl rfl, by decide +kernel, by decide⟩
set_option maxRecDepth 20000 in
theorem fl_RX7_19 : FL RX7 19 7 2 := ⟨_, rfl, by decide, q_mem 227 rfl rfl⟩
set_option maxRecDepth 20000 in
theorem fl_RX7_33 : FL RX7 33 7 6 := ⟨_, rfl, by decide, q_mem 231 rfl rfl⟩
set_option maxRecDepth 20000 in
theorem fw_7_6 (v : Int32) : FW 7 6 v := ⟨_, .int, rfl, rfl, by decide +kernel, rfl, rfl⟩
set_option maxRecDepth 20000 in
theorem kb_6 : (Int8.ofInt (6)).toInt32 = 6 := by decide
set_option maxRecDepth 20000 in
theorem cv_X7_endValue : CV yX7_endValue cX7_endValue 1 (some .boolean) 0 := ⟨q_mem 664 rfl rfl, q_mem 663 rfl rfl, q_mem 28 rfl rfl, q_mem 80 rfl rfl, by decide +kernel, by decide⟩
set_option maxRecDepth 20000 in
theorem lk_RX7_85 : Cond.methodLink RX7 85 yX7_openValue ∈ lw_good := q_mem 669 rfl rfl
set_option maxRecDepth 20000 in
theorem fl_RX7_23 : FL RX7 23 7 3 := ⟨_, rfl, by decide, q_mem 228 rfl rfl⟩
set_option maxRecDepth 20000 in
theorem fl_RX7_26 : FL RX7 26 7 4 := ⟨_, rfl, by decide, q_mem 229 rfl rfl⟩
set_option maxRecDepth 20000 in
theorem fw_7_5 (v : Int32) : FW 7 5 v := ⟨_, .int, rfl, rfl, by decide +kernel, rfl, rfl⟩
set_option maxRecDepth 20000 in
theorem kc_3 : Int32.ofInt (3) = 3 := by decide
set_option maxRecDepth 20000 in
theorem cv_X7_openValue : CV yX7_openValue cX7_openValue 3 (some .boolean) 2 := ⟨q_mem 672 rfl rfl, q_mem 671 rfl rfl, q_mem 30 rfl rfl, q_mem 80 rfl rfl, by decide +kernel, by decide⟩
set_option maxRecDepth 20000 in
theorem kc_5 : Int32.ofInt (5) = 5 := by decide
set_option maxRecDepth 20000 in
theorem lk_RX7_103 : Cond.methodLink RX7 103 yX7_innermostNode ∈ lw_good := q_mem 685 rfl rfl
set_option maxRecDepth 20000 in
theorem cv_X7_innermostNode : CV yX7_innermostNode cX7_innermostNode 1 (some .int) 0 := ⟨q_mem 688 rfl rfl, q_mem 687 rfl rfl, q_mem 34 rfl rfl, q_mem 80 rfl rfl, by decide +kernel, by decide⟩
set_option maxRecDepth 20000 in
theorem lk_RX7_109 : Cond.methodLink RX7 109 yX3_partAt ∈ lw_good := q_mem 689 rfl rfl
set_option maxRecDepth 20000 in
theorem lk_RX7_59 : Cond.methodLink RX7 59 yX7_beginValue ∈ lw_good := q_mem 645 rfl rfl
set_option maxRecDepth 20000 in
theorem cv_X7_beginValue : CV yX7_beginValue cX7_beginValue 5 (some .boolean) 2 := ⟨q_mem 648 rfl rfl, q_mem 647 rfl rfl, q_mem 25 rfl rfl, q_mem 80 rfl rfl, by decide +kernel, by decide⟩
set_option maxRecDepth 20000 in
theorem lk_RX7_62 : Cond.methodLink RX7 62 yX7_readItem ∈ lw_good := q_mem 673 rfl rfl
set_option maxRecDepth 20000 in
theorem kb_41 : (Int8.ofInt (41)).toInt32 = 41 := by decide
set_option maxRecDepth 20000 in
theorem lk_RX7_100 : Cond.methodLink RX7 100 yX7_dueAt ∈ lw_good := q_mem 681 rfl rfl
set_option maxRecDepth 20000 in
theorem cv_X7_dueAt : CV yX7_dueAt cX7_dueAt 3 (some .int) 1 := ⟨q_mem 684 rfl rfl, q_mem 683 rfl rfl, q_mem 33 rfl rfl, q_mem 80 rfl rfl, by decide +kernel, by decide⟩
set_option maxRecDepth 20000 in
theorem fw_7_7 (v : Int32) : FW 7 7 v := ⟨_, .int, rfl, rfl, by decide +kernel, rfl, rfl⟩
set_option maxRecDepth 20000 in
theorem lk_RX7_71 : Cond.methodLink RX7 71 yX7_closeValue ∈ lw_good := q_mem 677 rfl rfl
set_option maxRecDepth 20000 in
theorem cv_X7_closeValue : CV yX7_closeValue cX7_closeValue 1 (some .boolean) 0 := ⟨q_mem 680 rfl rfl, q_mem 679 rfl rfl, q_mem 32 rfl rfl, q_mem 80 rfl rfl, by decide +kernel, by decide⟩
set_option maxRecDepth 20000 in
theorem cv_X7_readItem : CV yX7_readItem cX7_readItem 3 (some .boolean) 2 := ⟨q_mem 676 rfl rfl, q_mem 675 rfl rfl, q_mem 31 rfl rfl, q_mem 80 rfl rfl, by decide +kernel, by decide⟩
set_option maxRecDepth 20000 in
theorem lk_RX7_65 : Cond.methodLink RX7 65 yX7_readField ∈ lw_good := q_mem 690 rfl rfl
set_option maxRecDepth 20000 in
theorem lk_RX7_106 : Cond.methodLink RX7 106 yX3_slotsOf ∈ lw_good := q_mem 694 rfl rfl
set_option maxRecDepth 20000 in
theorem cv_X7_readField : CV yX7_readField cX7_readField 4 (some .boolean) 2 := ⟨q_mem 693 rfl rfl, q_mem 692 rfl rfl, q_mem 35 rfl rfl, q_mem 80 rfl rfl, by decide +kernel, by decide⟩
set_option maxRecDepth 20000 in
theorem lk_RX7_68 : Cond.methodLink RX7 68 yX7_readCase ∈ lw_good := q_mem 695 rfl rfl
set_option maxRecDepth 20000 in
theorem cv_X7_readCase : CV yX7_readCase cX7_readCase 4 (some .boolean) 2 := ⟨q_mem 698 rfl rfl, q_mem 697 rfl rfl, q_mem 36 rfl rfl, q_mem 80 rfl rfl, by decide +kernel, by decide⟩
set_option maxRecDepth 20000 in
theorem kb_122 : (Int8.ofInt (122)).toInt32 = 122 := by decide
set_option maxRecDepth 20000 in
theorem fl_RX7_9 : FL RX7 9 7 0 := ⟨_, rfl, by decide, q_mem 225 rfl rfl⟩
set_option maxRecDepth 20000 in
theorem lk_RX7_45 : Cond.methodLink RX7 45 yX4_length ∈ lw_good := q_mem 639 rfl rfl
set_option maxRecDepth 20000 in
theorem lk_RX7_51 : Cond.methodLink RX7 51 yX4_signAt ∈ lw_good := q_mem 640 rfl rfl
set_option maxRecDepth 20000 in
theorem lk_RX7_55 : Cond.methodLink RX7 55 yX7_goesOn ∈ lw_good := q_mem 641 rfl rfl
set_option maxRecDepth 20000 in
theorem cv_X7_goesOn : CV yX7_goesOn cX7_goesOn 3 (some .boolean) 2 := ⟨q_mem 644 rfl rfl, q_mem 643 rfl rfl, q_mem 24 rfl rfl, q_mem 80 rfl rfl, by decide +kernel, by decide⟩
set_option maxRecDepth 20000 in
theorem lk_RX0_39 : Cond.methodLink RX0 39 Lib.Math.min.name ∈ lw_good := q_mem 728 rfl rfl
set_option maxRecDepth 20000 in
theorem kl_0 : Int64.ofNat ((0 : Fin 2) : Nat) = 0 := by decide
set_option maxRecDepth 20000 in
theorem kD_RX0_80 : Cond.constantLong RX0 80 (1000000000) ∈ lw_good := q_mem 749 rfl rfl
set_option maxRecDepth 20000 in
theorem fl_RX0_19 : FL RX0 19 0 2 := ⟨_, rfl, by decide, q_mem 264 rfl rfl⟩
set_option maxRecDepth 20000 in
theorem lk_RX0_29 : Cond.methodLink RX0 29 yX0_foundOf ∈ lw_good := q_mem 750 rfl rfl
set_option maxRecDepth 20000 in
theorem fl_RX0_15 : FL RX0 15 0 1 := ⟨_, rfl, by decide, q_mem 263 rfl rfl⟩
set_option maxRecDepth 20000 in
theorem kb_13 : (Int8.ofInt (13)).toInt32 = 13 := by decide
set_option maxRecDepth 20000 in
theorem cv_X0_foundOf : CV yX0_foundOf cX0_foundOf 4 (some .long) 2 := ⟨q_mem 753 rfl rfl, q_mem 752 rfl rfl, q_mem 41 rfl rfl, q_mem 81 rfl rfl, by decide +kernel, by decide⟩
set_option maxRecDepth 20000 in
theorem lk_RX0_82 : Cond.methodLink RX0 82 Lib.MathLoose.min_long.x ∈ lw_good := q_mem 754 rfl rfl
set_option maxRecDepth 20000 in
theorem mw_mminL : MW_mminL := ⟨q_mem 755 rfl rfl, q_mem 85 rfl rfl, q_mem 756 rfl rfl⟩
set_option maxRecDepth 20000 in
theorem fl_RX0_9 : FL RX0 9 0 0 := ⟨_, rfl, by decide, q_mem 262 rfl rfl⟩
set_option maxRecDepth 20000 in
theorem lk_RX0_33 : Cond.methodLink RX0 33 yX3_nodes ∈ lw_good := q_mem 727 rfl rfl
set_option maxRecDepth 20000 in
theorem fl_RX0_22 : FL RX0 22 0 3 := ⟨_, rfl, by decide, q_mem 265 rfl rfl⟩
set_option maxRecDepth 20000 in
theorem lk_RX0_45 : Cond.methodLink RX0 45 yX0_valuesBySmaller ∈ lw_good := q_mem 729 rfl rfl
set_option maxRecDepth 20000 in
theorem lk_RX0_48 : Cond.methodLink RX0 48 yX3_signOf ∈ lw_good := q_mem 733 rfl rfl
set_option maxRecDepth 20000 in
theorem lk_RX0_64 : Cond.methodLink RX0 64 yX0_listsOf ∈ lw_good := q_mem 761 rfl rfl
set_option maxRecDepth 20000 in
theorem lk_RX0_73 : Cond.methodLink RX0 73 yX3_partAt ∈ lw_good := q_mem 744 rfl rfl
set_option maxRecDepth 20000 in
theorem kl_1 : Int64.ofNat ((1 : Fin 2) : Nat) = 1 := by decide
set_option maxRecDepth 20000 in
theorem cv_X0_listsOf : CV yX0_listsOf cX0_listsOf 7 (some .long) 2 := ⟨q_mem 764 rfl rfl, q_mem 763 rfl rfl, q_mem 43 rfl rfl, q_mem 81 rfl rfl, by decide +kernel, by decide⟩
set_option maxRecDepth 20000 in
theorem lk_RX0_61 : Cond.methodLink RX0 61 yX0_choicesOf ∈ lw_good := q_mem 757 rfl rfl
set_option maxRecDepth 20000 in
theorem cv_X0_choicesOf : CV yX0_choicesOf cX0_choicesOf 6 (some .long) 2 := ⟨q_mem 760 rfl rfl, q_mem 759 rfl rfl, q_mem 42 rfl rfl, q_mem 81 rfl rfl, by decide +kernel, by decide⟩
set_option maxRecDepth 20000 in
theorem kD_RX0_52 : Cond.constantLong RX0 52 (10) ∈ lw_good := q_mem 734 rfl rfl
set_option maxRecDepth 20000 in
theorem kD_RX0_56 : Cond.constantLong RX0 56 (26) ∈ lw_good := q_mem 736 rfl rfl
set_option maxRecDepth 20000 in
theorem kD_RX0_54 : Cond.constantLong RX0 54 (2) ∈ lw_good := q_mem 735 rfl rfl
set_option maxRecDepth 20000 in
theorem lk_RX0_58 : Cond.methodLink RX0 58 yX0_recordsOf ∈ lw_good := q_mem 737 rfl rfl
set_option maxRecDepth 20000 in
theorem lk_RX0_67 : Cond.methodLink RX0 67 yJ7_fill_d0a16 ∈ lw_good := q_mem 741 rfl rfl
set_option maxRecDepth 20000 in
theorem cs_J7_fill_d0a16 : CS yJ7_fill_d0a16 cJ7_fill_d0a16 5 none 2 := ⟨q_mem 743 rfl rfl, q_mem 742 rfl rfl, q_mem 76 rfl rfl, by decide +kernel, by decide⟩
set_option maxRecDepth 20000 in
theorem lk_RX0_76 : Cond.methodLink RX0 76 yX0_addLetter ∈ lw_good := q_mem 745 rfl rfl
set_option maxRecDepth 20000 in
theorem cv_X0_addLetter : CV yX0_addLetter cX0_addLetter 7 none 2 := ⟨q_mem 748 rfl rfl, q_mem 747 rfl rfl, q_mem 40 rfl rfl, q_mem 81 rfl rfl, by decide +kernel, by decide⟩
set_option maxRecDepth 20000 in
theorem cv_X0_recordsOf : CV yX0_recordsOf cX0_recordsOf 5 (some .long) 2 := ⟨q_mem 740 rfl rfl, q_mem 739 rfl rfl, q_mem 39 rfl rfl, q_mem 81 rfl rfl, by decide +kernel, by decide⟩
set_option maxRecDepth 20000 in
theorem cv_X0_valuesBySmaller : CV yX0_valuesBySmaller cX0_valuesBySmaller 3 (some .long) 2 := ⟨q_mem 732 rfl rfl, q_mem 731 rfl rfl, q_mem 38 rfl rfl, q_mem 81 rfl rfl, by decide +kernel, by decide⟩
set_option maxRecDepth 20000 in
theorem fw_0_3 (v : Int32) : FW 0 3 v := ⟨_, .int, rfl, rfl, by decide +kernel, rfl, rfl⟩
set_option maxRecDepth 20000 in
theorem lk_RX0_26 : Cond.methodLink RX0 26 yX0_catchUp ∈ lw_good := q_mem 723 rfl rfl
set_option maxRecDepth 20000 in
theorem cv_X0_catchUp : CV yX0_catchUp cX0_catchUp 4 none 0 := ⟨q_mem 726 rfl rfl, q_mem 725 rfl rfl, q_mem 37 rfl rfl, q_mem 81 rfl rfl, by decide +kernel, by decide⟩
set_option maxRecDepth 20000 in
theorem fl_RX2_11 : FL RX2 11 2 0 := ⟨_, rfl, by decide, q_mem 282 rfl rfl⟩
set_option maxRecDepth 20000 in
theorem lk_RX2_30 : Cond.methodLink RX2 30 yX3_nodes ∈ lw_good := q_mem 777 rfl rfl
set_option maxRecDepth 20000 in
theorem lk_RX2_36 : Cond.methodLink RX2 36 Lib.Math.min.name ∈ lw_good := q_mem 778 rfl rfl
set_option maxRecDepth 20000 in
theorem fl_RX2_19 : FL RX2 19 2 2 := ⟨_, rfl, by decide, q_mem 284 rfl rfl⟩
set_option maxRecDepth 20000 in
theorem fl_RX2_15 : FL RX2 15 2 1 := ⟨_, rfl, by decide, q_mem 283 rfl rfl⟩
set_option maxRecDepth 20000 in
theorem ks_2400 : (Int16.ofInt (2400)).toInt32 = 2400 := by decide
set_option maxRecDepth 20000 in
theorem lk_RX2_42 : Cond.methodLink RX2 42 yX2_lessen ∈ lw_good := q_mem 779 rfl rfl
set_option maxRecDepth 20000 in
theorem lk_RX2_46 : Cond.methodLink RX2 46 yX2_sizeByParts ∈ lw_good := q_mem 783 rfl rfl
set_option maxRecDepth 20000 in
theorem lk_RX2_49 : Cond.methodLink RX2 49 yX3_signOf ∈ lw_good := q_mem 787 rfl rfl
set_option maxRecDepth 20000 in
theorem lk_RX2_55 : Cond.methodLink RX2 55 yX2_leastOfParts ∈ lw_good := q_mem 797 rfl rfl
set_option maxRecDepth 20000 in
theorem lk_RX2_58 : Cond.methodLink RX2 58 yX3_partAt ∈ lw_good := q_mem 792 rfl rfl
set_option maxRecDepth 20000 in
theorem lk_RX2_26 : Cond.methodLink RX2 26 yX2_foundOf ∈ lw_good := q_mem 793 rfl rfl
set_option maxRecDepth 20000 in
theorem cv_X2_foundOf : CV yX2_foundOf cX2_foundOf 2 (some .int) 1 := ⟨q_mem 796 rfl rfl, q_mem 795 rfl rfl, q_mem 48 rfl rfl, q_mem 82 rfl rfl, by decide +kernel, by decide⟩
set_option maxRecDepth 20000 in
theorem cv_X2_leastOfParts : CV yX2_leastOfParts cX2_leastOfParts 4 (some .int) 1 := ⟨q_mem 800 rfl rfl, q_mem 799 rfl rfl, q_mem 49 rfl rfl, q_mem 82 rfl rfl, by decide +kernel, by decide⟩
set_option maxRecDepth 20000 in
theorem lk_RX2_52 : Cond.methodLink RX2 52 yX2_sumOfParts ∈ lw_good := q_mem 788 rfl rfl
set_option maxRecDepth 20000 in
theorem cv_X2_sumOfParts : CV yX2_sumOfParts cX2_sumOfParts 5 (some .int) 1 := ⟨q_mem 791 rfl rfl, q_mem 790 rfl rfl, q_mem 47 rfl rfl, q_mem 82 rfl rfl, by decide +kernel, by decide⟩
set_option maxRecDepth 20000 in
theorem cv_X2_sizeByParts : CV yX2_sizeByParts cX2_sizeByParts 2 (some .int) 1 := ⟨q_mem 786 rfl rfl, q_mem 785 rfl rfl, q_mem 46 rfl rfl, q_mem 82 rfl rfl, by decide +kernel, by decide⟩
set_option maxRecDepth 20000 in
theorem cv_X2_lessen : CV yX2_lessen cX2_lessen 5 (some .boolean) 1 := ⟨q_mem 782 rfl rfl, q_mem 781 rfl rfl, q_mem 45 rfl rfl, q_mem 82 rfl rfl, by decide +kernel, by decide⟩
set_option maxRecDepth 20000 in
theorem fw_2_2 (v : Int32) : FW 2 2 v := ⟨_, .int, rfl, rfl, by decide +kernel, rfl, rfl⟩
set_option maxRecDepth 20000 in
theorem lk_RX2_23 : Cond.methodLink RX2 23 yX2_catchUp ∈ lw_good := q_mem 773 rfl rfl
set_option maxRecDepth 20000 in
theorem cv_X2_catchUp : CV yX2_catchUp cX2_catchUp 4 none 0 := ⟨q_mem 776 rfl rfl, q_mem 775 rfl rfl, q_mem 44 rfl rfl, q_mem 82 rfl rfl, by decide +kernel, by decide⟩
set_option maxRecDepth 20000 in
theorem kb_40 : (Int8.ofInt (40)).toInt32 = 40 := by decide
set_option maxRecDepth 20000 in
theorem fl_RX8_21 : FL RX8 21 8 1 := ⟨_, rfl, by decide, q_mem 293 rfl rfl⟩
set_option maxRecDepth 20000 in
theorem lk_RX8_111 : Cond.methodLink RX8 111 yX3_has ∈ lw_good := q_mem 446 rfl rfl
set_option maxRecDepth 20000 in
theorem cv_X3_has : CV yX3_has cX3_has 2 (some .boolean) 1 := ⟨q_mem 449 rfl rfl, q_mem 447 rfl rfl, q_mem 448 rfl rfl, q_mem 75 rfl rfl, by decide +kernel, by decide⟩
set_option maxRecDepth 20000 in
theorem fl_RX8_39 : FL RX8 39 8 3 := ⟨_, rfl, by decide, q_mem 295 rfl rfl⟩
set_option maxRecDepth 20000 in
theorem lk_RX8_129 : Cond.methodLink RX8 129 yX5_catchUp ∈ lw_good := q_mem 466 rfl rfl
set_option maxRecDepth 20000 in
theorem lk_RX8_146 : Cond.methodLink RX8 146 yX5_areAlike ∈ lw_good := q_mem 551 rfl rfl
set_option maxRecDepth 20000 in
theorem kb_m2 : (Int8.ofInt (-2)).toInt32 = -2 := by decide
set_option maxRecDepth 20000 in
theorem fl_RX8_64 : FL RX8 64 8 6 := ⟨_, rfl, by decide, q_mem 298 rfl rfl⟩
set_option maxRecDepth 20000 in
theorem lk_RX8_163 : Cond.methodLink RX8 163 yX0_valuesOf ∈ lw_good := q_mem 719 rfl rfl
set_option maxRecDepth 20000 in
theorem cv_X0_valuesOf : CV yX0_valuesOf cX0_valuesOf 3 (some .int) 2 := ⟨q_mem 722 rfl rfl, q_mem 720 rfl rfl, q_mem 721 rfl rfl, q_mem 81 rfl rfl, by decide +kernel, by decide⟩
set_option maxRecDepth 20000 in
theorem lk_RX8_143 : Cond.methodLink RX8 143 yX5_endOfWay ∈ lw_good := q_mem 543 rfl rfl
set_option maxRecDepth 20000 in
theorem cv_X5_endOfWay : CV yX5_endOfWay cX5_endOfWay 5 (some .int) 2 := ⟨q_mem 546 rfl rfl, q_mem 544 rfl rfl, q_mem 545 rfl rfl, q_mem 78 rfl rfl, by decide +kernel, by decide⟩
set_option maxRecDepth 20000 in
theorem fl_RX8_30 : FL RX8 30 8 2 := ⟨_, rfl, by decide, q_mem 294 rfl rfl⟩
set_option maxRecDepth 20000 in
theorem lk_RX8_86 : Cond.methodLink RX8 86 yX6_read ∈ lw_good := q_mem 341 rfl rfl
set_option maxRecDepth 20000 in
theorem cv_X6_read : CV yX6_read cX6_read 2 (some .int) 0 := ⟨q_mem 344 rfl rfl, q_mem 342 rfl rfl, q_mem 343 rfl rfl, q_mem 77 rfl rfl, by decide +kernel, by decide⟩
set_option maxRecDepth 20000 in
theorem fl_RX8_57 : FL RX8 57 8 5 := ⟨_, rfl, by decide, q_mem 297 rfl rfl⟩
set_option maxRecDepth 20000 in
theorem lk_RX8_155 : Cond.methodLink RX8 155 yX7_read ∈ lw_good := q_mem 635 rfl rfl
set_option maxRecDepth 20000 in
theorem cv_X7_read : CV yX7_read cX7_read 3 (some .int) 1 := ⟨q_mem 638 rfl rfl, q_mem 636 rfl rfl, q_mem 637 rfl rfl, q_mem 80 rfl rfl, by decide +kernel, by decide⟩
set_option maxRecDepth 20000 in
theorem kb_m5 : (Int8.ofInt (-5)).toInt32 = -5 := by decide
set_option maxRecDepth 20000 in
theorem lk_RX8_157 : Cond.methodLink RX8 157 yX7_misfitPlace ∈ lw_good := q_mem 703 rfl rfl
set_option maxRecDepth 20000 in
theorem cv_X7_misfitPlace : CV yX7_misfitPlace cX7_misfitPlace 1 (some .int) 0 := ⟨q_mem 706 rfl rfl, q_mem 704 rfl rfl, q_mem 705 rfl rfl, q_mem 80 rfl rfl, by decide +kernel, by decide⟩
set_option maxRecDepth 20000 in
theorem fl_RX8_48 : FL RX8 48 8 4 := ⟨_, rfl, by decide, q_mem 296 rfl rfl⟩
set_option maxRecDepth 20000 in
theorem lk_RX8_152 : Cond.methodLink RX8 152 yX1_joined ∈ lw_good := q_mem 584 rfl rfl
set_option maxRecDepth 20000 in
theorem cv_X1_joined : CV yX1_joined cX1_joined 7 (some .int) 3 := ⟨q_mem 587 rfl rfl, q_mem 585 rfl rfl, q_mem 586 rfl rfl, q_mem 79 rfl rfl, by decide +kernel, by decide⟩
set_option maxRecDepth 20000 in
theorem fl_RX8_71 : FL RX8 71 8 7 := ⟨_, rfl, by decide, q_mem 299 rfl rfl⟩
set_option maxRecDepth 20000 in
theorem lk_RX8_166 : Cond.methodLink RX8 166 yX2_leastOf ∈ lw_good := q_mem 769 rfl rfl
set_option maxRecDepth 20000 in
theorem cv_X2_leastOf : CV yX2_leastOf cX2_leastOf 2 (some .int) 1 := ⟨q_mem 772 rfl rfl, q_mem 770 rfl rfl, q_mem 771 rfl rfl, q_mem 82 rfl rfl, by decide +kernel, by decide⟩
set_option maxRecDepth 20000 in
theorem lk_RX8_132 : Cond.methodLink RX8 132 yX5_mayStand ∈ lw_good := q_mem 510 rfl rfl
set_option maxRecDepth 20000 in
theorem lk_RX8_107 : Cond.methodLink RX8 107 yX3_nameAt ∈ lw_good := q_mem 441 rfl rfl
set_option maxRecDepth 20000 in
theorem lk_RX8_125 : Cond.methodLink RX8 125 yX3_partAt ∈ lw_good := q_mem 461 rfl rfl
set_option maxRecDepth 20000 in
theorem lk_RX8_117 : Cond.methodLink RX8 117 yX3_slotsOf ∈ lw_good := q_mem 451 rfl rfl
set_option maxRecDepth 20000 in
theorem lk_RX8_120 : Cond.methodLink RX8 120 yJ6_bitCount_0f7a4 ∈ lw_good := q_mem 455 rfl rfl
set_option maxRecDepth 20000 in
theorem cs_J6_bitCount_0f7a4 : CS yJ6_bitCount_0f7a4 cJ6_bitCount_0f7a4 1 (some .int) 1 := ⟨q_mem 457 rfl rfl, q_mem 456 rfl rfl, q_mem 84 rfl rfl, by decide +kernel, by decide⟩
set_option maxRecDepth 20000 in
theorem lk_RX8_114 : Cond.methodLink RX8 114 yX3_signOf ∈ lw_good := q_mem 450 rfl rfl
set_option maxRecDepth 20000 in
theorem lk_RX8_149 : Cond.methodLink RX8 149 yX5_unlikeWithin ∈ lw_good := q_mem 559 rfl rfl
set_option maxRecDepth 20000 in
theorem cv_X5_unlikeWithin : CV yX5_unlikeWithin cX5_unlikeWithin 5 (some .int) 1 := ⟨q_mem 562 rfl rfl, q_mem 560 rfl rfl, q_mem 561 rfl rfl, q_mem 78 rfl rfl, by decide +kernel, by decide⟩
set_option maxRecDepth 20000 in
theorem kb_126 : (Int8.ofInt (126)).toInt32 = 126 := by decide
set_option maxRecDepth 20000 in
theorem fl_RX8_10 : FL RX8 10 8 0 := ⟨_, rfl, by decide, q_mem 292 rfl rfl⟩
set_option maxRecDepth 20000 in
theorem lk_RX8_75 : Cond.methodLink RX8 75 yX4_lay ∈ lw_good := q_mem 321 rfl rfl
set_option maxRecDepth 20000 in
theorem cv_X4_lay : CV yX4_lay cX4_lay 2 (some .boolean) 1 := ⟨q_mem 324 rfl rfl, q_mem 322 rfl rfl, q_mem 323 rfl rfl, q_mem 74 rfl rfl, by decide +kernel, by decide⟩
set_option maxRecDepth 20000 in
theorem lk_RX8_79 : Cond.methodLink RX8 79 yX4_length ∈ lw_good := q_mem 325 rfl rfl
set_option maxRecDepth 20000 in
theorem lk_RX8_160 : Cond.methodLink RX8 160 yX7_valuesRead ∈ lw_good := q_mem 711 rfl rfl
set_option maxRecDepth 20000 in
theorem cv_X7_valuesRead : CV yX7_valuesRead cX7_valuesRead 1 (some .int) 0 := ⟨q_mem 714 rfl rfl, q_mem 712 rfl rfl, q_mem 713 rfl rfl, q_mem 80 rfl rfl, by decide +kernel, by decide⟩
set_option maxRecDepth 20000 in
theorem lk_RX8_89 : Cond.methodLink RX8 89 yX6_allNamesComeToNodes ∈ lw_good := q_mem 396 rfl rfl
set_option maxRecDepth 20000 in
theorem cv_X6_allNamesComeToNodes : CV yX6_allNamesComeToNodes cX6_allNamesComeToNodes 4 (some .boolean) 0 := ⟨q_mem 399 rfl rfl, q_mem 397 rfl rfl, q_mem 398 rfl rfl, q_mem 77 rfl rfl, by decide +kernel, by decide⟩
set_option maxRecDepth 20000 in
theorem lk_RX8_93 : Cond.methodLink RX8 93 yX6_nodesRead ∈ lw_good := q_mem 412 rfl rfl
set_option maxRecDepth 20000 in
theorem cv_X6_nodesRead : CV yX6_nodesRead cX6_nodesRead 1 (some .int) 0 := ⟨q_mem 415 rfl rfl, q_mem 413 rfl rfl, q_mem 414 rfl rfl, q_mem 77 rfl rfl, by decide +kernel, by decide⟩
set_option maxRecDepth 20000 in
theorem lk_RX8_96 : Cond.methodLink RX8 96 yX6_copyInto ∈ lw_good := q_mem 416 rfl rfl
set_option maxRecDepth 20000 in
theorem cv_X6_copyInto : CV yX6_copyInto cX6_copyInto 6 none 1 := ⟨q_mem 419 rfl rfl, q_mem 417 rfl rfl, q_mem 418 rfl rfl, q_mem 77 rfl rfl, by decide +kernel, by decide⟩
set_option maxRecDepth 20000 in
theorem lk_RX8_83 : Cond.methodLink RX8 83 yX4_clear ∈ lw_good := q_mem 333 rfl rfl
set_option maxRecDepth 20000 in
theorem cv_X4_clear : CV yX4_clear cX4_clear 1 none 0 := ⟨q_mem 336 rfl rfl, q_mem 334 rfl rfl, q_mem 335 rfl rfl, q_mem 74 rfl rfl, by decide +kernel, by decide⟩
set_option maxRecDepth 20000 in
theorem lk_RX8_99 : Cond.methodLink RX8 99 yX5_forget ∈ lw_good := q_mem 424 rfl rfl
set_option maxRecDepth 20000 in
theorem cv_X5_forget : CV yX5_forget cX5_forget 1 none 0 := ⟨q_mem 427 rfl rfl, q_mem 425 rfl rfl, q_mem 426 rfl rfl, q_mem 78 rfl rfl, by decide +kernel, by decide⟩
set_option maxRecDepth 20000 in
theorem lk_RX8_102 : Cond.methodLink RX8 102 yX0_forget ∈ lw_good := q_mem 428 rfl rfl
set_option maxRecDepth 20000 in
theorem cv_X0_forget : CV yX0_forget cX0_forget 1 none 0 := ⟨q_mem 431 rfl rfl, q_mem 429 rfl rfl, q_mem 430 rfl rfl, q_mem 81 rfl rfl, by decide +kernel, by decide⟩
set_option maxRecDepth 20000 in
theorem lk_RX8_103 : Cond.methodLink RX8 103 yX2_forget ∈ lw_good := q_mem 432 rfl rfl
set_option maxRecDepth 20000 in
theorem cv_X2_forget : CV yX2_forget cX2_forget 1 none 0 := ⟨q_mem 435 rfl rfl, q_mem 433 rfl rfl, q_mem 434 rfl rfl, q_mem 82 rfl rfl, by decide +kernel, by decide⟩
set_option maxRecDepth 20000 in
theorem lk_RX8_104 : Cond.methodLink RX8 104 yX3_nodes ∈ lw_good := q_mem 436 rfl rfl
set_option maxRecDepth 20000 in
theorem lk_RX8_169 : Cond.methodLink RX8 169 yX3_namesTold ∈ lw_good := q_mem 805 rfl rfl
set_option maxRecDepth 20000 in
theorem cv_X3_namesTold : CV yX3_namesTold cX3_namesTold 3 (some .int) 0 := ⟨q_mem 808 rfl rfl, q_mem 806 rfl rfl, q_mem 807 rfl rfl, q_mem 75 rfl rfl, by decide +kernel, by decide⟩
set_option maxRecDepth 20000 in
theorem lk_RX8_172 : Cond.methodLink RX8 172 yX2_emptyNodes ∈ lw_good := q_mem 810 rfl rfl
set_option maxRecDepth 20000 in
theorem cv_X2_emptyNodes : CV yX2_emptyNodes cX2_emptyNodes 3 (some .int) 0 := ⟨q_mem 813 rfl rfl, q_mem 811 rfl rfl, q_mem 812 rfl rfl, q_mem 82 rfl rfl, by decide +kernel, by decide⟩
set_option maxRecDepth 20000 in
theorem lk_RX8_175 : Cond.methodLink RX8 175 yX5_pairsThatMay ∈ lw_good := q_mem 814 rfl rfl
set_option maxRecDepth 20000 in
theorem cv_X5_pairsThatMay : CV yX5_pairsThatMay cX5_pairsThatMay 4 (some .int) 0 := ⟨q_mem 817 rfl rfl, q_mem 815 rfl rfl, q_mem 816 rfl rfl, q_mem 78 rfl rfl, by decide +kernel, by decide⟩
set_option maxRecDepth 20000 in
theorem lk_RX8_139 : Cond.methodLink RX8 139 yX5_stepDown ∈ lw_good := q_mem 523 rfl rfl
set_option maxRecDepth 20000 in
theorem cv_X5_stepDown : CV yX5_stepDown cX5_stepDown 5 (some .int) 3 := ⟨q_mem 526 rfl rfl, q_mem 524 rfl rfl, q_mem 525 rfl rfl, q_mem 78 rfl rfl, by decide +kernel, by decide⟩
set_option maxRecDepth 20000 in
theorem lk_RX8_136 : Cond.methodLink RX8 136 yX5_stepsDown ∈ lw_good := q_mem 518 rfl rfl
set_option maxRecDepth 20000 in
theorem lk_RX9_142 : Cond.methodLink RX9 142 yX9_areNodes ∈ lw_good := q_mem 983 rfl rfl
set_option maxRecDepth 20000 in
theorem lk_RX9_123 : Cond.methodLink RX9 123 yX9_isNode ∈ lw_good := q_mem 971 rfl rfl
set_option maxRecDepth 20000 in
theorem fl_RX9_116 : FL RX9 116 9 2 := ⟨_, rfl, by decide, q_mem 826 rfl rfl⟩
set_option maxRecDepth 20000 in
theorem lk_RX9_84 : Cond.methodLink RX9 84 yX9_in ∈ lw_good := q_mem 932 rfl rfl
set_option maxRecDepth 20000 in
theorem cs_X9_in : CS yX9_in cX9_in 3 (some .boolean) 3 := ⟨q_mem 934 rfl rfl, q_mem 933 rfl rfl, q_mem 83 rfl rfl, by decide +kernel, by decide⟩
set_option maxRecDepth 20000 in
theorem cv_X9_isNode : CV yX9_isNode cX9_isNode 2 (some .boolean) 1 := ⟨q_mem 974 rfl rfl, q_mem 973 rfl rfl, q_mem 54 rfl rfl, q_mem 83 rfl rfl, by decide +kernel, by decide⟩
set_option maxRecDepth 20000 in
theorem cv_X9_areNodes : CV yX9_areNodes cX9_areNodes 3 (some .boolean) 2 := ⟨q_mem 986 rfl rfl, q_mem 985 rfl rfl, q_mem 56 rfl rfl, q_mem 83 rfl rfl, by decide +kernel, by decide⟩
set_option maxRecDepth 20000 in
theorem lk_RX9_145 : Cond.methodLink RX9 145 yX9_lay ∈ lw_good := q_mem 987 rfl rfl
set_option maxRecDepth 20000 in
theorem fl_RX9_119 : FL RX9 119 9 15 := ⟨_, rfl, by decide, q_mem 839 rfl rfl⟩
set_option maxRecDepth 20000 in
theorem fw_9_15 (v : Int32) (h : v = 0 ∨ v = 1) : FW 9 15 v := by rcases h with rfl | rfl <;> exact ⟨_, .boolean, rfl, rfl, by decide +kernel, rfl, rfl⟩
set_option maxRecDepth 20000 in
theorem fl_RX9_44 : FL RX9 44 9 17 := ⟨_, rfl, by decide, q_mem 841 rfl rfl⟩
set_option maxRecDepth 20000 in
theorem lk_RX9_133 : Cond.methodLink RX9 133 yX9_fitsAlone ∈ lw_good := q_mem 991 rfl rfl
set_option maxRecDepth 20000 in
theorem fl_RX9_13 : FL RX9 13 9 3 := ⟨_, rfl, by decide, q_mem 827 rfl rfl⟩
set_option maxRecDepth 20000 in
theorem lk_RX9_130 : Cond.methodLink RX9 130 yX9_isBoth ∈ lw_good := q_mem 995 rfl rfl
set_option maxRecDepth 20000 in
theorem cs_X9_isBoth : CS yX9_isBoth cX9_isBoth 1 (some .boolean) 1 := ⟨q_mem 997 rfl rfl, q_mem 996 rfl rfl, q_mem 83 rfl rfl, by decide +kernel, by decide⟩
set_option maxRecDepth 20000 in
theorem fl_RX9_16 : FL RX9 16 9 4 := ⟨_, rfl, by decide, q_mem 828 rfl rfl⟩
set_option maxRecDepth 20000 in
theorem cv_X9_fitsAlone : CV yX9_fitsAlone cX9_fitsAlone 7 (some .boolean) 2 := ⟨q_mem 994 rfl rfl, q_mem 993 rfl rfl, q_mem 58 rfl rfl, q_mem 83 rfl rfl, by decide +kernel, by decide⟩
set_option maxRecDepth 20000 in
theorem kd_RX9_137 : Cond.constant RX9 137 (100000) ∈ lw_good := q_mem 998 rfl rfl
set_option maxRecDepth 20000 in
theorem kb_11 : (Int8.ofInt (11)).toInt32 = 11 := by decide
set_option maxRecDepth 20000 in
theorem lk_RX9_138 : Cond.methodLink RX9 138 yX9_stepTo ∈ lw_good := q_mem 999 rfl rfl
set_option maxRecDepth 20000 in
theorem cv_X9_stepTo : CV yX9_stepTo cX9_stepTo 6 (some .int) 3 := ⟨q_mem 1002 rfl rfl, q_mem 1001 rfl rfl, q_mem 59 rfl rfl, q_mem 83 rfl rfl, by decide +kernel, by decide⟩
set_option maxRecDepth 20000 in
theorem fl_RX9_40 : FL RX9 40 9 16 := ⟨_, rfl, by decide, q_mem 840 rfl rfl⟩
set_option maxRecDepth 20000 in
theorem cv_X9_lay : CV yX9_lay cX9_lay 8 none 0 := ⟨q_mem 990 rfl rfl, q_mem 989 rfl rfl, q_mem 57 rfl rfl, q_mem 83 rfl rfl, by decide +kernel, by decide⟩
set_option maxRecDepth 20000 in
theorem lk_RX9_154 : Cond.methodLink RX9 154 yX9_areAlike ∈ lw_good := q_mem 1019 rfl rfl
set_option maxRecDepth 20000 in
theorem cv_X9_areAlike : CV yX9_areAlike cX9_areAlike 3 (some .boolean) 2 := ⟨q_mem 1022 rfl rfl, q_mem 1021 rfl rfl, q_mem 61 rfl rfl, q_mem 83 rfl rfl, by decide +kernel, by decide⟩
set_option maxRecDepth 20000 in
theorem fl_RX9_59 : FL RX9 59 9 25 := ⟨_, rfl, by decide, q_mem 849 rfl rfl⟩
set_option maxRecDepth 20000 in
theorem fl_RX9_172 : FL RX9 172 9 27 := ⟨_, rfl, by decide, q_mem 851 rfl rfl⟩
set_option maxRecDepth 20000 in
theorem fl_RX9_65 : FL RX9 65 9 28 := ⟨_, rfl, by decide, q_mem 852 rfl rfl⟩
set_option maxRecDepth 20000 in
theorem fl_RX9_68 : FL RX9 68 9 29 := ⟨_, rfl, by decide, q_mem 853 rfl rfl⟩
set_option maxRecDepth 20000 in
theorem fw_9_27 (v : Int32) : FW 9 27 v := ⟨_, .int, rfl, rfl, by decide +kernel, rfl, rfl⟩
set_option maxRecDepth 20000 in
theorem fl_RX9_71 : FL RX9 71 9 30 := ⟨_, rfl, by decide, q_mem 854 rfl rfl⟩
set_option maxRecDepth 20000 in
theorem lk_RX9_187 : Cond.methodLink RX9 187 yX9_held ∈ lw_good := q_mem 1078 rfl rfl
set_option maxRecDepth 20000 in
theorem kD_RX9_185 : Cond.constantLong RX9 185 (1000000000) ∈ lw_good := q_mem 1081 rfl rfl
set_option maxRecDepth 20000 in
theorem cs_X9_held : CS yX9_held cX9_held 2 (some .long) 1 := ⟨q_mem 1080 rfl rfl, q_mem 1079 rfl rfl, q_mem 83 rfl rfl, by decide +kernel, by decide⟩
set_option maxRecDepth 20000 in
theorem fl_RX9_92 : FL RX9 92 9 10 := ⟨_, rfl, by decide, q_mem 834 rfl rfl⟩
set_option maxRecDepth 20000 in
theorem fl_RX9_31 : FL RX9 31 9 11 := ⟨_, rfl, by decide, q_mem 835 rfl rfl⟩
set_option maxRecDepth 20000 in
theorem fl_RX9_34 : FL RX9 34 9 12 := ⟨_, rfl, by decide, q_mem 836 rfl rfl⟩
set_option maxRecDepth 20000 in
theorem fl_RX9_22 : FL RX9 22 9 7 := ⟨_, rfl, by decide, q_mem 831 rfl rfl⟩
set_option maxRecDepth 20000 in
theorem fl_RX9_25 : FL RX9 25 9 8 := ⟨_, rfl, by decide, q_mem 832 rfl rfl⟩
set_option maxRecDepth 20000 in
theorem fl_RX9_37 : FL RX9 37 9 13 := ⟨_, rfl, by decide, q_mem 837 rfl rfl⟩
set_option maxRecDepth 20000 in
theorem fl_RX9_28 : FL RX9 28 9 9 := ⟨_, rfl, by decide, q_mem 833 rfl rfl⟩
set_option maxRecDepth 20000 in
theorem fl_RX9_95 : FL RX9 95 9 14 := ⟨_, rfl, by decide, q_mem 838 rfl rfl⟩
set_option maxRecDepth 20000 in
theorem ks_780 : (Int16.ofInt (780)).toInt32 = 780 := by decide
set_option maxRecDepth 20000 in
theorem lk_RX9_203 : Cond.methodLink RX9 203 yX9_listCount ∈ lw_good := q_mem 1086 rfl rfl
set_option maxRecDepth 20000 in
theorem fl_RX9_75 : FL RX9 75 9 31 := ⟨_, rfl, by decide, q_mem 855 rfl rfl⟩
set_option maxRecDepth 20000 in
theorem cv_X9_listCount : CV yX9_listCount cX9_listCount 6 (some .long) 2 := ⟨q_mem 1089 rfl rfl, q_mem 1088 rfl rfl, q_mem 70 rfl rfl, q_mem 83 rfl rfl, by decide +kernel, by decide⟩
set_option maxRecDepth 20000 in
theorem lk_RX9_200 : Cond.methodLink RX9 200 yX9_choiceCount ∈ lw_good := q_mem 1082 rfl rfl
set_option maxRecDepth 20000 in
theorem cv_X9_choiceCount : CV yX9_choiceCount cX9_choiceCount 6 (some .long) 2 := ⟨q_mem 1085 rfl rfl, q_mem 1084 rfl rfl, q_mem 69 rfl rfl, q_mem 83 rfl rfl, by decide +kernel, by decide⟩
set_option maxRecDepth 20000 in
theorem lk_RX9_196 : Cond.methodLink RX9 196 yX9_recordCount ∈ lw_good := q_mem 1074 rfl rfl
set_option maxRecDepth 20000 in
theorem fl_RX9_78 : FL RX9 78 9 32 := ⟨_, rfl, by decide, q_mem 856 rfl rfl⟩
set_option maxRecDepth 20000 in
theorem cv_X9_recordCount : CV yX9_recordCount cX9_recordCount 7 (some .long) 2 := ⟨q_mem 1077 rfl rfl, q_mem 1076 rfl rfl, q_mem 68 rfl rfl, q_mem 83 rfl rfl, by decide +kernel, by decide⟩
set_option maxRecDepth 20000 in
theorem kD_RX9_194 : Cond.constantLong RX9 194 (26) ∈ lw_good := q_mem 1073 rfl rfl
set_option maxRecDepth 20000 in
theorem kD_RX9_192 : Cond.constantLong RX9 192 (2) ∈ lw_good := q_mem 1072 rfl rfl
set_option maxRecDepth 20000 in
theorem kD_RX9_190 : Cond.constantLong RX9 190 (10) ∈ lw_good := q_mem 1071 rfl rfl
set_option maxRecDepth 20000 in
theorem lk_RX9_151 : Cond.methodLink RX9 151 yX9_follow ∈ lw_good := q_mem 1007 rfl rfl
set_option maxRecDepth 20000 in
theorem fl_RX9_148 : FL RX9 148 9 18 := ⟨_, rfl, by decide, q_mem 842 rfl rfl⟩
set_option maxRecDepth 20000 in
theorem fw_9_18 (v : Int32) : FW 9 18 v := ⟨_, .int, rfl, rfl, by decide +kernel, rfl, rfl⟩
set_option maxRecDepth 20000 in
theorem cv_X9_follow : CV yX9_follow cX9_follow 9 (some .int) 3 := ⟨q_mem 1010 rfl rfl, q_mem 1009 rfl rfl, q_mem 60 rfl rfl, q_mem 83 rfl rfl, by decide +kernel, by decide⟩
set_option maxRecDepth 20000 in
theorem lk_RX9_109 : Cond.methodLink RX9 109 yX9_faultOf ∈ lw_good := q_mem 943 rfl rfl
set_option maxRecDepth 20000 in
theorem fl_RX9_98 : FL RX9 98 9 6 := ⟨_, rfl, by decide, q_mem 830 rfl rfl⟩
set_option maxRecDepth 20000 in
theorem fw_9_6 (v : Int32) : FW 9 6 v := ⟨_, .int, rfl, rfl, by decide +kernel, rfl, rfl⟩
set_option maxRecDepth 20000 in
theorem fw_9_10 (v : Int32) : FW 9 10 v := ⟨_, .int, rfl, rfl, by decide +kernel, rfl, rfl⟩
set_option maxRecDepth 20000 in
theorem fl_RX9_88 : FL RX9 88 9 0 := ⟨_, rfl, by decide, q_mem 824 rfl rfl⟩
set_option maxRecDepth 20000 in
theorem fl_RX9_7 : FL RX9 7 9 1 := ⟨_, rfl, by decide, q_mem 825 rfl rfl⟩
set_option maxRecDepth 20000 in
theorem lk_RX9_105 : Cond.methodLink RX9 105 yX9_settle ∈ lw_good := q_mem 951 rfl rfl
set_option maxRecDepth 20000 in
theorem cv_X9_settle : CV yX9_settle cX9_settle 1 (some .int) 0 := ⟨q_mem 954 rfl rfl, q_mem 953 rfl rfl, q_mem 52 rfl rfl, q_mem 83 rfl rfl, by decide +kernel, by decide⟩
set_option maxRecDepth 20000 in
theorem kb_104 : (Int8.ofInt (104)).toInt32 = 104 := by decide
set_option maxRecDepth 20000 in
theorem kb_72 : (Int8.ofInt (72)).toInt32 = 72 := by decide
set_option maxRecDepth 20000 in
theorem lk_RX9_101 : Cond.methodLink RX9 101 yX9_come ∈ lw_good := q_mem 947 rfl rfl
set_option maxRecDepth 20000 in
theorem cv_X9_come : CV yX9_come cX9_come 5 none 1 := ⟨q_mem 950 rfl rfl, q_mem 949 rfl rfl, q_mem 51 rfl rfl, q_mem 83 rfl rfl, by decide +kernel, by decide⟩
set_option maxRecDepth 20000 in
theorem fw_9_14 (v : Int32) : FW 9 14 v := ⟨_, .int, rfl, rfl, by decide +kernel, rfl, rfl⟩
set_option maxRecDepth 20000 in
theorem cv_X9_faultOf : CV yX9_faultOf cX9_faultOf 10 (some .int) 0 := ⟨q_mem 946 rfl rfl, q_mem 945 rfl rfl, q_mem 50 rfl rfl, q_mem 83 rfl rfl, by decide +kernel, by decide⟩
set_option maxRecDepth 20000 in
theorem lk_RX9_175 : Cond.methodLink RX9 175 yX9_slipOf ∈ lw_good := q_mem 1047 rfl rfl
set_option maxRecDepth 20000 in
theorem fl_RX9_169 : FL RX9 169 9 24 := ⟨_, rfl, by decide, q_mem 848 rfl rfl⟩
set_option maxRecDepth 20000 in
theorem fw_9_24 (v : Int32) : FW 9 24 v := ⟨_, .int, rfl, rfl, by decide +kernel, rfl, rfl⟩
set_option maxRecDepth 20000 in
theorem kb_84 : (Int8.ofInt (84)).toInt32 = 84 := by decide
set_option maxRecDepth 20000 in
theorem kb_70 : (Int8.ofInt (70)).toInt32 = 70 := by decide
set_option maxRecDepth 20000 in
theorem kb_36 : (Int8.ofInt (36)).toInt32 = 36 := by decide
set_option maxRecDepth 20000 in
theorem fl_RX9_62 : FL RX9 62 9 26 := ⟨_, rfl, by decide, q_mem 850 rfl rfl⟩
set_option maxRecDepth 20000 in
theorem cv_X9_slipOf : CV yX9_slipOf cX9_slipOf 6 (some .int) 0 := ⟨q_mem 1050 rfl rfl, q_mem 1049 rfl rfl, q_mem 65 rfl rfl, q_mem 83 rfl rfl, by decide +kernel, by decide⟩
set_option maxRecDepth 20000 in
theorem lk_RX9_178 : Cond.methodLink RX9 178 yX9_inner ∈ lw_good := q_mem 1059 rfl rfl
set_option maxRecDepth 20000 in
theorem cv_X9_inner : CV yX9_inner cX9_inner 3 (some .int) 1 := ⟨q_mem 1062 rfl rfl, q_mem 1061 rfl rfl, q_mem 66 rfl rfl, q_mem 83 rfl rfl, by decide +kernel, by decide⟩
set_option maxRecDepth 20000 in
theorem lk_RX9_181 : Cond.methodLink RX9 181 yX9_begin ∈ lw_good := q_mem 1063 rfl rfl
set_option maxRecDepth 20000 in
theorem cv_X9_begin : CV yX9_begin cX9_begin 3 none 2 := ⟨q_mem 1066 rfl rfl, q_mem 1065 rfl rfl, q_mem 67 rfl rfl, q_mem 83 rfl rfl, by decide +kernel, by decide⟩
set_option maxRecDepth 20000 in
theorem ks_7200 : (Int16.ofInt (7200)).toInt32 = 7200 := by decide
set_option maxRecDepth 20000 in
theorem fl_RX9_50 : FL RX9 50 9 20 := ⟨_, rfl, by decide, q_mem 844 rfl rfl⟩
set_option maxRecDepth 20000 in
theorem fl_RX9_157 : FL RX9 157 9 21 := ⟨_, rfl, by decide, q_mem 845 rfl rfl⟩
set_option maxRecDepth 20000 in
theorem fw_9_21 (v : Int32) : FW 9 21 v := ⟨_, .int, rfl, rfl, by decide +kernel, rfl, rfl⟩
set_option maxRecDepth 20000 in
theorem lk_RX9_160 : Cond.methodLink RX9 160 yX9_waitFor ∈ lw_good := q_mem 1031 rfl rfl
set_option maxRecDepth 20000 in
theorem fl_RX9_53 : FL RX9 53 9 22 := ⟨_, rfl, by decide, q_mem 846 rfl rfl⟩
set_option maxRecDepth 20000 in
theorem fl_RX9_56 : FL RX9 56 9 23 := ⟨_, rfl, by decide, q_mem 847 rfl rfl⟩
set_option maxRecDepth 20000 in
theorem cv_X9_waitFor : CV yX9_waitFor cX9_waitFor 5 none 4 := ⟨q_mem 1034 rfl rfl, q_mem 1033 rfl rfl, q_mem 62 rfl rfl, q_mem 83 rfl rfl, by decide +kernel, by decide⟩
set_option maxRecDepth 20000 in
theorem kb_120 : (Int8.ofInt (120)).toInt32 = 120 := by decide
set_option maxRecDepth 20000 in
theorem lk_RX9_163 : Cond.methodLink RX9 163 yX9_plain ∈ lw_good := q_mem 1035 rfl rfl
set_option maxRecDepth 20000 in
theorem cv_X9_plain : CV yX9_plain cX9_plain 6 (some .int) 3 := ⟨q_mem 1038 rfl rfl, q_mem 1037 rfl rfl, q_mem 63 rfl rfl, q_mem 83 rfl rfl, by decide +kernel, by decide⟩
set_option maxRecDepth 20000 in
theorem lk_RX9_166 : Cond.methodLink RX9 166 yX9_shape ∈ lw_good := q_mem 1039 rfl rfl
set_option maxRecDepth 20000 in
theorem kb_7 : (Int8.ofInt (7)).toInt32 = 7 := by decide
set_option maxRecDepth 20000 in
theorem cv_X9_shape : CV yX9_shape cX9_shape 11 none 4 := ⟨q_mem 1042 rfl rfl, q_mem 1041 rfl rfl, q_mem 64 rfl rfl, q_mem 83 rfl rfl, by decide +kernel, by decide⟩
set_option maxRecDepth 20000 in
theorem fw_9_2 (v : Int32) : FW 9 2 v := ⟨_, .int, rfl, rfl, by decide +kernel, rfl, rfl⟩
set_option maxRecDepth 20000 in
theorem fl_RX9_81 : FL RX9 81 9 33 := ⟨_, rfl, by decide, q_mem 857 rfl rfl⟩
set_option maxRecDepth 20000 in
theorem lk_RX9_206 : Cond.methodLink RX9 206 yX9_layLeast ∈ lw_good := q_mem 1094 rfl rfl
set_option maxRecDepth 20000 in
theorem cv_X9_layLeast : CV yX9_layLeast cX9_layLeast 8 none 0 := ⟨q_mem 1097 rfl rfl, q_mem 1096 rfl rfl, q_mem 71 rfl rfl, q_mem 83 rfl rfl, by decide +kernel, by decide⟩
set_option maxRecDepth 20000 in
theorem fl_RX9_19 : FL RX9 19 9 5 := ⟨_, rfl, by decide, q_mem 829 rfl rfl⟩
set_option maxRecDepth 20000 in
theorem lk_RX9_127 : Cond.methodLink RX9 127 yX9_partsOf ∈ lw_good := q_mem 975 rfl rfl
set_option maxRecDepth 20000 in
theorem cv_X9_partsOf : CV yX9_partsOf cX9_partsOf 4 (some .int) 1 := ⟨q_mem 978 rfl rfl, q_mem 977 rfl rfl, q_mem 55 rfl rfl, q_mem 83 rfl rfl, by decide +kernel, by decide⟩
set_option maxRecDepth 20000 in
theorem fl_RX9_47 : FL RX9 47 9 19 := ⟨_, rfl, by decide, q_mem 843 rfl rfl⟩
set_option maxRecDepth 20000 in
theorem fw_9_0 (v : Int32) : FW 9 0 v := ⟨_, .int, rfl, rfl, by decide +kernel, rfl, rfl⟩
set_option maxRecDepth 20000 in
theorem lk_RX9_112 : Cond.methodLink RX9 112 yX9_comesTo ∈ lw_good := q_mem 959 rfl rfl
set_option maxRecDepth 20000 in
theorem cv_X9_comesTo : CV yX9_comesTo cX9_comesTo 4 (some .int) 1 := ⟨q_mem 962 rfl rfl, q_mem 961 rfl rfl, q_mem 53 rfl rfl, q_mem 83 rfl rfl, by decide +kernel, by decide⟩
