theorem x_iconst {C : QC} {own : String} {cc : ByteArray} {nL d : Nat} {ret : Option FieldType} (hc : OKX C own cc nL d ret) {pc : Nat} {L : List (Nat × Value)} {st : List Value} {M : QM} {n : Int} {v : Int32} (hd : decode cc pc = .ok (.iconst n, 1)) (hv : Int32.ofInt n = v) (k : WX C nL (pc + 1) L (.int v :: st) M) : WX C nL pc L (st) M := by
  obtain ⟨p, l, e, R, s, m, args, below, meth, c, w, SH, r, Mf⟩ := C
  intro ls H locs hl hP hS
  exact lv_iconst hc.1 hc.2.1 hd hv (k ls H locs hl hP hS)

theorem x_bipush {C : QC} {own : String} {cc : ByteArray} {nL d : Nat} {ret : Option FieldType} (hc : OKX C own cc nL d ret) {pc : Nat} {L : List (Nat × Value)} {st : List Value} {M : QM} {n : Int} {v : Int32} (hd : decode cc pc = .ok (.bipush n, 2)) (hv : (Int8.ofInt n).toInt32 = v) (k : WX C nL (pc + 2) L (.int v :: st) M) : WX C nL pc L (st) M := by
  obtain ⟨p, l, e, R, s, m, args, below, meth, c, w, SH, r, Mf⟩ := C
  intro ls H locs hl hP hS
  exact lv_bipush hc.1 hc.2.1 hd hv (k ls H locs hl hP hS)

theorem x_sipush {C : QC} {own : String} {cc : ByteArray} {nL d : Nat} {ret : Option FieldType} (hc : OKX C own cc nL d ret) {pc : Nat} {L : List (Nat × Value)} {st : List Value} {M : QM} {n : Int} {v : Int32} (hd : decode cc pc = .ok (.sipush n, 3)) (hv : (Int16.ofInt n).toInt32 = v) (k : WX C nL (pc + 3) L (.int v :: st) M) : WX C nL pc L (st) M := by
  obtain ⟨p, l, e, R, s, m, args, below, meth, c, w, SH, r, Mf⟩ := C
  intro ls H locs hl hP hS
  exact lv_sipush hc.1 hc.2.1 hd hv (k ls H locs hl hP hS)

theorem x_lconst {C : QC} {own : String} {cc : ByteArray} {nL d : Nat} {ret : Option FieldType} (hc : OKX C own cc nL d ret) {pc : Nat} {L : List (Nat × Value)} {st : List Value} {M : QM} {n : Fin 2} {v : Int64} (hd : decode cc pc = .ok (.lconst n, 1)) (hv : Int64.ofNat (n : Nat) = v) (k : WX C nL (pc + 1) L (.long v :: st) M) : WX C nL pc L (st) M := by
  obtain ⟨p, l, e, R, s, m, args, below, meth, c, w, SH, r, Mf⟩ := C
  intro ls H locs hl hP hS
  exact lv_lconst hc.1 hc.2.1 hd hv (k ls H locs hl hP hS)

theorem x_ldc {C : QC} {own : String} {cc : ByteArray} {nL d : Nat} {ret : Option FieldType} (hc : OKX C own cc nL d ret) {pc : Nat} {L : List (Nat × Value)} {st : List Value} {M : QM} {n : Nat} {v : Int32} (hd : decode cc pc = .ok (.ldc n, 2)) (hv : Cond.constant own n v ∈ lw_good) (k : WX C nL (pc + 2) L (.int v :: st) M) : WX C nL pc L (st) M := by
  obtain ⟨p, l, e, R, s, m, args, below, meth, c, w, SH, r, Mf⟩ := C
  intro ls H locs hl hP hS
  exact lv_ldc hc.1 hc.2.1 hc.2.2.2.1 (hc.2.2.2.2.1 _ hv) hd (k ls H locs hl hP hS)

theorem x_ldc2 {C : QC} {own : String} {cc : ByteArray} {nL d : Nat} {ret : Option FieldType} (hc : OKX C own cc nL d ret) {pc : Nat} {L : List (Nat × Value)} {st : List Value} {M : QM} {n : Nat} {v : Int64} (hd : decode cc pc = .ok (.ldc2_w n, 3)) (hv : Cond.constantLong own n v ∈ lw_good) (k : WX C nL (pc + 3) L (.long v :: st) M) : WX C nL pc L (st) M := by
  obtain ⟨p, l, e, R, s, m, args, below, meth, c, w, SH, r, Mf⟩ := C
  intro ls H locs hl hP hS
  exact lv_ldc2 hc.1 hc.2.1 hc.2.2.2.1 (hc.2.2.2.2.1 _ hv) hd (k ls H locs hl hP hS)

theorem x_iload_n {C : QC} {own : String} {cc : ByteArray} {nL d : Nat} {ret : Option FieldType} (hc : OKX C own cc nL d ret) {pc : Nat} {L : List (Nat × Value)} {st : List Value} {M : QM} {j : Fin 4} {i : Nat} {x : Int32} (hd : decode cc pc = .ok (.iload_n j, 1)) (hi : (j : Nat) = i) (q : Nat) (hk : L[q]? = some (i, .int x)) (k : WX C nL (pc + 1) L (.int x :: st) M) : WX C nL pc L (st) M := by
  obtain ⟨p, l, e, R, s, m, args, below, meth, c, w, SH, r, Mf⟩ := C
  intro ls H locs hl hP hS
  exact lv_iload_n hc.1 hc.2.1 hd hi (q_lat hl q hk) (k ls H locs hl hP hS)

theorem x_iload {C : QC} {own : String} {cc : ByteArray} {nL d : Nat} {ret : Option FieldType} (hc : OKX C own cc nL d ret) {pc : Nat} {L : List (Nat × Value)} {st : List Value} {M : QM} {i : Nat} {x : Int32} (hd : decode cc pc = .ok (.iload i, 2)) (q : Nat) (hk : L[q]? = some (i, .int x)) (k : WX C nL (pc + 2) L (.int x :: st) M) : WX C nL pc L (st) M := by
  obtain ⟨p, l, e, R, s, m, args, below, meth, c, w, SH, r, Mf⟩ := C
  intro ls H locs hl hP hS
  exact lv_iload hc.1 hc.2.1 hd (q_lat hl q hk) (k ls H locs hl hP hS)

theorem x_lload_n {C : QC} {own : String} {cc : ByteArray} {nL d : Nat} {ret : Option FieldType} (hc : OKX C own cc nL d ret) {pc : Nat} {L : List (Nat × Value)} {st : List Value} {M : QM} {j : Fin 4} {i : Nat} {x : Int64} (hd : decode cc pc = .ok (.lload_n j, 1)) (hi : (j : Nat) = i) (q : Nat) (hk : L[q]? = some (i, .long x)) (k : WX C nL (pc + 1) L (.long x :: st) M) : WX C nL pc L (st) M := by
  obtain ⟨p, l, e, R, s, m, args, below, meth, c, w, SH, r, Mf⟩ := C
  intro ls H locs hl hP hS
  exact lv_lload_n hc.1 hc.2.1 hd hi (q_lat hl q hk) (k ls H locs hl hP hS)

theorem x_lload {C : QC} {own : String} {cc : ByteArray} {nL d : Nat} {ret : Option FieldType} (hc : OKX C own cc nL d ret) {pc : Nat} {L : List (Nat × Value)} {st : List Value} {M : QM} {i : Nat} {x : Int64} (hd : decode cc pc = .ok (.lload i, 2)) (q : Nat) (hk : L[q]? = some (i, .long x)) (k : WX C nL (pc + 2) L (.long x :: st) M) : WX C nL pc L (st) M := by
  obtain ⟨p, l, e, R, s, m, args, below, meth, c, w, SH, r, Mf⟩ := C
  intro ls H locs hl hP hS
  exact lv_lload hc.1 hc.2.1 hd (q_lat hl q hk) (k ls H locs hl hP hS)

theorem x_aload_n {C : QC} {own : String} {cc : ByteArray} {nL d : Nat} {ret : Option FieldType} (hc : OKX C own cc nL d ret) {pc : Nat} {L : List (Nat × Value)} {st : List Value} {M : QM} {j : Fin 4} {i : Nat} {x : Nat} (hd : decode cc pc = .ok (.aload_n j, 1)) (hi : (j : Nat) = i) (q : Nat) (hk : L[q]? = some (i, .ref x)) (k : WX C nL (pc + 1) L (.ref x :: st) M) : WX C nL pc L (st) M := by
  obtain ⟨p, l, e, R, s, m, args, below, meth, c, w, SH, r, Mf⟩ := C
  intro ls H locs hl hP hS
  exact lv_aload_n hc.1 hc.2.1 hd hi (q_lat hl q hk) (k ls H locs hl hP hS)

theorem x_aload {C : QC} {own : String} {cc : ByteArray} {nL d : Nat} {ret : Option FieldType} (hc : OKX C own cc nL d ret) {pc : Nat} {L : List (Nat × Value)} {st : List Value} {M : QM} {i : Nat} {x : Nat} (hd : decode cc pc = .ok (.aload i, 2)) (q : Nat) (hk : L[q]? = some (i, .ref x)) (k : WX C nL (pc + 2) L (.ref x :: st) M) : WX C nL pc L (st) M := by
  obtain ⟨p, l, e, R, s, m, args, below, meth, c, w, SH, r, Mf⟩ := C
  intro ls H locs hl hP hS
  exact lv_aload hc.1 hc.2.1 hd (q_lat hl q hk) (k ls H locs hl hP hS)

theorem x_istore_n {C : QC} {own : String} {cc : ByteArray} {nL d : Nat} {ret : Option FieldType} (hc : OKX C own cc nL d ret) {pc : Nat} {L : List (Nat × Value)} {st : List Value} {M : QM} {j : Fin 4} {i : Nat} {x : Int32} {L2 : List (Nat × Value)} (hd : decode cc pc = .ok (.istore_n j, 1)) (hi : (j : Nat) = i) (hn : i < nL) (hL : (i, Value.int x) :: L.filter (fun q => !(q.1 == i) && !(q.1 + 1 == i && q.2.category == 2)) = L2) (k : WX C nL (pc + 1) L2 st M) : WX C nL pc L (.int x :: st) M := by
  obtain ⟨p, l, e, R, s, m, args, below, meth, c, w, SH, r, Mf⟩ := C
  intro ls H locs hl hP hS
  subst hL
  exact lv_istore_n hc.1 hc.2.1 hd hi hl hn (by rw [q_fl1]; rfl) (fun ls2 hl2 => k ls2 H locs hl2 hP hS)

theorem x_istore {C : QC} {own : String} {cc : ByteArray} {nL d : Nat} {ret : Option FieldType} (hc : OKX C own cc nL d ret) {pc : Nat} {L : List (Nat × Value)} {st : List Value} {M : QM} {i : Nat} {x : Int32} {L2 : List (Nat × Value)} (hd : decode cc pc = .ok (.istore i, 2)) (hn : i < nL) (hL : (i, Value.int x) :: L.filter (fun q => !(q.1 == i) && !(q.1 + 1 == i && q.2.category == 2)) = L2) (k : WX C nL (pc + 2) L2 st M) : WX C nL pc L (.int x :: st) M := by
  obtain ⟨p, l, e, R, s, m, args, below, meth, c, w, SH, r, Mf⟩ := C
  intro ls H locs hl hP hS
  subst hL
  exact lv_istore hc.1 hc.2.1 hd hl hn (by rw [q_fl1]; rfl) (fun ls2 hl2 => k ls2 H locs hl2 hP hS)

theorem x_lstore_n {C : QC} {own : String} {cc : ByteArray} {nL d : Nat} {ret : Option FieldType} (hc : OKX C own cc nL d ret) {pc : Nat} {L : List (Nat × Value)} {st : List Value} {M : QM} {j : Fin 4} {i : Nat} {x : Int64} {L2 : List (Nat × Value)} (hd : decode cc pc = .ok (.lstore_n j, 1)) (hi : (j : Nat) = i) (hn : i + 1 < nL) (hL : (i, Value.long x) :: L.filter (fun q => !(q.1 == i) && (!(q.1 == i + 1) && !(q.1 + 1 == i && q.2.category == 2))) = L2) (k : WX C nL (pc + 1) L2 st M) : WX C nL pc L (.long x :: st) M := by
  obtain ⟨p, l, e, R, s, m, args, below, meth, c, w, SH, r, Mf⟩ := C
  intro ls H locs hl hP hS
  subst hL
  exact lv_lstore_n hc.1 hc.2.1 hd hi hl hn (by rw [q_fl2]; rfl) (fun ls2 hl2 => k ls2 H locs hl2 hP hS)

theorem x_lstore {C : QC} {own : String} {cc : ByteArray} {nL d : Nat} {ret : Option FieldType} (hc : OKX C own cc nL d ret) {pc : Nat} {L : List (Nat × Value)} {st : List Value} {M : QM} {i : Nat} {x : Int64} {L2 : List (Nat × Value)} (hd : decode cc pc = .ok (.lstore i, 2)) (hn : i + 1 < nL) (hL : (i, Value.long x) :: L.filter (fun q => !(q.1 == i) && (!(q.1 == i + 1) && !(q.1 + 1 == i && q.2.category == 2))) = L2) (k : WX C nL (pc + 2) L2 st M) : WX C nL pc L (.long x :: st) M := by
  obtain ⟨p, l, e, R, s, m, args, below, meth, c, w, SH, r, Mf⟩ := C
  intro ls H locs hl hP hS
  subst hL
  exact lv_lstore hc.1 hc.2.1 hd hl hn (by rw [q_fl2]; rfl) (fun ls2 hl2 => k ls2 H locs hl2 hP hS)

theorem x_iinc {C : QC} {own : String} {cc : ByteArray} {nL d : Nat} {ret : Option FieldType} (hc : OKX C own cc nL d ret) {pc : Nat} {L : List (Nat × Value)} {st : List Value} {M : QM} {i : Nat} {n : Int} {x v : Int32} {L2 : List (Nat × Value)} (hd : decode cc pc = .ok (.iinc i n, 3)) (q : Nat) (hk : L[q]? = some (i, .int x)) (hv : x + Int32.ofInt n = v) (hn : i < nL) (hL : (i, Value.int v) :: L.filter (fun q => !(q.1 == i) && !(q.1 + 1 == i && q.2.category == 2)) = L2) (k : WX C nL (pc + 3) L2 st M) : WX C nL pc L st M := by
  obtain ⟨p, l, e, R, s, m, args, below, meth, c, w, SH, r, Mf⟩ := C
  intro ls H locs hl hP hS
  subst hL
  exact lv_iinc (k := q) hc.1 hc.2.1 hd hl (by simp [q_L, List.getElem?_map, hk, q_cv]) hv hn (by rw [q_fl1]; rfl) (fun ls2 hl2 => k ls2 H locs hl2 hP hS)

theorem x_iadd {C : QC} {own : String} {cc : ByteArray} {nL d : Nat} {ret : Option FieldType} (hc : OKX C own cc nL d ret) {pc : Nat} {L : List (Nat × Value)} {st : List Value} {M : QM} {x y : Int32} (hd : decode cc pc = .ok (.iadd, 1)) (k : WX C nL (pc + 1) L (.int (x + y) :: st) M) : WX C nL pc L (.int y :: .int x :: st) M := by
  obtain ⟨p, l, e, R, s, m, args, below, meth, c, w, SH, r, Mf⟩ := C
  intro ls H locs hl hP hS
  exact lv_iadd hc.1 hc.2.1 hd (k ls H locs hl hP hS)

theorem x_isub {C : QC} {own : String} {cc : ByteArray} {nL d : Nat} {ret : Option FieldType} (hc : OKX C own cc nL d ret) {pc : Nat} {L : List (Nat × Value)} {st : List Value} {M : QM} {x y : Int32} (hd : decode cc pc = .ok (.isub, 1)) (k : WX C nL (pc + 1) L (.int (x - y) :: st) M) : WX C nL pc L (.int y :: .int x :: st) M := by
  obtain ⟨p, l, e, R, s, m, args, below, meth, c, w, SH, r, Mf⟩ := C
  intro ls H locs hl hP hS
  exact lv_isub hc.1 hc.2.1 hd (k ls H locs hl hP hS)

theorem x_imul {C : QC} {own : String} {cc : ByteArray} {nL d : Nat} {ret : Option FieldType} (hc : OKX C own cc nL d ret) {pc : Nat} {L : List (Nat × Value)} {st : List Value} {M : QM} {x y : Int32} (hd : decode cc pc = .ok (.imul, 1)) (k : WX C nL (pc + 1) L (.int (x * y) :: st) M) : WX C nL pc L (.int y :: .int x :: st) M := by
  obtain ⟨p, l, e, R, s, m, args, below, meth, c, w, SH, r, Mf⟩ := C
  intro ls H locs hl hP hS
  exact lv_imul hc.1 hc.2.1 hd (k ls H locs hl hP hS)

theorem x_iand {C : QC} {own : String} {cc : ByteArray} {nL d : Nat} {ret : Option FieldType} (hc : OKX C own cc nL d ret) {pc : Nat} {L : List (Nat × Value)} {st : List Value} {M : QM} {x y : Int32} (hd : decode cc pc = .ok (.iand, 1)) (k : WX C nL (pc + 1) L (.int (x &&& y) :: st) M) : WX C nL pc L (.int y :: .int x :: st) M := by
  obtain ⟨p, l, e, R, s, m, args, below, meth, c, w, SH, r, Mf⟩ := C
  intro ls H locs hl hP hS
  exact lv_iand hc.1 hc.2.1 hd (k ls H locs hl hP hS)

theorem x_ior {C : QC} {own : String} {cc : ByteArray} {nL d : Nat} {ret : Option FieldType} (hc : OKX C own cc nL d ret) {pc : Nat} {L : List (Nat × Value)} {st : List Value} {M : QM} {x y : Int32} (hd : decode cc pc = .ok (.ior, 1)) (k : WX C nL (pc + 1) L (.int (x ||| y) :: st) M) : WX C nL pc L (.int y :: .int x :: st) M := by
  obtain ⟨p, l, e, R, s, m, args, below, meth, c, w, SH, r, Mf⟩ := C
  intro ls H locs hl hP hS
  exact lv_ior hc.1 hc.2.1 hd (k ls H locs hl hP hS)

theorem x_ixor {C : QC} {own : String} {cc : ByteArray} {nL d : Nat} {ret : Option FieldType} (hc : OKX C own cc nL d ret) {pc : Nat} {L : List (Nat × Value)} {st : List Value} {M : QM} {x y : Int32} (hd : decode cc pc = .ok (.ixor, 1)) (k : WX C nL (pc + 1) L (.int (x ^^^ y) :: st) M) : WX C nL pc L (.int y :: .int x :: st) M := by
  obtain ⟨p, l, e, R, s, m, args, below, meth, c, w, SH, r, Mf⟩ := C
  intro ls H locs hl hP hS
  exact lv_ixor hc.1 hc.2.1 hd (k ls H locs hl hP hS)

theorem x_ishl {C : QC} {own : String} {cc : ByteArray} {nL d : Nat} {ret : Option FieldType} (hc : OKX C own cc nL d ret) {pc : Nat} {L : List (Nat × Value)} {st : List Value} {M : QM} {x y : Int32} (hd : decode cc pc = .ok (.ishl, 1)) (k : WX C nL (pc + 1) L (.int (x <<< (y &&& 31)) :: st) M) : WX C nL pc L (.int y :: .int x :: st) M := by
  obtain ⟨p, l, e, R, s, m, args, below, meth, c, w, SH, r, Mf⟩ := C
  intro ls H locs hl hP hS
  exact lv_ishl hc.1 hc.2.1 hd (k ls H locs hl hP hS)

theorem x_ishr {C : QC} {own : String} {cc : ByteArray} {nL d : Nat} {ret : Option FieldType} (hc : OKX C own cc nL d ret) {pc : Nat} {L : List (Nat × Value)} {st : List Value} {M : QM} {x y : Int32} (hd : decode cc pc = .ok (.ishr, 1)) (k : WX C nL (pc + 1) L (.int (x >>> (y &&& 31)) :: st) M) : WX C nL pc L (.int y :: .int x :: st) M := by
  obtain ⟨p, l, e, R, s, m, args, below, meth, c, w, SH, r, Mf⟩ := C
  intro ls H locs hl hP hS
  exact lv_ishr hc.1 hc.2.1 hd (k ls H locs hl hP hS)

theorem x_iushr {C : QC} {own : String} {cc : ByteArray} {nL d : Nat} {ret : Option FieldType} (hc : OKX C own cc nL d ret) {pc : Nat} {L : List (Nat × Value)} {st : List Value} {M : QM} {x y : Int32} (hd : decode cc pc = .ok (.iushr, 1)) (k : WX C nL (pc + 1) L (.int ((x.toUInt32 >>> (y.toUInt32 &&& Int32.toUInt32 31)).toInt32) :: st) M) : WX C nL pc L (.int y :: .int x :: st) M := by
  obtain ⟨p, l, e, R, s, m, args, below, meth, c, w, SH, r, Mf⟩ := C
  intro ls H locs hl hP hS
  exact lv_iushr hc.1 hc.2.1 hd rfl (k ls H locs hl hP hS)

theorem x_idiv {C : QC} {own : String} {cc : ByteArray} {nL d : Nat} {ret : Option FieldType} (hc : OKX C own cc nL d ret) {pc : Nat} {L : List (Nat × Value)} {st : List Value} {M : QM} {x y : Int32} (hd : decode cc pc = .ok (.idiv, 1)) (hne : ¬ y = 0) (k : WX C nL (pc + 1) L (.int (x / y) :: st) M) : WX C nL pc L (.int y :: .int x :: st) M := by
  obtain ⟨p, l, e, R, s, m, args, below, meth, c, w, SH, r, Mf⟩ := C
  intro ls H locs hl hP hS
  exact lv_idiv hc.1 hc.2.1 hd hne (k ls H locs hl hP hS)

theorem x_irem {C : QC} {own : String} {cc : ByteArray} {nL d : Nat} {ret : Option FieldType} (hc : OKX C own cc nL d ret) {pc : Nat} {L : List (Nat × Value)} {st : List Value} {M : QM} {x y : Int32} (hd : decode cc pc = .ok (.irem, 1)) (hne : ¬ y = 0) (k : WX C nL (pc + 1) L (.int (x - x / y * y) :: st) M) : WX C nL pc L (.int y :: .int x :: st) M := by
  obtain ⟨p, l, e, R, s, m, args, below, meth, c, w, SH, r, Mf⟩ := C
  intro ls H locs hl hP hS
  exact lv_irem hc.1 hc.2.1 hd hne (k ls H locs hl hP hS)

theorem x_ladd {C : QC} {own : String} {cc : ByteArray} {nL d : Nat} {ret : Option FieldType} (hc : OKX C own cc nL d ret) {pc : Nat} {L : List (Nat × Value)} {st : List Value} {M : QM} {x y : Int64} (hd : decode cc pc = .ok (.ladd, 1)) (k : WX C nL (pc + 1) L (.long (x + y) :: st) M) : WX C nL pc L (.long y :: .long x :: st) M := by
  obtain ⟨p, l, e, R, s, m, args, below, meth, c, w, SH, r, Mf⟩ := C
  intro ls H locs hl hP hS
  exact lv_ladd hc.1 hc.2.1 hd (k ls H locs hl hP hS)

theorem x_lmul {C : QC} {own : String} {cc : ByteArray} {nL d : Nat} {ret : Option FieldType} (hc : OKX C own cc nL d ret) {pc : Nat} {L : List (Nat × Value)} {st : List Value} {M : QM} {x y : Int64} (hd : decode cc pc = .ok (.lmul, 1)) (k : WX C nL (pc + 1) L (.long (x * y) :: st) M) : WX C nL pc L (.long y :: .long x :: st) M := by
  obtain ⟨p, l, e, R, s, m, args, below, meth, c, w, SH, r, Mf⟩ := C
  intro ls H locs hl hP hS
  exact lv_lmul hc.1 hc.2.1 hd (k ls H locs hl hP hS)

theorem x_lcmp {C : QC} {own : String} {cc : ByteArray} {nL d : Nat} {ret : Option FieldType} (hc : OKX C own cc nL d ret) {pc : Nat} {L : List (Nat × Value)} {st : List Value} {M : QM} {x y : Int64} (hd : decode cc pc = .ok (.lcmp, 1)) (k : WX C nL (pc + 1) L (.int (lg_cmp x y) :: st) M) : WX C nL pc L (.long y :: .long x :: st) M := by
  obtain ⟨p, l, e, R, s, m, args, below, meth, c, w, SH, r, Mf⟩ := C
  intro ls H locs hl hP hS
  exact W.lcmp hc.1 hc.2.1 hd (k ls H locs hl hP hS)

theorem x_l2i {C : QC} {own : String} {cc : ByteArray} {nL d : Nat} {ret : Option FieldType} (hc : OKX C own cc nL d ret) {pc : Nat} {L : List (Nat × Value)} {st : List Value} {M : QM} {x : Int64} (hd : decode cc pc = .ok (.l2i, 1)) (k : WX C nL (pc + 1) L (.int x.toInt32 :: st) M) : WX C nL pc L (.long x :: st) M := by
  obtain ⟨p, l, e, R, s, m, args, below, meth, c, w, SH, r, Mf⟩ := C
  intro ls H locs hl hP hS
  exact lv_l2i hc.1 hc.2.1 hd rfl (k ls H locs hl hP hS)

theorem x_dup {C : QC} {own : String} {cc : ByteArray} {nL d : Nat} {ret : Option FieldType} (hc : OKX C own cc nL d ret) {pc : Nat} {L : List (Nat × Value)} {st : List Value} {M : QM} {x : Value} (hd : decode cc pc = .ok (.dup, 1)) (hx : x.category = 1) (k : WX C nL (pc + 1) L (x :: x :: st) M) : WX C nL pc L (x :: st) M := by
  obtain ⟨p, l, e, R, s, m, args, below, meth, c, w, SH, r, Mf⟩ := C
  intro ls H locs hl hP hS
  exact lv_dup hc.1 hc.2.1 hd (by rw [q_cat]; exact hx) (k ls H locs hl hP hS)

theorem x_pop {C : QC} {own : String} {cc : ByteArray} {nL d : Nat} {ret : Option FieldType} (hc : OKX C own cc nL d ret) {pc : Nat} {L : List (Nat × Value)} {st : List Value} {M : QM} {x : Value} (hd : decode cc pc = .ok (.pop, 1)) (hx : x.category = 1) (k : WX C nL (pc + 1) L (st) M) : WX C nL pc L (x :: st) M := by
  obtain ⟨p, l, e, R, s, m, args, below, meth, c, w, SH, r, Mf⟩ := C
  intro ls H locs hl hP hS
  exact lv_pop hc.1 hc.2.1 hd (by rw [q_cat]; exact hx) (k ls H locs hl hP hS)

theorem x_dup2 {C : QC} {own : String} {cc : ByteArray} {nL d : Nat} {ret : Option FieldType} (hc : OKX C own cc nL d ret) {pc : Nat} {L : List (Nat × Value)} {st : List Value} {M : QM} {x y : Value} (hd : decode cc pc = .ok (.dup2, 1)) (hx : x.category = 1) (hy : y.category = 1) (k : WX C nL (pc + 1) L (x :: y :: x :: y :: st) M) : WX C nL pc L (x :: y :: st) M := by
  obtain ⟨p, l, e, R, s, m, args, below, meth, c, w, SH, r, Mf⟩ := C
  intro ls H locs hl hP hS
  exact lv_dup2_11 hc.1 hc.2.1 hd (by rw [q_cat]; exact hx) (by rw [q_cat]; exact hy) (k ls H locs hl hP hS)

theorem x_if_eq {C : QC} {own : String} {cc : ByteArray} {nL d : Nat} {ret : Option FieldType} (hc : OKX C own cc nL d ret) {pc : Nat} {L : List (Nat × Value)} {st : List Value} {M : QM} {x : Int32} {off : Int} {tgt : Nat} (hd : decode cc pc = .ok (.ifCond .eq off, 3)) (ht : (pc : Int) + off = (tgt : Int)) (kt : x = 0 → WX C nL tgt L st M) (kf : ¬ x = 0 → WX C nL (pc + 3) L st M) : WX C nL pc L (.int x :: st) M := by
  obtain ⟨p, l, e, R, s, m, args, below, meth, c, w, SH, r, Mf⟩ := C
  intro ls H locs hl hP hS
  exact lv_if_eq hc.1 hc.2.1 hd ht (fun h => kt h ls H locs hl hP hS) (fun h => kf h ls H locs hl hP hS)

theorem x_icmp_eq {C : QC} {own : String} {cc : ByteArray} {nL d : Nat} {ret : Option FieldType} (hc : OKX C own cc nL d ret) {pc : Nat} {L : List (Nat × Value)} {st : List Value} {M : QM} {x y : Int32} {off : Int} {tgt : Nat} (hd : decode cc pc = .ok (.if_icmp .eq off, 3)) (ht : (pc : Int) + off = (tgt : Int)) (kt : x = y → WX C nL tgt L st M) (kf : ¬ x = y → WX C nL (pc + 3) L st M) : WX C nL pc L (.int y :: .int x :: st) M := by
  obtain ⟨p, l, e, R, s, m, args, below, meth, c, w, SH, r, Mf⟩ := C
  intro ls H locs hl hP hS
  exact lv_icmp_eq hc.1 hc.2.1 hd ht (fun h => kt h ls H locs hl hP hS) (fun h => kf h ls H locs hl hP hS)

theorem x_if_ne {C : QC} {own : String} {cc : ByteArray} {nL d : Nat} {ret : Option FieldType} (hc : OKX C own cc nL d ret) {pc : Nat} {L : List (Nat × Value)} {st : List Value} {M : QM} {x : Int32} {off : Int} {tgt : Nat} (hd : decode cc pc = .ok (.ifCond .ne off, 3)) (ht : (pc : Int) + off = (tgt : Int)) (kt : ¬ x = 0 → WX C nL tgt L st M) (kf : x = 0 → WX C nL (pc + 3) L st M) : WX C nL pc L (.int x :: st) M := by
  obtain ⟨p, l, e, R, s, m, args, below, meth, c, w, SH, r, Mf⟩ := C
  intro ls H locs hl hP hS
  exact lv_if_ne hc.1 hc.2.1 hd ht (fun h => kt h ls H locs hl hP hS) (fun h => kf h ls H locs hl hP hS)

theorem x_icmp_ne {C : QC} {own : String} {cc : ByteArray} {nL d : Nat} {ret : Option FieldType} (hc : OKX C own cc nL d ret) {pc : Nat} {L : List (Nat × Value)} {st : List Value} {M : QM} {x y : Int32} {off : Int} {tgt : Nat} (hd : decode cc pc = .ok (.if_icmp .ne off, 3)) (ht : (pc : Int) + off = (tgt : Int)) (kt : ¬ x = y → WX C nL tgt L st M) (kf : x = y → WX C nL (pc + 3) L st M) : WX C nL pc L (.int y :: .int x :: st) M := by
  obtain ⟨p, l, e, R, s, m, args, below, meth, c, w, SH, r, Mf⟩ := C
  intro ls H locs hl hP hS
  exact lv_icmp_ne hc.1 hc.2.1 hd ht (fun h => kt h ls H locs hl hP hS) (fun h => kf h ls H locs hl hP hS)

theorem x_if_lt {C : QC} {own : String} {cc : ByteArray} {nL d : Nat} {ret : Option FieldType} (hc : OKX C own cc nL d ret) {pc : Nat} {L : List (Nat × Value)} {st : List Value} {M : QM} {x : Int32} {off : Int} {tgt : Nat} (hd : decode cc pc = .ok (.ifCond .lt off, 3)) (ht : (pc : Int) + off = (tgt : Int)) (kt : x < 0 → WX C nL tgt L st M) (kf : ¬ x < 0 → WX C nL (pc + 3) L st M) : WX C nL pc L (.int x :: st) M := by
  obtain ⟨p, l, e, R, s, m, args, below, meth, c, w, SH, r, Mf⟩ := C
  intro ls H locs hl hP hS
  exact lv_if_lt hc.1 hc.2.1 hd ht (fun h => kt h ls H locs hl hP hS) (fun h => kf h ls H locs hl hP hS)

theorem x_icmp_lt {C : QC} {own : String} {cc : ByteArray} {nL d : Nat} {ret : Option FieldType} (hc : OKX C own cc nL d ret) {pc : Nat} {L : List (Nat × Value)} {st : List Value} {M : QM} {x y : Int32} {off : Int} {tgt : Nat} (hd : decode cc pc = .ok (.if_icmp .lt off, 3)) (ht : (pc : Int) + off = (tgt : Int)) (kt : x < y → WX C nL tgt L st M) (kf : ¬ x < y → WX C nL (pc + 3) L st M) : WX C nL pc L (.int y :: .int x :: st) M := by
  obtain ⟨p, l, e, R, s, m, args, below, meth, c, w, SH, r, Mf⟩ := C
  intro ls H locs hl hP hS
  exact lv_icmp_lt hc.1 hc.2.1 hd ht (fun h => kt h ls H locs hl hP hS) (fun h => kf h ls H locs hl hP hS)

theorem x_if_ge {C : QC} {own : String} {cc : ByteArray} {nL d : Nat} {ret : Option FieldType} (hc : OKX C own cc nL d ret) {pc : Nat} {L : List (Nat × Value)} {st : List Value} {M : QM} {x : Int32} {off : Int} {tgt : Nat} (hd : decode cc pc = .ok (.ifCond .ge off, 3)) (ht : (pc : Int) + off = (tgt : Int)) (kt : 0 ≤ x → WX C nL tgt L st M) (kf : ¬ 0 ≤ x → WX C nL (pc + 3) L st M) : WX C nL pc L (.int x :: st) M := by
  obtain ⟨p, l, e, R, s, m, args, below, meth, c, w, SH, r, Mf⟩ := C
  intro ls H locs hl hP hS
  exact lv_if_ge hc.1 hc.2.1 hd ht (fun h => kt h ls H locs hl hP hS) (fun h => kf h ls H locs hl hP hS)

theorem x_icmp_ge {C : QC} {own : String} {cc : ByteArray} {nL d : Nat} {ret : Option FieldType} (hc : OKX C own cc nL d ret) {pc : Nat} {L : List (Nat × Value)} {st : List Value} {M : QM} {x y : Int32} {off : Int} {tgt : Nat} (hd : decode cc pc = .ok (.if_icmp .ge off, 3)) (ht : (pc : Int) + off = (tgt : Int)) (kt : y ≤ x → WX C nL tgt L st M) (kf : ¬ y ≤ x → WX C nL (pc + 3) L st M) : WX C nL pc L (.int y :: .int x :: st) M := by
  obtain ⟨p, l, e, R, s, m, args, below, meth, c, w, SH, r, Mf⟩ := C
  intro ls H locs hl hP hS
  exact lv_icmp_ge hc.1 hc.2.1 hd ht (fun h => kt h ls H locs hl hP hS) (fun h => kf h ls H locs hl hP hS)

theorem x_if_gt {C : QC} {own : String} {cc : ByteArray} {nL d : Nat} {ret : Option FieldType} (hc : OKX C own cc nL d ret) {pc : Nat} {L : List (Nat × Value)} {st : List Value} {M : QM} {x : Int32} {off : Int} {tgt : Nat} (hd : decode cc pc = .ok (.ifCond .gt off, 3)) (ht : (pc : Int) + off = (tgt : Int)) (kt : 0 < x → WX C nL tgt L st M) (kf : ¬ 0 < x → WX C nL (pc + 3) L st M) : WX C nL pc L (.int x :: st) M := by
  obtain ⟨p, l, e, R, s, m, args, below, meth, c, w, SH, r, Mf⟩ := C
  intro ls H locs hl hP hS
  exact lv_if_gt hc.1 hc.2.1 hd ht (fun h => kt h ls H locs hl hP hS) (fun h => kf h ls H locs hl hP hS)

theorem x_icmp_gt {C : QC} {own : String} {cc : ByteArray} {nL d : Nat} {ret : Option FieldType} (hc : OKX C own cc nL d ret) {pc : Nat} {L : List (Nat × Value)} {st : List Value} {M : QM} {x y : Int32} {off : Int} {tgt : Nat} (hd : decode cc pc = .ok (.if_icmp .gt off, 3)) (ht : (pc : Int) + off = (tgt : Int)) (kt : y < x → WX C nL tgt L st M) (kf : ¬ y < x → WX C nL (pc + 3) L st M) : WX C nL pc L (.int y :: .int x :: st) M := by
  obtain ⟨p, l, e, R, s, m, args, below, meth, c, w, SH, r, Mf⟩ := C
  intro ls H locs hl hP hS
  exact lv_icmp_gt hc.1 hc.2.1 hd ht (fun h => kt h ls H locs hl hP hS) (fun h => kf h ls H locs hl hP hS)

theorem x_if_le {C : QC} {own : String} {cc : ByteArray} {nL d : Nat} {ret : Option FieldType} (hc : OKX C own cc nL d ret) {pc : Nat} {L : List (Nat × Value)} {st : List Value} {M : QM} {x : Int32} {off : Int} {tgt : Nat} (hd : decode cc pc = .ok (.ifCond .le off, 3)) (ht : (pc : Int) + off = (tgt : Int)) (kt : x ≤ 0 → WX C nL tgt L st M) (kf : ¬ x ≤ 0 → WX C nL (pc + 3) L st M) : WX C nL pc L (.int x :: st) M := by
  obtain ⟨p, l, e, R, s, m, args, below, meth, c, w, SH, r, Mf⟩ := C
  intro ls H locs hl hP hS
  exact lv_if_le hc.1 hc.2.1 hd ht (fun h => kt h ls H locs hl hP hS) (fun h => kf h ls H locs hl hP hS)

theorem x_icmp_le {C : QC} {own : String} {cc : ByteArray} {nL d : Nat} {ret : Option FieldType} (hc : OKX C own cc nL d ret) {pc : Nat} {L : List (Nat × Value)} {st : List Value} {M : QM} {x y : Int32} {off : Int} {tgt : Nat} (hd : decode cc pc = .ok (.if_icmp .le off, 3)) (ht : (pc : Int) + off = (tgt : Int)) (kt : x ≤ y → WX C nL tgt L st M) (kf : ¬ x ≤ y → WX C nL (pc + 3) L st M) : WX C nL pc L (.int y :: .int x :: st) M := by
  obtain ⟨p, l, e, R, s, m, args, below, meth, c, w, SH, r, Mf⟩ := C
  intro ls H locs hl hP hS
  exact lv_icmp_le hc.1 hc.2.1 hd ht (fun h => kt h ls H locs hl hP hS) (fun h => kf h ls H locs hl hP hS)

theorem x_goto {C : QC} {own : String} {cc : ByteArray} {nL d : Nat} {ret : Option FieldType} (hc : OKX C own cc nL d ret) {pc : Nat} {L : List (Nat × Value)} {st : List Value} {M : QM} {off : Int} {tgt : Nat} (hd : decode cc pc = .ok (.goto off, 3)) (ht : (pc : Int) + off = (tgt : Int)) (k : WX C nL tgt L st M) : WX C nL pc L st M := by
  obtain ⟨p, l, e, R, s, m, args, below, meth, c, w, SH, r, Mf⟩ := C
  intro ls H locs hl hP hS
  exact lv_goto hc.1 hc.2.1 hd ht (k ls H locs hl hP hS)

theorem x_lookup {C : QC} {own : String} {cc : ByteArray} {nL d : Nat} {ret : Option FieldType} (hc : OKX C own cc nL d ret) {pc : Nat} {L : List (Nat × Value)} {st : List Value} {M : QM} {x : Int32} {dflt : Int} {ps : Array (Int × Int)} {len : Nat} {off : Int} {tgt : Nat} (hd : decode cc pc = .ok (.lookupswitch dflt ps, len)) (hp : (ps.toList.zip (ps.toList.drop 1)).all (fun (a, next) => a.1 < next.1) = true) (ho : Op.lookupswitch.offset ps.toList dflt x.toInt = off) (ht : (pc : Int) + off = (tgt : Int)) (k : WX C nL tgt L st M) : WX C nL pc L (.int x :: st) M := by
  obtain ⟨p, l, e, R, s, m, args, below, meth, c, w, SH, r, Mf⟩ := C
  intro ls H locs hl hP hS
  exact lv_lookup hc.1 hc.2.1 hd hp ho ht (k ls H locs hl hP hS)

theorem x_tableOut {C : QC} {own : String} {cc : ByteArray} {nL d : Nat} {ret : Option FieldType} (hc : OKX C own cc nL d ret) {pc : Nat} {L : List (Nat × Value)} {st : List Value} {M : QM} {x : Int32} {dflt lo hi : Int} {offs : Array Int} {len : Nat} {tgt : Nat} (hd : decode cc pc = .ok (.tableswitch dflt lo hi offs, len)) (h : x.toInt < lo ∨ hi < x.toInt) (ht : (pc : Int) + dflt = (tgt : Int)) (k : WX C nL tgt L st M) : WX C nL pc L (.int x :: st) M := by
  obtain ⟨p, l, e, R, s, m, args, below, meth, c, w, SH, r, Mf⟩ := C
  intro ls H locs hl hP hS
  exact lv_tableOut hc.1 hc.2.1 hd h ht (k ls H locs hl hP hS)

theorem x_tableIn {C : QC} {own : String} {cc : ByteArray} {nL d : Nat} {ret : Option FieldType} (hc : OKX C own cc nL d ret) {pc : Nat} {L : List (Nat × Value)} {st : List Value} {M : QM} {x : Int32} {dflt lo hi : Int} {offs : Array Int} {len : Nat} {off : Int} {tgt : Nat} (hd : decode cc pc = .ok (.tableswitch dflt lo hi offs, len)) (h1 : ¬ x.toInt < lo) (h2 : ¬ hi < x.toInt) (ho : offs[(x.toInt - lo).toNat]? = some off) (ht : (pc : Int) + off = (tgt : Int)) (k : WX C nL tgt L st M) : WX C nL pc L (.int x :: st) M := by
  obtain ⟨p, l, e, R, s, m, args, below, meth, c, w, SH, r, Mf⟩ := C
  intro ls H locs hl hP hS
  exact lv_tableIn hc.1 hc.2.1 hd h1 h2 ho ht (k ls H locs hl hP hS)

/-- a field's link: in the program own, the pool's number idx is the field k of the program number ci -/
def FL (own : String) (idx ci k : Nat) : Prop := ∃ q : vw_C, vwCl[ci]? = some q ∧ k < q.2.2 ∧ Cond.fieldLink own idx (q.2.1 k).1 (q.2.1 k).2.1 (q.2.1 k).2.2.1 ∈ lw_good
def q_clOK (q : vw_C) : Prop := (∀ w ∈ u_ws q.1 q.2.1 q.2.2, w ∈ lw_good) ∧ (∃ ty0 : Nat → FieldType, ∀ k, k < q.2.2 → parseFieldDescriptor (q.2.1 k).2.2.1 = some (ty0 k)) ∧ (∀ a, a < q.2.2 → ∀ b, b < q.2.2 → a ≠ b → (q.2.1 a).2.1 ≠ (q.2.1 b).2.1)
theorem q_lay {C : String} {T : u_T} {N : Nat} (h : (u_ws C T N).all (fun w => decide (w ∈ lw_tbl) && goodWord w) = true) : ∀ w ∈ u_ws C T N, w ∈ lw_good := by
  intro w hw
  have h1 := List.all_eq_true.mp h w hw
  simp only [Bool.and_eq_true, decide_eq_true_eq] at h1
  exact List.mem_filter.mpr ⟨h1.1, h1.2⟩

theorem q_cl0 : q_clOK (RX0, TX0, 4) := ⟨q_lay (by decide +kernel), ⟨tyX0, tyX0_ok⟩, nmX0⟩

theorem q_cl1 : q_clOK (RX1, TX1, 10) := ⟨q_lay (by decide +kernel), ⟨tyX1, tyX1_ok⟩, nmX1⟩

theorem q_cl2 : q_clOK (RX2, TX2, 3) := ⟨q_lay (by decide +kernel), ⟨tyX2, tyX2_ok⟩, nmX2⟩

theorem q_cl3 : q_clOK (RX3, TX3, 6) := ⟨q_lay (by decide +kernel), ⟨tyX3, tyX3_ok⟩, nmX3⟩

theorem q_cl4 : q_clOK (RX4, TX4, 2) := ⟨q_lay (by decide +kernel), ⟨tyX4, tyX4_ok⟩, nmX4⟩

theorem q_cl5 : q_clOK (RX5, TX5, 6) := ⟨q_lay (by decide +kernel), ⟨tyX5, tyX5_ok⟩, nmX5⟩

theorem q_cl6 : q_clOK (RX6, TX6, 4) := ⟨q_lay (by decide +kernel), ⟨tyX6, tyX6_ok⟩, nmX6⟩

theorem q_cl7 : q_clOK (RX7, TX7, 10) := ⟨q_lay (by decide +kernel), ⟨tyX7, tyX7_ok⟩, nmX7⟩

theorem q_cl8 : q_clOK (RX8, TX8, 8) := ⟨q_lay (by decide +kernel), ⟨tyX8, tyX8_ok⟩, nmX8⟩

theorem q_cl9 : q_clOK (RX9, TX9, 34) := ⟨q_lay (by decide +kernel), ⟨tyX9, tyX9_ok⟩, nmX9⟩

theorem q_cl {ci : Nat} {q : vw_C} (h : vwCl[ci]? = some q) : q_clOK q := by
  rcases ci with _ | _ | _ | _ | _ | _ | _ | _ | _ | _ | ci
  · exact (Option.some.inj h) ▸ q_cl0
  · exact (Option.some.inj h) ▸ q_cl1
  · exact (Option.some.inj h) ▸ q_cl2
  · exact (Option.some.inj h) ▸ q_cl3
  · exact (Option.some.inj h) ▸ q_cl4
  · exact (Option.some.inj h) ▸ q_cl5
  · exact (Option.some.inj h) ▸ q_cl6
  · exact (Option.some.inj h) ▸ q_cl7
  · exact (Option.some.inj h) ▸ q_cl8
  · exact (Option.some.inj h) ▸ q_cl9
  · cases h

theorem x_getI {C : QC} {own : String} {cc : ByteArray} {nL d : Nat} {ret : Option FieldType} (hc : OKX C own cc nL d ret) {pc : Nat} {L : List (Nat × Value)} {st : List Value} {M : QM} {idx ci k o : Nat} {fs : List (Option Nat)} (hd : decode cc pc = .ok (.getfield idx, 3)) (hf : FL own idx ci k) (ho : (q_SH C)[o]? = some (.inr (ci, fs))) (hk : fs[k]? = some none) (kk : WX C nL (pc + 3) L (.int (M.1 o k) :: st) M) : WX C nL pc L (.ref o :: st) M := by
  obtain ⟨p, l, e, R, s, m, args, below, meth, c, w, SH, r, Mf⟩ := C
  intro ls H locs hl hP hS
  obtain ⟨q, hq, hkn, hlink⟩ := hf
  refine va_get hc.1 hc.2.1 hc.2.2.2.2.1 (q_cl hq).1 hc.2.2.2.1 hc.2.2.2.2.2.1 hP o (q_at ho) hq k hkn (hc.2.2.2.2.1 _ hlink) (fun _ h9 => h9) (v := .int (M.1 o k)) ?_ hd (kk ls H locs hl hP hS)
  simp [List.getElem?_mapIdx, hk, q_fv]

theorem x_getR {C : QC} {own : String} {cc : ByteArray} {nL d : Nat} {ret : Option FieldType} (hc : OKX C own cc nL d ret) {pc : Nat} {L : List (Nat × Value)} {st : List Value} {M : QM} {idx ci k o o2 : Nat} {fs : List (Option Nat)} (hd : decode cc pc = .ok (.getfield idx, 3)) (hf : FL own idx ci k) (ho : (q_SH C)[o]? = some (.inr (ci, fs))) (hk : fs[k]? = some (some o2)) (kk : WX C nL (pc + 3) L (.ref o2 :: st) M) : WX C nL pc L (.ref o :: st) M := by
  obtain ⟨p, l, e, R, s, m, args, below, meth, c, w, SH, r, Mf⟩ := C
  intro ls H locs hl hP hS
  obtain ⟨q, hq, hkn, hlink⟩ := hf
  refine va_get hc.1 hc.2.1 hc.2.2.2.2.1 (q_cl hq).1 hc.2.2.2.1 hc.2.2.2.2.2.1 hP o (q_at ho) hq k hkn (hc.2.2.2.2.1 _ hlink) (fun _ h9 => h9) (v := .ref (w.2.1 o2)) ?_ hd (kk ls H locs hl hP hS)
  simp [List.getElem?_mapIdx, hk, q_fv]

/-- a field that may be written: not final, of type int, or boolean with 0 or 1 -/
def FW (ci k : Nat) (v : Int32) : Prop := ∃ (q : vw_C) (ty : FieldType), vwCl[ci]? = some q ∧ (q.2.1 k).2.2.2 = false ∧ parseFieldDescriptor (q.2.1 k).2.2.1 = some ty ∧ narrow ty (.int v) = .int v ∧ fits ty (.int v) = true
theorem x_putI {C : QC} {own : String} {cc : ByteArray} {nL d : Nat} {ret : Option FieldType} (hc : OKX C own cc nL d ret) {pc : Nat} {L : List (Nat × Value)} {st : List Value} {M : QM} {idx ci k o : Nat} {v : Int32} {fs : List (Option Nat)} (hd : decode cc pc = .ok (.putfield idx, 3)) (hf : FL own idx ci k) (hw : FW ci k v) (ho : (q_SH C)[o]? = some (.inr (ci, fs))) (hk : fs[k]? = some none) (kk : WX C nL (pc + 3) L st (u_i M o k v)) : WX C nL pc L (.int v :: .ref o :: st) M := by
  obtain ⟨p, l, e, R, s, m, args, below, meth, c, w, SH, r, Mf⟩ := C
  intro ls H locs hl hP hS
  obtain ⟨q, hq, hkn, hlink⟩ := hf
  obtain ⟨q', ty, hq', hfin, hty, hnar, hfit⟩ := hw
  have hqq : q' = q := Option.some.inj (hq'.symm.trans hq)
  subst hqq
  obtain ⟨hlay, ⟨ty0, hty0⟩, hnm⟩ := q_cl hq
  have hlt : k < fs.length := (List.getElem?_eq_some_iff.mp hk).1
  have ho : SH[o]? = some (.inr (ci, fs)) := ho
  refine va_put (ty := ty) hc.1 hc.2.1 hc.2.2.2.2.1 hlay ty0 hty0 hnm hc.2.2.2.1 hc.2.2.2.2.2.1 hP (q_D hc.2.2.2.2.2.2.1) hS o (q_at ho) hq k hkn (hc.2.2.2.2.1 _ hlink) (fun _ h9 => h9) hfin hty hnar hfit (by simpa using hlt) hd (fun H1 locs1 hP1 _ hS1 => ?_)
  rw [q_set (M' := u_i M o k v) ho ?_ q_ne_i] at hP1
  · exact kk ls H1 locs1 hl hP1 hS1
  · simp only [q_cell]
    congr 2
    apply List.ext_getElem?
    intro j
    rw [List.getElem?_set]
    by_cases hj : k = j
    · subst hj
      simp only [List.getElem?_mapIdx, hk, Option.map_some, q_fv, u_i, List.length_mapIdx, hlt, if_true, and_self]
      rfl
    · have hj2 : ¬ j = k := fun e => hj e.symm
      simp only [if_neg hj, List.getElem?_mapIdx]
      cases fs[j]? with
      | none => rfl
      | some f => cases f <;> simp [q_fv, u_i, hj2]


theorem x_iald {C : QC} {own : String} {cc : ByteArray} {nL d : Nat} {ret : Option FieldType} (hc : OKX C own cc nL d ret) {pc : Nat} {L : List (Nat × Value)} {st : List Value} {M : QM} {o n : Nat} {i : Int32} (hd : decode cc pc = .ok (.iaload, 1)) (ho : (q_SH C)[o]? = some (.inl (0, n))) (hi : vp_in i n) (kk : WX C nL (pc + 1) L (.int (M.1 o i.toNatClampNeg) :: st) M) : WX C nL pc L (.int i :: .ref o :: st) M := by
  obtain ⟨p, l, e, R, s, m, args, below, meth, c, w, SH, r, Mf⟩ := C
  intro ls H locs hl hP hS
  exact va_iald hc.1 hc.2.1 hc.2.2.2.2.2.1 hP o 0 (q_at ho) rfl hi hd (kk ls H locs hl hP hS)


theorem x_lald {C : QC} {own : String} {cc : ByteArray} {nL d : Nat} {ret : Option FieldType} (hc : OKX C own cc nL d ret) {pc : Nat} {L : List (Nat × Value)} {st : List Value} {M : QM} {o n : Nat} {i : Int32} (hd : decode cc pc = .ok (.laload, 1)) (ho : (q_SH C)[o]? = some (.inl (1, n))) (hi : vp_in i n) (kk : WX C nL (pc + 1) L (.long (M.2 o i.toNatClampNeg) :: st) M) : WX C nL pc L (.int i :: .ref o :: st) M := by
  obtain ⟨p, l, e, R, s, m, args, below, meth, c, w, SH, r, Mf⟩ := C
  intro ls H locs hl hP hS
  exact va_lald hc.1 hc.2.1 hc.2.2.2.2.2.1 hP o 1 (q_at ho) rfl hi hd (kk ls H locs hl hP hS)


theorem x_zald {C : QC} {own : String} {cc : ByteArray} {nL d : Nat} {ret : Option FieldType} (hc : OKX C own cc nL d ret) {pc : Nat} {L : List (Nat × Value)} {st : List Value} {M : QM} {o n : Nat} {i : Int32} (hd : decode cc pc = .ok (.baload, 1)) (ho : (q_SH C)[o]? = some (.inl (2, n))) (hi : vp_in i n) (kk : WX C nL (pc + 1) L (.int (M.1 o i.toNatClampNeg) :: st) M) : WX C nL pc L (.int i :: .ref o :: st) M := by
  obtain ⟨p, l, e, R, s, m, args, below, meth, c, w, SH, r, Mf⟩ := C
  intro ls H locs hl hP hS
  exact va_zald hc.1 hc.2.1 hc.2.2.2.2.2.1 hP o 2 (q_at ho) rfl hi hd (kk ls H locs hl hP hS)


theorem x_iast {C : QC} {own : String} {cc : ByteArray} {nL d : Nat} {ret : Option FieldType} (hc : OKX C own cc nL d ret) {pc : Nat} {L : List (Nat × Value)} {st : List Value} {M : QM} {o n : Nat} {i : Int32} {v : Int32} (hd : decode cc pc = .ok (.iastore, 1)) (ho : (q_SH C)[o]? = some (.inl (0, n))) (hi : vp_in i n)  (kk : WX C nL (pc + 1) L st (u_i M o i.toNatClampNeg v)) : WX C nL pc L (.int v :: .int i :: .ref o :: st) M := by
  obtain ⟨p, l, e, R, s, m, args, below, meth, c, w, SH, r, Mf⟩ := C
  intro ls H locs hl hP hS
  have ho : SH[o]? = some (.inl (0, n)) := ho
  refine va_iast hc.1 hc.2.1 hc.2.2.2.2.2.1 hP (q_D hc.2.2.2.2.2.2.1) hS o 0 (q_at ho) rfl hi hd (fun H1 locs1 hP1 _ hS1 => ?_)
  rw [q_set (M' := u_i M o i.toNatClampNeg v) ho ?_ q_ne_i] at hP1
  · exact kk ls H1 locs1 hl hP1 hS1
  · simp only [q_cell]
    congr 4
    funext b
    simp [u_i, upd]


theorem x_last {C : QC} {own : String} {cc : ByteArray} {nL d : Nat} {ret : Option FieldType} (hc : OKX C own cc nL d ret) {pc : Nat} {L : List (Nat × Value)} {st : List Value} {M : QM} {o n : Nat} {i : Int32} {v : Int64} (hd : decode cc pc = .ok (.lastore, 1)) (ho : (q_SH C)[o]? = some (.inl (1, n))) (hi : vp_in i n)  (kk : WX C nL (pc + 1) L st (u_l M o i.toNatClampNeg v)) : WX C nL pc L (.long v :: .int i :: .ref o :: st) M := by
  obtain ⟨p, l, e, R, s, m, args, below, meth, c, w, SH, r, Mf⟩ := C
  intro ls H locs hl hP hS
  have ho : SH[o]? = some (.inl (1, n)) := ho
  refine va_last hc.1 hc.2.1 hc.2.2.2.2.2.1 hP (q_D hc.2.2.2.2.2.2.1) hS o 1 (q_at ho) rfl hi hd (fun H1 locs1 hP1 _ hS1 => ?_)
  rw [q_set (M' := u_l M o i.toNatClampNeg v) ho ?_ q_ne_l] at hP1
  · exact kk ls H1 locs1 hl hP1 hS1
  · simp only [q_cell]
    congr 5
    funext b
    simp [u_l, vp_updL]


theorem x_zast {C : QC} {own : String} {cc : ByteArray} {nL d : Nat} {ret : Option FieldType} (hc : OKX C own cc nL d ret) {pc : Nat} {L : List (Nat × Value)} {st : List Value} {M : QM} {o n : Nat} {i : Int32} {v : Int32} (hd : decode cc pc = .ok (.bastore, 1)) (ho : (q_SH C)[o]? = some (.inl (2, n))) (hi : vp_in i n) (hv : vp_nar .boolean v = v) (kk : WX C nL (pc + 1) L st (u_i M o i.toNatClampNeg v)) : WX C nL pc L (.int v :: .int i :: .ref o :: st) M := by
  obtain ⟨p, l, e, R, s, m, args, below, meth, c, w, SH, r, Mf⟩ := C
  intro ls H locs hl hP hS
  have ho : SH[o]? = some (.inl (2, n)) := ho
  refine va_zast hc.1 hc.2.1 hc.2.2.2.2.2.1 hP (q_D hc.2.2.2.2.2.2.1) hS o 2 (q_at ho) rfl hi hd (fun H1 locs1 hP1 _ hS1 => ?_)
  rw [q_set (M' := u_i M o i.toNatClampNeg v) ho ?_ q_ne_i] at hP1
  · exact kk ls H1 locs1 hl hP1 hS1
  · simp only [q_cell]
    congr 4
    funext b
    simp [u_i, upd, hv]


theorem x_alen {C : QC} {own : String} {cc : ByteArray} {nL d : Nat} {ret : Option FieldType} (hc : OKX C own cc nL d ret) {pc : Nat} {L : List (Nat × Value)} {st : List Value} {M : QM} {o n : Nat} (hd : decode cc pc = .ok (.arraylength, 1)) (ho : (q_SH C)[o]? = some (.inl (0, n))) (kk : WX C nL (pc + 1) L (.int n.toInt32 :: st) M) : WX C nL pc L (.ref o :: st) M := by
  obtain ⟨p, l, e, R, s, m, args, below, meth, c, w, SH, r, Mf⟩ := C
  intro ls H locs hl hP hS
  exact va_alen hc.1 hc.2.1 hc.2.2.2.2.2.1 hP o 0 (q_at ho) rfl rfl hd (kk ls H locs hl hP hS)

theorem x_alenL {C : QC} {own : String} {cc : ByteArray} {nL d : Nat} {ret : Option FieldType} (hc : OKX C own cc nL d ret) {pc : Nat} {L : List (Nat × Value)} {st : List Value} {M : QM} {o n : Nat} (hd : decode cc pc = .ok (.arraylength, 1)) (ho : (q_SH C)[o]? = some (.inl (1, n))) (kk : WX C nL (pc + 1) L (.int n.toInt32 :: st) M) : WX C nL pc L (.ref o :: st) M := by
  obtain ⟨p, l, e, R, s, m, args, below, meth, c, w, SH, r, Mf⟩ := C
  intro ls H locs hl hP hS
  exact va_alen hc.1 hc.2.1 hc.2.2.2.2.2.1 hP o 1 (q_at ho) rfl rfl hd (kk ls H locs hl hP hS)


theorem q_ret {p : Program} {l : Launch} {e : Env} {R : Room} {s : State} {m : MethodId} {args : Array Value} {below : List Frame} {meth : Method} {c : Code} {w : QW} {SH : List QS} {M : QM} {H : Heap} {locs : List Loc} {r : Option Value} (hK : va_K w.1 vwCl (q_ty w) s) (hP : va_P w.1 vwCl (q_wl w SH M) H) (hS : va_S (q_A w SH) s.heap H locs) (t : State) (ht : t.heap = H) (hW : s.WarmedH t.vm) : Qx w SH r M args s (.returned r) t :=
  ⟨⟨rfl, by rw [ht]; exact hP, va_K.moved hW.alike hK⟩, hS.F ht⟩

theorem x_iret {C : QC} {own : String} {cc : ByteArray} {nL d : Nat} (hc : OKX C own cc nL d (some .int)) {pc : Nat} {L : List (Nat × Value)} {M : QM} {v : Int32} (hd : decode cc pc = .ok (.ireturn, 1)) (hr : q_r C = some (.int v)) (hM : q_M C = M) : WX C nL pc L [.int v] M := by
  obtain ⟨p, l, e, R, s, m, args, below, meth, c, w, SH, r, Mf⟩ := C
  intro ls H locs hl hP hS
  have hr : r = some (.int v) := hr
  have hM : Mf = M := hM
  subst hr; subst hM
  exact W.iret hc.1 hc.2.1 hc.2.2.2.2.2.2.2.2.1 (q_ret (p := p) (l := l) (e := e) (R := R) (m := m) (args := args) (below := below) (meth := meth) (c := c) hc.2.2.2.2.2.1 hP hS) hS.2.2 hd hc.2.2.2.2.2.2.2.1

theorem x_zret {C : QC} {own : String} {cc : ByteArray} {nL d : Nat} (hc : OKX C own cc nL d (some .boolean)) {pc : Nat} {L : List (Nat × Value)} {M : QM} {v : Int32} (hd : decode cc pc = .ok (.ireturn, 1)) (hv : vp_nar .boolean v = v) (hr : q_r C = some (.int v)) (hM : q_M C = M) : WX C nL pc L [.int v] M := by
  obtain ⟨p, l, e, R, s, m, args, below, meth, c, w, SH, r, Mf⟩ := C
  intro ls H locs hl hP hS
  have hr : r = some (.int v) := hr
  have hM : Mf = M := hM
  subst hr; subst hM
  exact W.zret hc.1 hc.2.1 hc.2.2.2.2.2.2.2.2.1 (congrArg Value.int hv) (q_ret (p := p) (l := l) (e := e) (R := R) (m := m) (args := args) (below := below) (meth := meth) (c := c) hc.2.2.2.2.2.1 hP hS) hS.2.2 hd hc.2.2.2.2.2.2.2.1

theorem x_lret {C : QC} {own : String} {cc : ByteArray} {nL d : Nat} (hc : OKX C own cc nL d (some .long)) {pc : Nat} {L : List (Nat × Value)} {M : QM} {v : Int64} (hd : decode cc pc = .ok (.lreturn, 1)) (hr : q_r C = some (.long v)) (hM : q_M C = M) : WX C nL pc L [.long v] M := by
  obtain ⟨p, l, e, R, s, m, args, below, meth, c, w, SH, r, Mf⟩ := C
  intro ls H locs hl hP hS
  have hr : r = some (.long v) := hr
  have hM : Mf = M := hM
  subst hr; subst hM
  exact W.lret hc.1 hc.2.1 hc.2.2.2.2.2.2.2.2.1 (q_ret (p := p) (l := l) (e := e) (R := R) (m := m) (args := args) (below := below) (meth := meth) (c := c) hc.2.2.2.2.2.1 hP hS) hS.2.2 hd hc.2.2.2.2.2.2.2.1

theorem x_vret {C : QC} {own : String} {cc : ByteArray} {nL d : Nat} (hc : OKX C own cc nL d none) {pc : Nat} {L : List (Nat × Value)} {M : QM} (hd : decode cc pc = .ok (.return_, 1)) (hr : q_r C = none) (hM : q_M C = M) : WX C nL pc L [] M := by
  obtain ⟨p, l, e, R, s, m, args, below, meth, c, w, SH, r, Mf⟩ := C
  intro ls H locs hl hP hS
  have hr : r = none := hr
  have hM : Mf = M := hM
  subst hr; subst hM
  exact W.vret hc.1 hc.2.1 hc.2.2.2.2.2.2.2.2.1 (q_ret (p := p) (l := l) (e := e) (R := R) (m := m) (args := args) (below := below) (meth := meth) (c := c) hc.2.2.2.2.2.1 hP hS) hS.2.2 hd hc.2.2.2.2.2.2.2.1


def MW_mmin : Prop := Cond.static Lib.Math.min.name ∈ lw_good ∧ Cond.initialized "java/lang/Math" ∈ lw_good ∧ Cond.code Lib.Math.min.name Lib.Math.min.code 2 (some .int) ∈ lw_good
theorem x_mmin {C : QC} {own : String} {cc : ByteArray} {nL d : Nat} {ret : Option FieldType} (hc : OKX C own cc nL d ret) {pc : Nat} {L : List (Nat × Value)} {st : List Value} {M : QM} {idx : Nat} {x y : Int32} (hd : decode cc pc = .ok (.invokestatic idx, 3)) (hm : MW_mmin) (hlk : Cond.methodLink own idx Lib.Math.min.name ∈ lw_good) (h1 : 1 ≤ d) (hst : (st.map fun v => v.category).sum ≤ 8) (k : WX C nL (pc + 3) L (.int (if y < x then y else x) :: st) M) : WX C nL pc L (.int y :: .int x :: st) M := by
  obtain ⟨p, l, e, R, s, m, args, below, meth, c, w, SH, r, Mf⟩ := C
  intro ls H locs hl hP hS
  obtain ⟨hx, hb, hml, hown, hts, hK, hi, hlocks, hret, hR⟩ := hc
  have hR : R = q_rm d := hR
  subst hR
  refine va_mmin hx hb (by rw [hl.1]; exact hml) hown (hts _ hlk) (hts _ hm.1) (hts _ hm.2.1) (hts _ hm.2.2) h1 ?_ (Nat.zero_le _) (Nat.zero_le _) hd (k ls H locs hl hP hS)
  have h2 : ((st.map (q_cv w)).map fun v => v.category).sum = (st.map fun v => v.category).sum := by rw [List.map_map]; congr 1; apply List.map_congr_left; intro v _; exact q_cat w v
  rw [h2]
  show _ ≤ 40 * d
  omega


def MW_mmax : Prop := Cond.static Lib.Math.max.name ∈ lw_good ∧ Cond.initialized "java/lang/Math" ∈ lw_good ∧ Cond.code Lib.Math.max.name Lib.Math.max.code 2 (some .int) ∈ lw_good
theorem x_mmax {C : QC} {own : String} {cc : ByteArray} {nL d : Nat} {ret : Option FieldType} (hc : OKX C own cc nL d ret) {pc : Nat} {L : List (Nat × Value)} {st : List Value} {M : QM} {idx : Nat} {x y : Int32} (hd : decode cc pc = .ok (.invokestatic idx, 3)) (hm : MW_mmax) (hlk : Cond.methodLink own idx Lib.Math.max.name ∈ lw_good) (h1 : 1 ≤ d) (hst : (st.map fun v => v.category).sum ≤ 8) (k : WX C nL (pc + 3) L (.int (if x < y then y else x) :: st) M) : WX C nL pc L (.int y :: .int x :: st) M := by
  obtain ⟨p, l, e, R, s, m, args, below, meth, c, w, SH, r, Mf⟩ := C
  intro ls H locs hl hP hS
  obtain ⟨hx, hb, hml, hown, hts, hK, hi, hlocks, hret, hR⟩ := hc
  have hR : R = q_rm d := hR
  subst hR
  refine va_mmax hx hb (by rw [hl.1]; exact hml) hown (hts _ hlk) (hts _ hm.1) (hts _ hm.2.1) (hts _ hm.2.2) h1 ?_ (Nat.zero_le _) (Nat.zero_le _) hd (k ls H locs hl hP hS)
  have h2 : ((st.map (q_cv w)).map fun v => v.category).sum = (st.map fun v => v.category).sum := by rw [List.map_map]; congr 1; apply List.map_congr_left; intro v _; exact q_cat w v
  rw [h2]
  show _ ≤ 40 * d
  omega


def MW_mminL : Prop := Cond.static Lib.MathLoose.min_long.x ∈ lw_good ∧ Cond.initialized "java/lang/Math" ∈ lw_good ∧ Cond.code Lib.MathLoose.min_long.x Lib.MathLoose.min_long.code 4 (some .long) ∈ lw_good
theorem x_mminL {C : QC} {own : String} {cc : ByteArray} {nL d : Nat} {ret : Option FieldType} (hc : OKX C own cc nL d ret) {pc : Nat} {L : List (Nat × Value)} {st : List Value} {M : QM} {idx : Nat} {x y : Int64} (hd : decode cc pc = .ok (.invokestatic idx, 3)) (hm : MW_mminL) (hlk : Cond.methodLink own idx Lib.MathLoose.min_long.x ∈ lw_good) (h1 : 1 ≤ d) (hst : (st.map fun v => v.category).sum ≤ 8) (k : WX C nL (pc + 3) L (.long (if y < x then y else x) :: st) M) : WX C nL pc L (.long y :: .long x :: st) M := by
  obtain ⟨p, l, e, R, s, m, args, below, meth, c, w, SH, r, Mf⟩ := C
  intro ls H locs hl hP hS
  obtain ⟨hx, hb, hml, hown, hts, hK, hi, hlocks, hret, hR⟩ := hc
  have hR : R = q_rm d := hR
  subst hR
  refine va_mmin_long hx hb (by rw [hl.1]; exact hml) hown (hts _ hlk) (hts _ hm.1) (hts _ hm.2.1) (hts _ hm.2.2) h1 ?_ (Nat.zero_le _) (Nat.zero_le _) hd (k ls H locs hl hP hS)
  have h2 : ((st.map (q_cv w)).map fun v => v.category).sum = (st.map fun v => v.category).sum := by rw [List.map_map]; congr 1; apply List.map_congr_left; intro v _; exact q_cat w v
  rw [h2]
  show _ ≤ 40 * d
  omega


theorem q_call {p : Program} {l : Launch} {e : Env} {R : Room} {s : State} {m : MethodId} {args : Array Value} {below : List Frame} {meth : Method} {c : Code} {w : QW} {SH : List QS} {M1 : QM} {H : Heap} {locs : List Loc} {r1 : Option Value} {Q : State → Prop} {pc : Nat} {ls : Array Slot} {st0 rest : List Value} {a : Array Value} (hr : va_Run p l e R s m args below meth c H locs 0 0 0 0 (F0 m pc ls st0) rest (Qx w SH r1 M1 a) (q_A w SH)) (hS : va_S (q_A w SH) s.heap H locs)
    (kk : ∀ (H1 : Heap) (locs1 : List Loc), va_P w.1 vwCl (q_wl w SH M1) H1 → va_S (q_A w SH) s.heap H1 locs1 → W p l e R s m args below meth c H1 locs1 0 0 Q (F0 m (pc + 3) ls (r1.toList ++ rest))) : W p l e R s m args below meth c H locs 0 0 Q (F0 m pc ls st0) := by
  intro T hT X
  obtain ⟨v, st₀, t, T', Lc, h0, X', hL, e1, e2, ⟨⟨hv, hp, -⟩, hz, hk⟩, stp⟩ := hr T hT X
  cases hv
  rw [h0] at hz hk
  obtain ⟨t2, a1, b1⟩ := kk T'.heap (locs ++ Lc) (by rw [e1]; exact hp)
    ⟨Nat.le_trans hS.1 (by rw [e1]; exact hz), fun q h1 h2 => by rw [e1, hk q (Nat.lt_of_lt_of_le h1 hS.1) h2]; exact hS.2.1 q h1 h2, fun q hq => by
      rcases List.mem_append.mp hq with h | h
      · exact hS.2.2 q h
      · exact hL q h⟩ T' rfl X'
  exact ⟨t2, stp t2 a1, b1⟩

def CV (y : MethodName) (cy : ByteArray) (maxL : Nat) (rt : Option FieldType) (n : Nat) : Prop := Cond.code y cy maxL rt ∈ lw_good ∧ Cond.instanceMethod y ∈ lw_good ∧ Cond.selects y.cls y y ∈ lw_good ∧ Cond.initialized y.cls ∈ lw_good ∧ (y.cls ≠ "java/lang/invoke/MethodHandle" ∧ y.cls ≠ "java/lang/invoke/VarHandle" ∧ (parseMethodDescriptor y.desc).map (fun d => d.parameters.length) = some n) ∧ maxL ≤ 21
def CS (y : MethodName) (cy : ByteArray) (maxL : Nat) (rt : Option FieldType) (n : Nat) : Prop := Cond.code y cy maxL rt ∈ lw_good ∧ Cond.static y ∈ lw_good ∧ Cond.initialized y.cls ∈ lw_good ∧ (y.cls ≠ "java/lang/invoke/MethodHandle" ∧ y.cls ≠ "java/lang/invoke/VarHandle" ∧ (parseMethodDescriptor y.desc).map (fun d => d.parameters.length) = some n) ∧ maxL ≤ 21
theorem q_toL (w : QW) (r : Option Value) (h : ∀ v, r = some v → q_cv w v = v) (st : List Value) : (r.toList ++ st).map (q_cv w) = r.toList ++ st.map (q_cv w) := by
  cases r with
  | none => rfl
  | some v => simp [h v rfl]
def q_num (r : Option Value) : Prop := ∀ (w : QW) (v : Value), r = some v → q_cv w v = v
theorem q_num_i (x : Int32) : q_num (some (.int x)) := fun w v h => by cases h; rfl
theorem q_num_l (x : Int64) : q_num (some (.long x)) := fun w v h => by cases h; rfl
theorem q_num_v : q_num none := fun w v h => by cases h
theorem q_sum (w : QW) (st : List Value) : ((st.map (q_cv w)).map fun v => v.category).sum = (st.map fun v => v.category).sum := by rw [List.map_map]; congr 1; apply List.map_congr_left; intro v _; exact q_cat w v

theorem x_callV {C : QC} {own : String} {cc : ByteArray} {nL d : Nat} {ret : Option FieldType} (hc : OKX C own cc nL d ret) {pc : Nat} {L : List (Nat × Value)} {st : List Value} {M : QM} {idx ci o n d1 maxL : Nat} {fs : List (Option Nat)} {y : MethodName} {cy : ByteArray} {rt : Option FieldType} {As : List Value} {r1 : Option Value} {M1 : QM} (hd : decode cc pc = .ok (.invokevirtual idx, 3)) (hy : CV y cy maxL rt n) (hlk : Cond.methodLink own idx y ∈ lw_good) (ho : (q_SH C)[o]? = some (.inr (ci, fs))) (hci : (vwCl[ci]?).map (fun q => q.1) = some y.cls) (hn : As.length = n) (hM : Cn y cy maxL rt d1 (q_SH C) (.ref o :: As) M r1 M1) (hdd : d1 < d) (hst : (st.map fun v => v.category).sum ≤ 8) (hnum : q_num r1) (k : WX C nL (pc + 3) L (r1.toList ++ st) M1) : WX C nL pc L (As.reverse ++ .ref o :: st) M := by
  obtain ⟨p, l, e, R, s, m, args, below, meth, c, w, SH, r, Mf⟩ := C
  intro ls H locs hl hP hS
  obtain ⟨hx, hb, hml, hown, hts, hK, hi, hlocks, hret, hR⟩ := hc
  have hR : R = q_rm d := hR
  subst hR
  obtain ⟨g1, g2, g3, g4, g5, g6⟩ := hy
  have hM1 := hM l w hi
  obtain ⟨q, hq, hqc⟩ : ∃ q : vw_C, vwCl[ci]? = some q ∧ q.1 = y.cls := by
    cases hz : vwCl[ci]? with
    | none => rw [hz] at hci; cases hci
    | some q => rw [hz] at hci; exact ⟨q, rfl, Option.some.inj hci⟩
  have hG : GoodIn lw_good (wsV own idx y.cls y (.code y cy maxL rt :: lw_good)) := q_good (fun x hx2 => by
    simp only [wsV, List.mem_append, List.mem_cons, List.not_mem_nil, or_false] at hx2
    rcases hx2 with (h | h | h | h) | h | h
    · rw [h]; exact hlk
    · rw [h]; exact g2
    · rw [h]; exact g3
    · rw [h]; exact g4
    · rw [h]; exact g1
    · exact h)
  have hrec := va_recv hK hP hq (q_at (w := w) (M := M) ho)
  rw [hqc] at hrec
  have hrun := va_runV (R := q_rm d) (H := H) (locs := locs) (cells := 0) (slots := 0) (e := e) (below := below) (meth := meth) (g := F0 m pc ls ((As.reverse ++ .ref o :: st).map (q_cv w))) (As := As.map (q_cv w)) (rest := st.map (q_cv w)) (b := w.2.1 o) ⟨hx, hb, hml, hown, hts⟩ hM1 (cwV n hts hG rfl rfl rfl ⟨rfl, g5⟩ ⟨by show d1 + 1 ≤ d; omega, by show 8 + (maxL + 11) + 40 * d1 ≤ 40 * d; omega⟩)
    ⟨fun a U g mk hq => ⟨hq.1, hq.2.1, va_K.moved (u := U) (U := U.calling g mk a) (Vm.Alike.refl U.vm) hq.2.2⟩, hrec, fun U hU hW => ⟨rfl, by rw [hU]; exact hP, va_K.moved hW.alike hK⟩⟩ rfl (by rw [List.length_map]; exact hn) hl.1 (by simp [F0, q_cv]) (lv_room (by rw [q_sum]; exact hst)) hd ⟨Nat.le_refl _, Nat.le_refl _⟩
  refine q_call hrun hS (fun H1 locs1 hP1 hS1 => ?_)
  have hk := k ls H1 locs1 hl hP1 hS1
  rw [q_toL w r1 (hnum w)] at hk
  exact hk

theorem x_callS {C : QC} {own : String} {cc : ByteArray} {nL d : Nat} {ret : Option FieldType} (hc : OKX C own cc nL d ret) {pc : Nat} {L : List (Nat × Value)} {st : List Value} {M : QM} {idx n d1 maxL : Nat} {y : MethodName} {cy : ByteArray} {rt : Option FieldType} {As : List Value} {r1 : Option Value} {M1 : QM} (hd : decode cc pc = .ok (.invokestatic idx, 3)) (hy : CS y cy maxL rt n) (hlk : Cond.methodLink own idx y ∈ lw_good) (hn : As.length = n) (hM : Cn y cy maxL rt d1 (q_SH C) As M r1 M1) (hdd : d1 < d) (hst : (st.map fun v => v.category).sum ≤ 8) (hnum : q_num r1) (k : WX C nL (pc + 3) L (r1.toList ++ st) M1) : WX C nL pc L (As.reverse ++ st) M := by
  obtain ⟨p, l, e, R, s, m, args, below, meth, c, w, SH, r, Mf⟩ := C
  intro ls H locs hl hP hS
  obtain ⟨hx, hb, hml, hown, hts, hK, hi, hlocks, hret, hR⟩ := hc
  have hR : R = q_rm d := hR
  subst hR
  obtain ⟨g1, g2, g4, g5, g6⟩ := hy
  have hM1 := hM l w hi
  have hG : GoodIn lw_good (va_wsS own idx y (.code y cy maxL rt :: lw_good)) := q_good (fun x hx2 => by
    simp only [va_wsS, List.mem_append, List.mem_cons, List.not_mem_nil, or_false] at hx2
    rcases hx2 with (h | h | h) | h | h
    · rw [h]; exact hlk
    · rw [h]; exact g2
    · rw [h]; exact g4
    · rw [h]; exact g1
    · exact h)
  have hrun := va_runS (R := q_rm d) (H := H) (locs := locs) (cells := 0) (slots := 0) (e := e) (below := below) (meth := meth) (g := F0 m pc ls ((As.reverse ++ st).map (q_cv w))) (As := As.map (q_cv w)) (rest := st.map (q_cv w)) ⟨hx, hb, hml, hown, hts⟩ hM1 (va_cwS n hts hG rfl rfl rfl g5 ⟨by show d1 + 1 ≤ d; omega, by show 8 + (maxL + 11) + 40 * d1 ≤ 40 * d; omega⟩)
    ⟨fun a U g mk hq => ⟨hq.1, hq.2.1, va_K.moved (u := U) (U := U.calling g mk a) (Vm.Alike.refl U.vm) hq.2.2⟩, fun U hU hW => ⟨rfl, by rw [hU]; exact hP, va_K.moved hW.alike hK⟩⟩ rfl (by rw [List.length_map]; exact hn) hl.1 (by simp [F0]) (lv_room (by rw [q_sum]; exact hst)) hd ⟨Nat.le_refl _, Nat.le_refl _⟩
  refine q_call hrun hS (fun H1 locs1 hP1 hS1 => ?_)
  have hk := k ls H1 locs1 hl hP1 hS1
  rw [q_toL w r1 (hnum w)] at hk
  exact hk


def inb (i : Int32) (n : Nat) : Bool := decide (¬ (i < 0 ∨ n ≤ i.toNatClampNeg))
theorem inb_in {i : Int32} {n : Nat} (h : inb i n = true) : vp_in i n := by
  unfold inb at h
  unfold vp_in
  exact of_decide_eq_true h
def isb (v : Int32) : Bool := decide (v = 0) || decide (v = 1)
theorem isb_nar {v : Int32} (h : isb v = true) : vp_nar .boolean v = v := by
  simp only [isb, Bool.or_eq_true, decide_eq_true_eq] at h
  rcases h with rfl | rfl <;> rfl
def ck {α : Type} (b : Bool) (x : Option α) : Option α := match b with
  | true => x
  | false => none
theorem ck_some {α : Type} {b : Bool} {x : Option α} {a : α} (h : ck b x = some a) : b = true ∧ x = some a := by
  cases b with
  | true => exact ⟨rfl, h⟩
  | false => cases h
theorem ite_t {α : Type} {c : Prop} [Decidable c] {a b : Option α} {x : α} (hc : c) (h : (if c then a else b) = some x) : a = some x := by rwa [if_pos hc] at h
theorem ite_f {α : Type} {c : Prop} [Decidable c] {a b : Option α} {x : α} (hc : ¬ c) (h : (if c then a else b) = some x) : b = some x := by rwa [if_neg hc] at h
theorem bd_some {α β : Type} {f : Option α} {k : α → Option β} {b : β} (h : f.bind k = some b) : ∃ a, f = some a ∧ k a = some b := Option.bind_eq_some_iff.mp h
/-- a loop: its body answers with an end, or with what it goes on with -/
def iter {α β : Type} (B : α → Option (β ⊕ α)) : Nat → α → Option β
  | 0, _ => none
  | n + 1, a => match B a with
    | none => none
    | some (.inl b) => some b
    | some (.inr a2) => iter B n a2
theorem iter_W {α β : Type} {B : α → Option (β ⊕ α)} {Wh : α → Prop} {b : β} (hB : ∀ (a : α) (res : β ⊕ α), B a = some res → (∀ x, res = .inl x → x = b) → (∀ x, res = .inr x → Wh x) → Wh a) :
    ∀ (n : Nat) (a : α), iter B n a = some b → Wh a := by
  intro n
  induction n with
  | zero => intro a h; cases h
  | succ n ih =>
    intro a h
    rw [iter] at h
    cases hb : B a with
    | none => rw [hb] at h; cases h
    | some res =>
      rw [hb] at h
      cases res with
      | inl x => exact hB a _ hb (fun y hy => by cases hy; exact Option.some.inj h) (fun y hy => by cases hy)
      | inr x => exact hB a _ hb (fun y hy => by cases hy) (fun y hy => by cases hy; exact ih _ h)
def FU : Nat := 10000000

