/-! worlds that grow: constructors, and the law's own body -/
abbrev QD : Type := Program × Launch × Env × Room × State × MethodId × Array Value × List Frame × Method × Code × QW × (Nat → Prop) × (State → Prop)
def d_w : QD → QW := fun C => C.2.2.2.2.2.2.2.2.2.2.1
def d_in : QD → Prop := fun C => C.2.2.2.2.2.2.2.2.1.name = "<init>"
def WY : QD → Nat → Nat → List (Nat × Value) → List Value → va_W → Nat → Nat → Prop := fun (p, l, e, R, s, m, args, below, meth, c, w, A, Q) nL pc L st ws cells slots =>
  ∀ (ls : Array Slot) (H : Heap) (locs : List Loc), lv_has ls nL L → va_P w.1 vwCl ws H → va_D A ws → va_S A s.heap H locs → W p l e R s m args below meth c H locs cells slots Q (F0 m pc ls st)
def OKY : QD → String → ByteArray → Nat → Room → Prop := fun (p, l, e, R, s, m, args, below, meth, c, w, A, Q) own cc nL rm =>
  p.tables.exec = Jvm.exec ∧ c.code = cc ∧ c.maxLocals = nL ∧ s.vm.findClass own = some m.cls ∧ (∀ x ∈ lw_good, x.before args s = true) ∧ va_K w.1 vwCl (q_ty w) s ∧ (∀ q, s.heap.size ≤ q → A q) ∧ R = rm
/-- a constructor's contract: from the cells ws it comes to cells of which post says what they are -/
def Ci (y : MethodName) (cc : ByteArray) (maxL : Nat) (rm : Room) (w : QW) (av : List Value) (ws : va_W) (post : va_W → Prop) : Prop :=
  ∀ (l : Launch) (sz : Nat), Met l y (.code y cc maxL none :: lw_good) rm (va_Pc av (fun U => U.heap.size = sz ∧ va_P w.1 vwCl ws U.heap ∧ va_K w.1 vwCl (q_ty w) U ∧ va_D (fun _ => True) ws))
    (va_Qv post (fun u t => va_P w.1 vwCl u t.heap ∧ va_K w.1 vwCl (q_ty w) t ∧ va_D (va_A ws sz) u) (va_A ws sz)) rm.cells rm.slots (va_A ws sz)
theorem y_enter {y : MethodName} {cc : ByteArray} {maxL : Nat} {rm : Room} {w : QW} {av : List Value} {ws : va_W} {post : va_W → Prop} (hy : plainName y.cls = true) (hy1 : y.name = "<init>") (hn : (lg_sl av).length ≤ maxL) {L : List (Nat × Value)} (hL : lv_args 0 av = L)
    (h : ∀ C : QD, OKY C y.cls cc maxL rm → d_w C = w → d_in C → (∀ (pc : Nat) (L : List (Nat × Value)) (ws' : va_W) (cells slots : Nat), decode cc pc = .ok (.return_, 1) → post ws' → cells = rm.cells → slots = rm.slots → WY C maxL pc L [] ws' cells slots) → WY C maxL 0 L [] ws 0 0) : Ci y cc maxL rm w av ws post := by
  intro l sz
  refine Met.ofW (cc := cc) (maxL := maxL) (ret := none) hy rfl ?_
  intro p e s m args below meth c s₁ B hml hv
  obtain ⟨rfl, hsz, hP, hK, hD0⟩ := hv
  have hts := atoms_spec (ws := .code y cc maxL none :: lw_good) B.pre
  have hin : meth.name = "<init>" := (name_of_methodNamed B.named B.method).1.trans hy1
  subst hsz
  have hD := hD0.self (sz := s.heap.size)
  have hw := h (p, l, e, rm, s, m, av.toArray, below, meth, c, w, va_A ws s.heap.size, MQ below (va_Qv post (fun u t => va_P w.1 vwCl u t.heap ∧ va_K w.1 vwCl (q_ty w) t ∧ va_D (va_A ws s.heap.size) u) (va_A ws s.heap.size)) av.toArray s rm.cells rm.slots (va_A ws s.heap.size))
    ⟨B.exec, B.bytes, hml, findClass_of_methodNamed B.named, fun x hx => hts x (List.mem_cons_of_mem _ hx), hK, fun q hq => Or.inr hq, rfl⟩ rfl hin
    (fun pc L ws' cells slots hd hpost hcl hsl ls H locs hl hP hD hS => by
      subst hcl; subst hsl
      exact W.vret B.exec B.bytes B.returns (fun t ht hW => ⟨⟨ws', rfl, hpost, by rw [ht]; exact hP, va_K.moved hW.alike hK, hD⟩, hS.F ht⟩) hS.2.2 hd B.notSynchronized)
  rw [lg_entry_eq]
  have hl := lv_entry av (n := maxL) hn
  rw [hL] at hl
  exact hw _ s.heap [] hl hP hD va_S.rf
theorem y_ws {C : QD} {nL pc : Nat} {L : List (Nat × Value)} {st : List Value} {ws ws2 : va_W} {cells slots c2 s2 : Nat} (k : WY C nL pc L st ws2 c2 s2) (h : ws = ws2) (hc : cells = c2) (hs : slots = s2) : WY C nL pc L st ws cells slots := by
  subst h; subst hc; subst hs; exact k

theorem y_iconst {C : QD} {own : String} {cc : ByteArray} {nL : Nat} {rm : Room} (hc : OKY C own cc nL rm) {pc : Nat} {L : List (Nat × Value)} {st : List Value} {ws : va_W} {cells slots : Nat} {n : Int} {v : Int32} (hd : decode cc pc = .ok (.iconst n, 1)) (hv : Int32.ofInt n = v) (k : WY C nL (pc + 1) L (.int v :: st) ws cells slots) : WY C nL pc L (st) ws cells slots := by
  obtain ⟨p, l, e, R, s, m, args, below, meth, c, w, A, Q⟩ := C
  intro ls H locs hl hP hD hS
  exact lv_iconst hc.1 hc.2.1 hd hv (k ls H locs hl hP hD hS)

theorem y_bipush {C : QD} {own : String} {cc : ByteArray} {nL : Nat} {rm : Room} (hc : OKY C own cc nL rm) {pc : Nat} {L : List (Nat × Value)} {st : List Value} {ws : va_W} {cells slots : Nat} {n : Int} {v : Int32} (hd : decode cc pc = .ok (.bipush n, 2)) (hv : (Int8.ofInt n).toInt32 = v) (k : WY C nL (pc + 2) L (.int v :: st) ws cells slots) : WY C nL pc L (st) ws cells slots := by
  obtain ⟨p, l, e, R, s, m, args, below, meth, c, w, A, Q⟩ := C
  intro ls H locs hl hP hD hS
  exact lv_bipush hc.1 hc.2.1 hd hv (k ls H locs hl hP hD hS)

theorem y_sipush {C : QD} {own : String} {cc : ByteArray} {nL : Nat} {rm : Room} (hc : OKY C own cc nL rm) {pc : Nat} {L : List (Nat × Value)} {st : List Value} {ws : va_W} {cells slots : Nat} {n : Int} {v : Int32} (hd : decode cc pc = .ok (.sipush n, 3)) (hv : (Int16.ofInt n).toInt32 = v) (k : WY C nL (pc + 3) L (.int v :: st) ws cells slots) : WY C nL pc L (st) ws cells slots := by
  obtain ⟨p, l, e, R, s, m, args, below, meth, c, w, A, Q⟩ := C
  intro ls H locs hl hP hD hS
  exact lv_sipush hc.1 hc.2.1 hd hv (k ls H locs hl hP hD hS)

theorem y_iload_n {C : QD} {own : String} {cc : ByteArray} {nL : Nat} {rm : Room} (hc : OKY C own cc nL rm) {pc : Nat} {L : List (Nat × Value)} {st : List Value} {ws : va_W} {cells slots : Nat} {j : Fin 4} {i : Nat} {x : Int32} (hd : decode cc pc = .ok (.iload_n j, 1)) (hi : (j : Nat) = i) (q : Nat) (hk : L[q]? = some (i, .int x)) (k : WY C nL (pc + 1) L (.int x :: st) ws cells slots) : WY C nL pc L (st) ws cells slots := by
  obtain ⟨p, l, e, R, s, m, args, below, meth, c, w, A, Q⟩ := C
  intro ls H locs hl hP hD hS
  exact lv_iload_n hc.1 hc.2.1 hd hi (lv_at hl q hk) (k ls H locs hl hP hD hS)

theorem y_aload_n {C : QD} {own : String} {cc : ByteArray} {nL : Nat} {rm : Room} (hc : OKY C own cc nL rm) {pc : Nat} {L : List (Nat × Value)} {st : List Value} {ws : va_W} {cells slots : Nat} {j : Fin 4} {i : Nat} {x : Nat} (hd : decode cc pc = .ok (.aload_n j, 1)) (hi : (j : Nat) = i) (q : Nat) (hk : L[q]? = some (i, .ref x)) (k : WY C nL (pc + 1) L (.ref x :: st) ws cells slots) : WY C nL pc L (st) ws cells slots := by
  obtain ⟨p, l, e, R, s, m, args, below, meth, c, w, A, Q⟩ := C
  intro ls H locs hl hP hD hS
  exact lv_aload_n hc.1 hc.2.1 hd hi (lv_at hl q hk) (k ls H locs hl hP hD hS)

theorem y_istore_n {C : QD} {own : String} {cc : ByteArray} {nL : Nat} {rm : Room} (hc : OKY C own cc nL rm) {pc : Nat} {L : List (Nat × Value)} {st : List Value} {ws : va_W} {cells slots : Nat} {j : Fin 4} {i : Nat} {x : Int32} {L2 : List (Nat × Value)} (hd : decode cc pc = .ok (.istore_n j, 1)) (hi : (j : Nat) = i) (hn : i < nL) (hL : (i, Value.int x) :: L.filter (fun q => !(q.1 == i) && !(q.1 + 1 == i && q.2.category == 2)) = L2) (k : WY C nL (pc + 1) L2 st ws cells slots) : WY C nL pc L (.int x :: st) ws cells slots := by
  obtain ⟨p, l, e, R, s, m, args, below, meth, c, w, A, Q⟩ := C
  intro ls H locs hl hP hD hS
  exact lv_istore_n hc.1 hc.2.1 hd hi hl hn hL (fun ls2 hl2 => k ls2 H locs hl2 hP hD hS)

theorem y_astore_n {C : QD} {own : String} {cc : ByteArray} {nL : Nat} {rm : Room} (hc : OKY C own cc nL rm) {pc : Nat} {L : List (Nat × Value)} {st : List Value} {ws : va_W} {cells slots : Nat} {j : Fin 4} {i : Nat} {x : Nat} {L2 : List (Nat × Value)} (hd : decode cc pc = .ok (.astore_n j, 1)) (hi : (j : Nat) = i) (hn : i < nL) (hL : (i, Value.ref x) :: L.filter (fun q => !(q.1 == i) && !(q.1 + 1 == i && q.2.category == 2)) = L2) (k : WY C nL (pc + 1) L2 st ws cells slots) : WY C nL pc L (.ref x :: st) ws cells slots := by
  obtain ⟨p, l, e, R, s, m, args, below, meth, c, w, A, Q⟩ := C
  intro ls H locs hl hP hD hS
  exact lv_astore_n hc.1 hc.2.1 hd hi hl hn hL (fun ls2 hl2 => k ls2 H locs hl2 hP hD hS)

theorem y_iinc {C : QD} {own : String} {cc : ByteArray} {nL : Nat} {rm : Room} (hc : OKY C own cc nL rm) {pc : Nat} {L : List (Nat × Value)} {st : List Value} {ws : va_W} {cells slots : Nat} {i : Nat} {n : Int} {x v : Int32} {L2 : List (Nat × Value)} (hd : decode cc pc = .ok (.iinc i n, 3)) (q : Nat) (hk : L[q]? = some (i, .int x)) (hv : x + Int32.ofInt n = v) (hn : i < nL) (hL : (i, Value.int v) :: L.filter (fun q => !(q.1 == i) && !(q.1 + 1 == i && q.2.category == 2)) = L2) (k : WY C nL (pc + 3) L2 st ws cells slots) : WY C nL pc L st ws cells slots := by
  obtain ⟨p, l, e, R, s, m, args, below, meth, c, w, A, Q⟩ := C
  intro ls H locs hl hP hD hS
  exact lv_iinc (k := q) hc.1 hc.2.1 hd hl hk hv hn hL (fun ls2 hl2 => k ls2 H locs hl2 hP hD hS)

theorem y_imul {C : QD} {own : String} {cc : ByteArray} {nL : Nat} {rm : Room} (hc : OKY C own cc nL rm) {pc : Nat} {L : List (Nat × Value)} {st : List Value} {ws : va_W} {cells slots : Nat} {x y : Int32} (hd : decode cc pc = .ok (.imul, 1)) (k : WY C nL (pc + 1) L (.int (x * y) :: st) ws cells slots) : WY C nL pc L (.int y :: .int x :: st) ws cells slots := by
  obtain ⟨p, l, e, R, s, m, args, below, meth, c, w, A, Q⟩ := C
  intro ls H locs hl hP hD hS
  exact lv_imul hc.1 hc.2.1 hd (k ls H locs hl hP hD hS)

theorem y_dup {C : QD} {own : String} {cc : ByteArray} {nL : Nat} {rm : Room} (hc : OKY C own cc nL rm) {pc : Nat} {L : List (Nat × Value)} {st : List Value} {ws : va_W} {cells slots : Nat} {x : Value} (hd : decode cc pc = .ok (.dup, 1)) (hx : x.category = 1) (k : WY C nL (pc + 1) L (x :: x :: st) ws cells slots) : WY C nL pc L (x :: st) ws cells slots := by
  obtain ⟨p, l, e, R, s, m, args, below, meth, c, w, A, Q⟩ := C
  intro ls H locs hl hP hD hS
  exact lv_dup hc.1 hc.2.1 hd hx (k ls H locs hl hP hD hS)

theorem y_goto {C : QD} {own : String} {cc : ByteArray} {nL : Nat} {rm : Room} (hc : OKY C own cc nL rm) {pc : Nat} {L : List (Nat × Value)} {st : List Value} {ws : va_W} {cells slots : Nat} {off : Int} {tgt : Nat} (hd : decode cc pc = .ok (.goto off, 3)) (ht : (pc : Int) + off = (tgt : Int)) (k : WY C nL tgt L st ws cells slots) : WY C nL pc L st ws cells slots := by
  obtain ⟨p, l, e, R, s, m, args, below, meth, c, w, A, Q⟩ := C
  intro ls H locs hl hP hD hS
  exact lv_goto hc.1 hc.2.1 hd ht (k ls H locs hl hP hD hS)

theorem y_if_le {C : QD} {own : String} {cc : ByteArray} {nL : Nat} {rm : Room} (hc : OKY C own cc nL rm) {pc : Nat} {L : List (Nat × Value)} {st : List Value} {ws : va_W} {cells slots : Nat} {x : Int32} {off : Int} {tgt : Nat} (hd : decode cc pc = .ok (.ifCond .le off, 3)) (ht : (pc : Int) + off = (tgt : Int)) (kt : x ≤ 0 → WY C nL tgt L st ws cells slots) (kf : ¬ x ≤ 0 → WY C nL (pc + 3) L st ws cells slots) : WY C nL pc L (.int x :: st) ws cells slots := by
  obtain ⟨p, l, e, R, s, m, args, below, meth, c, w, A, Q⟩ := C
  intro ls H locs hl hP hD hS
  exact lv_if_le hc.1 hc.2.1 hd ht (fun h => kt h ls H locs hl hP hD hS) (fun h => kf h ls H locs hl hP hD hS)

theorem y_icmp_ge {C : QD} {own : String} {cc : ByteArray} {nL : Nat} {rm : Room} (hc : OKY C own cc nL rm) {pc : Nat} {L : List (Nat × Value)} {st : List Value} {ws : va_W} {cells slots : Nat} {x y : Int32} {off : Int} {tgt : Nat} (hd : decode cc pc = .ok (.if_icmp .ge off, 3)) (ht : (pc : Int) + off = (tgt : Int)) (kt : y ≤ x → WY C nL tgt L st ws cells slots) (kf : ¬ y ≤ x → WY C nL (pc + 3) L st ws cells slots) : WY C nL pc L (.int y :: .int x :: st) ws cells slots := by
  obtain ⟨p, l, e, R, s, m, args, below, meth, c, w, A, Q⟩ := C
  intro ls H locs hl hP hD hS
  exact lv_icmp_ge hc.1 hc.2.1 hd ht (fun h => kt h ls H locs hl hP hD hS) (fun h => kf h ls H locs hl hP hD hS)

theorem y_get {C : QD} {own : String} {cc : ByteArray} {nL : Nat} {rm : Room} (hc : OKY C own cc nL rm) {pc : Nat} {L : List (Nat × Value)} {st : List Value} {ws : va_W} {cells slots : Nat} {idx ci k a : Nat} {fs : List Value} {v : Value} (hd : decode cc pc = .ok (.getfield idx, 3)) (hf : FL own idx ci k) (q0 : Nat) (he : ws[q0]? = some (a, .inr (ci, fs))) (hv : fs[k]? = some v) (kk : WY C nL (pc + 3) L (v :: st) ws cells slots) : WY C nL pc L (.ref a :: st) ws cells slots := by
  obtain ⟨p, l, e, R, s, m, args, below, meth, c, w, A, Q⟩ := C
  intro ls H locs hl hP hD hS
  obtain ⟨q, hq, hkn, hlink⟩ := hf
  exact va_get hc.1 hc.2.1 hc.2.2.2.2.1 (q_cl hq).1 hc.2.2.2.1 hc.2.2.2.2.2.1 hP q0 he hq k hkn (hc.2.2.2.2.1 _ hlink) (fun _ h9 => h9) hv hd (kk ls H locs hl hP hD hS)

theorem y_putI {C : QD} {own : String} {cc : ByteArray} {nL : Nat} {rm : Room} (hc : OKY C own cc nL rm) {pc : Nat} {L : List (Nat × Value)} {st : List Value} {ws : va_W} {cells slots : Nat} {idx ci k a : Nat} {v : Int32} {fs : List Value} (hd : decode cc pc = .ok (.putfield idx, 3)) (hf : FL own idx ci k) (hw : FW ci k v) (q0 : Nat) (he : ws[q0]? = some (a, .inr (ci, fs))) (hlt : k < fs.length) (kk : WY C nL (pc + 3) L st (ws.set q0 (a, .inr (ci, fs.set k (.int v)))) cells slots) : WY C nL pc L (.int v :: .ref a :: st) ws cells slots := by
  obtain ⟨p, l, e, R, s, m, args, below, meth, c, w, A, Q⟩ := C
  intro ls H locs hl hP hD hS
  obtain ⟨q, hq, hkn, hlink⟩ := hf
  obtain ⟨q', ty, hq', hfin, hty, hnar, hfit⟩ := hw
  have hqq : q' = q := Option.some.inj (hq'.symm.trans hq)
  subst hqq
  obtain ⟨hlay, ⟨ty0, hty0⟩, hnm⟩ := q_cl hq
  exact va_put (ty := ty) hc.1 hc.2.1 hc.2.2.2.2.1 hlay ty0 hty0 hnm hc.2.2.2.1 hc.2.2.2.2.2.1 hP hD hS q0 he hq k hkn (hc.2.2.2.2.1 _ hlink) (fun _ h9 => h9) hfin hty hnar hfit hlt hd (fun H1 locs1 hP1 hD1 hS1 => kk ls H1 locs1 hl hP1 hD1 hS1)

/-- a final field, and what it takes -/
def FF (own : String) (ci k : Nat) (v : Value) : Prop := ∃ (q : vw_C) (ty : FieldType), vwCl[ci]? = some q ∧ (q.2.1 k).2.2.2 = true ∧ (q.2.1 k).1 = own ∧ parseFieldDescriptor (q.2.1 k).2.2.1 = some ty ∧ narrow ty v = v ∧ fits ty v = true
theorem y_putF {C : QD} {own : String} {cc : ByteArray} {nL : Nat} {rm : Room} (hc : OKY C own cc nL rm) {pc : Nat} {L : List (Nat × Value)} {st : List Value} {ws : va_W} {cells slots : Nat} {idx ci k a : Nat} {v : Value} {fs : List Value} (hin : d_in C) (hd : decode cc pc = .ok (.putfield idx, 3)) (hf : FL own idx ci k) (hw : FF own ci k v) (q0 : Nat) (he : ws[q0]? = some (a, .inr (ci, fs))) (hlt : k < fs.length) (kk : WY C nL (pc + 3) L st (ws.set q0 (a, .inr (ci, fs.set k v))) cells slots) : WY C nL pc L (v :: .ref a :: st) ws cells slots := by
  obtain ⟨p, l, e, R, s, m, args, below, meth, c, w, A, Q⟩ := C
  intro ls H locs hl hP hD hS
  obtain ⟨q, hq, hkn, hlink⟩ := hf
  obtain ⟨q', ty, hq', hfin, hdecl, hty, hnar, hfit⟩ := hw
  have hqq : q' = q := Option.some.inj (hq'.symm.trans hq)
  subst hqq
  obtain ⟨hlay, ⟨ty0, hty0⟩, hnm⟩ := q_cl hq
  exact va_putF (ty := ty) hc.1 hc.2.1 hc.2.2.2.2.1 hlay ty0 hty0 hnm hc.2.2.2.1 hc.2.2.2.2.2.1 hP hD hS q0 he hq k hkn (hc.2.2.2.2.1 _ hlink) (fun _ h9 => h9) hfin hin hdecl hty hnar hfit hlt hd (fun H1 locs1 hP1 hD1 hS1 => kk ls H1 locs1 hl hP1 hD1 hS1)

theorem y_iast {C : QD} {own : String} {cc : ByteArray} {nL : Nat} {rm : Room} (hc : OKY C own cc nL rm) {pc : Nat} {L : List (Nat × Value)} {st : List Value} {ws : va_W} {cells slots : Nat} {a n : Nat} {f : Nat → Int32} {i v : Int32} (hd : decode cc pc = .ok (.iastore, 1)) (q0 : Nat) (he : ws[q0]? = some (a, .inl ((d_w C).2.2.1, n, .inl f))) (hi : vp_in i n) (kk : WY C nL (pc + 1) L st (ws.set q0 (a, .inl ((d_w C).2.2.1, n, .inl (upd f i.toNatClampNeg v)))) cells slots) : WY C nL pc L (.int v :: .int i :: .ref a :: st) ws cells slots := by
  obtain ⟨p, l, e, R, s, m, args, below, meth, c, w, A, Q⟩ := C
  intro ls H locs hl hP hD hS
  exact va_iast hc.1 hc.2.1 hc.2.2.2.2.2.1 hP hD hS q0 0 he rfl hi hd (fun H1 locs1 hP1 hD1 hS1 => kk ls H1 locs1 hl hP1 hD1 hS1)


theorem y_newI {C : QD} {own : String} {cc : ByteArray} {nL : Nat} {rm : Room} (hc : OKY C own cc nL rm) {pc : Nat} {L : List (Nat × Value)} {st : List Value} {ws : va_W} {cells slots : Nat} {n : Int32} {N : Nat} (hd : decode cc pc = .ok (.newarray .int, 2)) (hcl : Cond.arrayClass .int ∈ lw_good) (hn : ¬ n < 0) (hN : n.toNatClampNeg = N) (hbytes : N * componentBytes .int ≤ 536870912) (hcells : cells + 1 ≤ rm.cells) (hslots : slots + N ≤ rm.slots) (kk : ∀ q : Nat, WY C nL (pc + 2) L (.ref q :: st) (ws ++ [(q, .inl ((d_w C).2.2.1, N, .inl (fun _ => 0)))]) (cells + 1) (slots + N)) : WY C nL pc L (.int n :: st) ws cells slots := by
  obtain ⟨p, l, e, R, s, m, args, below, meth, c, w, A, Q⟩ := C
  intro ls H locs hl hP hD hS
  obtain ⟨hx, hb, hml, hown, hts, hK, hA, hR⟩ := hc
  have hR : R = rm := hR
  subst hR
  refine va_newa (atype := .int) (a0 := (N, .inl (fun _ => 0))) hx hb (hts _ hcl) rfl hK hP hD hS hA (fun cA => rfl) hn hN hbytes hcells hslots hd (fun q cA H1 hK1 hP1 hD1 hS1 => ?_)
  have h1 := (hK1.2 3 (cA, .int) rfl).2
  have h2 := (hK.2 0 (w.2.2.1, .int) rfl).2
  have h3 : cA = w.2.2.1 := Option.some.inj (Eq.trans (Eq.symm h1) h2)
  subst h3
  exact kk q ls H1 locs hl hP1 hD1 hS1


theorem y_newJ {C : QD} {own : String} {cc : ByteArray} {nL : Nat} {rm : Room} (hc : OKY C own cc nL rm) {pc : Nat} {L : List (Nat × Value)} {st : List Value} {ws : va_W} {cells slots : Nat} {n : Int32} {N : Nat} (hd : decode cc pc = .ok (.newarray .long, 2)) (hcl : Cond.arrayClass .long ∈ lw_good) (hn : ¬ n < 0) (hN : n.toNatClampNeg = N) (hbytes : N * componentBytes .long ≤ 536870912) (hcells : cells + 1 ≤ rm.cells) (hslots : slots + N ≤ rm.slots) (kk : ∀ q : Nat, WY C nL (pc + 2) L (.ref q :: st) (ws ++ [(q, .inl ((d_w C).2.2.2.1, N, .inr (.inl (fun _ => 0))))]) (cells + 1) (slots + N)) : WY C nL pc L (.int n :: st) ws cells slots := by
  obtain ⟨p, l, e, R, s, m, args, below, meth, c, w, A, Q⟩ := C
  intro ls H locs hl hP hD hS
  obtain ⟨hx, hb, hml, hown, hts, hK, hA, hR⟩ := hc
  have hR : R = rm := hR
  subst hR
  refine va_newa (atype := .long) (a0 := (N, .inr (.inl (fun _ => 0)))) hx hb (hts _ hcl) rfl hK hP hD hS hA (fun cA => rfl) hn hN hbytes hcells hslots hd (fun q cA H1 hK1 hP1 hD1 hS1 => ?_)
  have h1 := (hK1.2 3 (cA, .long) rfl).2
  have h2 := (hK.2 1 (w.2.2.2.1, .long) rfl).2
  have h3 : cA = w.2.2.2.1 := Option.some.inj (Eq.trans (Eq.symm h1) h2)
  subst h3
  exact kk q ls H1 locs hl hP1 hD1 hS1


theorem y_newZ {C : QD} {own : String} {cc : ByteArray} {nL : Nat} {rm : Room} (hc : OKY C own cc nL rm) {pc : Nat} {L : List (Nat × Value)} {st : List Value} {ws : va_W} {cells slots : Nat} {n : Int32} {N : Nat} (hd : decode cc pc = .ok (.newarray .boolean, 2)) (hcl : Cond.arrayClass .boolean ∈ lw_good) (hn : ¬ n < 0) (hN : n.toNatClampNeg = N) (hbytes : N * componentBytes .boolean ≤ 536870912) (hcells : cells + 1 ≤ rm.cells) (hslots : slots + N ≤ rm.slots) (kk : ∀ q : Nat, WY C nL (pc + 2) L (.ref q :: st) (ws ++ [(q, .inl ((d_w C).2.2.2.2, N, .inl (fun _ => 0)))]) (cells + 1) (slots + N)) : WY C nL pc L (.int n :: st) ws cells slots := by
  obtain ⟨p, l, e, R, s, m, args, below, meth, c, w, A, Q⟩ := C
  intro ls H locs hl hP hD hS
  obtain ⟨hx, hb, hml, hown, hts, hK, hA, hR⟩ := hc
  have hR : R = rm := hR
  subst hR
  refine va_newa (atype := .boolean) (a0 := (N, .inl (fun _ => 0))) hx hb (hts _ hcl) rfl hK hP hD hS hA (fun cA => rfl) hn hN hbytes hcells hslots hd (fun q cA H1 hK1 hP1 hD1 hS1 => ?_)
  have h1 := (hK1.2 3 (cA, .boolean) rfl).2
  have h2 := (hK.2 2 (w.2.2.2.2, .boolean) rfl).2
  have h3 : cA = w.2.2.2.2 := Option.some.inj (Eq.trans (Eq.symm h1) h2)
  subst h3
  exact kk q ls H1 locs hl hP1 hD1 hS1


theorem y_new {C : QD} {own : String} {cc : ByteArray} {nL : Nat} {rm : Room} (hc : OKY C own cc nL rm) {pc : Nat} {L : List (Nat × Value)} {st : List Value} {ws : va_W} {cells slots : Nat} {idx ci N : Nat} {Cn T} {fs : List Value} {ty : Nat → FieldType} (hd : decode cc pc = .ok (.new idx, 3)) (hcl : Cond.classLink own idx Cn ∈ lw_good) (hinst : Cond.instantiable Cn N ∈ lw_good) (hini : Cond.initialized Cn ∈ lw_good) (hq : vwCl[ci]? = some (Cn, T, N)) (hty : ∀ k, k < N → parseFieldDescriptor (T k).2.2.1 = some (ty k)) (hfs : ∀ j, j < N → defaultValue (ty j) = vp_V fs j) (hcells : cells + 1 ≤ rm.cells) (hslots : slots + N ≤ rm.slots) (kk : ∀ q : Nat, WY C nL (pc + 3) L (.ref q :: st) (ws ++ [(q, .inr (ci, fs))]) (cells + 1) (slots + N)) : WY C nL pc L st ws cells slots := by
  obtain ⟨p, l, e, R, s, m, args, below, meth, c, w, A, Q⟩ := C
  intro ls H locs hl hP hD hS
  obtain ⟨hx, hb, hml, hown, hts, hK, hA, hR⟩ := hc
  have hR : R = rm := hR
  subst hR
  exact va_new hx hb hts (q_cl hq).1 ty hty hown (hts _ hcl) (hts _ hinst) (hts _ hini) hK hP hD hS hA hq hfs hcells hslots hd (fun q H1 hP1 hD1 hS1 => kk q ls H1 locs hl hP1 hD1 hS1)

theorem y_objInit {C : QD} {own : String} {cc : ByteArray} {nL : Nat} {rm : Room} (hc : OKY C own cc nL rm) {pc : Nat} {L : List (Nat × Value)} {st : List Value} {ws : va_W} {cells slots : Nat} {idx a : Nat} (hd : decode cc pc = .ok (.invokespecial idx, 3)) (hlk : Cond.methodLink own idx objectInit ∈ lw_good) (hins : Cond.instanceMethod objectInit ∈ lw_good) (hcode : Cond.code objectInit ⟨#[0xb1]⟩ 1 none ∈ lw_good) (hfr : 1 ≤ rm.frames) (hlo : 12 ≤ rm.locals) (k : WY C nL (pc + 3) L [] ws cells slots) : WY C nL pc L [.ref a] ws cells slots := by
  obtain ⟨p, l, e, R, s, m, args, below, meth, c, w, A, Q⟩ := C
  intro ls H locs hl hP hD hS
  obtain ⟨hx, hb, hml, hown, hts, hK, hA, hR⟩ := hc
  have hR : R = rm := hR
  subst hR
  exact W.objInit hx hb hown (hts _ hlk) (hts _ hins) (hts _ hcode) rfl (by rw [hml]; exact hl.1) rfl hd hfr hlo (k ls H locs hl hP hD hS)

theorem y_init {C : QD} {own : String} {cc : ByteArray} {nL : Nat} {rm : Room} (hc : OKY C own cc nL rm) {pc : Nat} {L : List (Nat × Value)} {st : List Value} {ws : va_W} {cells slots : Nat} {idx n maxL q : Nat} {y : MethodName} {cy : ByteArray} {rm1 : Room} {As : List Value} {x : va_E} {wr : va_W} {post : va_W → Prop} (hd : decode cc pc = .ok (.invokespecial idx, 3)) (hcode : Cond.code y cy maxL none ∈ lw_good) (hini : Cond.initialized y.cls ∈ lw_good) (hins : Cond.instanceMethod y ∈ lw_good) (hlk : Cond.methodLink own idx y ∈ lw_good) (hy : y.name = "<init>") (hdesc : y.cls ≠ "java/lang/invoke/MethodHandle" ∧ y.cls ≠ "java/lang/invoke/VarHandle" ∧ (parseMethodDescriptor y.desc).map (fun d => d.parameters.length) = some n) (hn : As.length = n) (k : Nat) (isR : List Nat) (hC : ws[k]? = some (q, x)) (hR : isR.map (fun i => ws[i]?) = wr.map some) (hnd : va_nd isR = true) (hdis : ∀ i ∈ isR, i ∉ [k]) (hM : Ci y cy maxL rm1 (d_w C) (.ref q :: As) [(q, x)] post) (hroom : rm1.frames + 1 ≤ rm.frames ∧ 8 + (maxL + 11) + rm1.locals ≤ rm.locals) (hcs : cells + rm1.cells ≤ rm.cells ∧ slots + rm1.slots ≤ rm.slots) (hst : (st.map fun v => v.category).sum ≤ 8) (kk : ∀ ws1, post ws1 → WY C nL (pc + 3) L st (wr ++ ws1) (cells + rm1.cells) (slots + rm1.slots)) : WY C nL pc L (As.reverse ++ .ref q :: st) ws cells slots := by
  obtain ⟨p, l, e, R, s, m, args, below, meth, c, w, A, Q⟩ := C
  intro ls H locs hl hP hD hS
  obtain ⟨hx, hb, hml, hown, hts, hK, hA, hRR⟩ := hc
  have hRR : R = rm := hRR
  subst hRR
  have hCm : [k].map (fun i => ws[i]?) = [(q, x)].map some := by simp [hC]
  have hPc : va_P w.1 vwCl [(q, x)] H := hP.sub [k] (by simp [hC])
  have hDc := hD.sub (ws' := [(q, x)]) [k] rfl hCm
  have hFc := va_free (wc := [(q, x)]) hD hS hA [k] hCm
  have hG : GoodIn lw_good (.code y cy maxL none :: lw_good) := q_good (fun z hz => by
    rcases List.mem_cons.mp hz with h | h
    · rw [h]; exact hcode
    · exact h)
  refine va_callv (va_runI (As := As) (rest := st) ⟨hx, hb, hml, hown, hts⟩ (hM l H.size) (cwI n hts hG rfl rfl rfl (hts _ hini) (hts _ hlk) (hts _ hins) hy hdesc hroom) ⟨fun a U g mk hq => ⟨hq.1, hq.2.1, hq.2.2.1, va_K.moved (u := U) (U := U.calling g mk a) (Vm.Alike.refl U.vm) hq.2.2.2.1, hq.2.2.2.2⟩, fun U hU hW => ⟨rfl, by rw [hU], by rw [hU]; exact hPc, va_K.moved hW.alike hK, hDc.weaken (fun _ _ _ _ => trivial)⟩⟩ rfl hn hl.1 rfl (lv_room hst) hd hcs) hS (fun q _ h => hFc q h) hFc (fun u t H1 locs1 ht hvm hw hB hz1 hk1 hS1 => ?_)
  obtain ⟨hP1, hK1, hD1⟩ := hB
  rw [ht] at hP1
  obtain ⟨hP2, hD2⟩ := va_join (wr := wr) (w1 := u) hP hD [k] isR hCm hR hnd hdis hk1 hFc hP1 hD1
  exact kk u hw ls H1 locs1 hl hP2 hD2 hS1


theorem y_callV {C : QD} {own : String} {cc : ByteArray} {nL : Nat} {rm : Room} (hc : OKY C own cc nL rm) {pc : Nat} {L : List (Nat × Value)} {st : List Value} {ws : va_W} {cells slots : Nat} {idx n d1 maxL : Nat} {y : MethodName} {cy : ByteArray} {rt : Option FieldType} {As : List Value} {r1 : Option Value} {M M1 : QM} {SH : List QS} {wr : va_W} (hd : decode cc pc = .ok (.invokevirtual idx, 3)) (hy : CV y cy maxL rt n) (hlk : Cond.methodLink own idx y ∈ lw_good) (ad : Nat → Nat) (hinj : q_inj ((d_w C).1, ad, (d_w C).2.2) SH) {o ci : Nat} {fs : List (Option Nat)} (ho : SH[o]? = some (.inr (ci, fs))) (hci : (vwCl[ci]?).map (fun q => q.1) = some y.cls) (hAs : As.map (q_cv ((d_w C).1, ad, (d_w C).2.2)) = As) (hn : As.length = n) (hM : Cn y cy maxL rt d1 SH (.ref o :: As) M r1 M1) (isC isR : List Nat) (hC : isC.map (fun i => ws[i]?) = (q_wl ((d_w C).1, ad, (d_w C).2.2) SH M).map some) (hR : isR.map (fun i => ws[i]?) = wr.map some) (hnC : va_nd isC = true) (hnd : va_nd isR = true) (hdis : ∀ i ∈ isR, i ∉ isC) (hroom : d1 + 1 ≤ rm.frames ∧ 8 + (maxL + 11) + 40 * d1 ≤ rm.locals) (hcs : cells ≤ rm.cells ∧ slots ≤ rm.slots) (hst : (st.map fun v => v.category).sum ≤ 8) (kk : WY C nL (pc + 3) L (r1.toList ++ st) (wr ++ q_wl ((d_w C).1, ad, (d_w C).2.2) SH M1) cells slots) : WY C nL pc L (As.reverse ++ .ref (ad o) :: st) ws cells slots := by
  obtain ⟨p, l, e, R, s, m, args, below, meth, c, w, A, Q⟩ := C
  intro ls H locs hl hP hD hS
  obtain ⟨hx, hb, hml, hown, hts, hK, hA, hRR⟩ := hc
  have hRR : R = rm := hRR
  subst hRR
  generalize hw1 : ((d_w (p, l, e, R, s, m, args, below, meth, c, w, A, Q)).1, ad, (d_w (p, l, e, R, s, m, args, below, meth, c, w, A, Q)).2.2) = w1 at *
  have e1 : w1.1 = w.1 := by rw [← hw1]; rfl
  have e2 : q_ty w1 = q_ty w := by rw [← hw1]; rfl
  have e3 : w1.2.1 = ad := by rw [← hw1]
  have hK1 : va_K w1.1 vwCl (q_ty w1) s := by rw [e1, e2]; exact hK
  have hPc : va_P w1.1 vwCl (q_wl w1 SH M) H := by
    rw [e1]
    intro k q hq
    have h1 : (isC.map (fun i => ws[i]?))[k]? = some (some q) := by rw [hC, List.getElem?_map, hq]; rfl
    rw [List.getElem?_map] at h1
    cases hi : isC[k]? with
    | none => rw [hi] at h1; cases h1
    | some i => rw [hi] at h1; exact hP i q (Option.some.inj h1)
  have hFc := va_free (wc := q_wl w1 SH M) hD hS hA isC hC
  have hsub : ∀ q, q_A w1 SH q → va_A (q_wl w1 SH M) H.size q := by
    intro q hq
    obtain ⟨o2, ho2, hq2⟩ := hq
    obtain ⟨x2, hx2⟩ : ∃ x2, SH[o2]? = some x2 := ⟨_, List.getElem?_eq_getElem ho2⟩
    exact Or.inl ⟨o2, q_cell w1 M o2 x2, by rw [q_at hx2, hq2]⟩
  obtain ⟨g1, g2, g3, g4, g5, g6⟩ := hy
  have hM1 := hM l w1 hinj
  obtain ⟨q, hq, hqc⟩ : ∃ q : vw_C, vwCl[ci]? = some q ∧ q.1 = y.cls := by
    cases hz : vwCl[ci]? with
    | none => rw [hz] at hci; cases hci
    | some q => rw [hz] at hci; exact ⟨q, rfl, Option.some.inj hci⟩
  have hG : GoodIn lw_good (wsV own idx y.cls y (.code y cy maxL rt :: lw_good)) := q_good (fun x hx2 => by
    simp only [wsV, List.mem_append, List.mem_cons, List.not_mem_nil, or_false] at hx2
    rcases hx2 with (h | h | h | h) | h | h
    · rw [h]; exact hlk
    · rw [h]; exact g2
    · rw [h]; exact g3
    · rw [h]; exact g4
    · rw [h]; exact g1
    · exact h)
  have hrec := va_recv hK1 hPc hq (q_at (w := w1) (M := M) ho)
  rw [hqc, e3] at hrec
  have hrun := va_runV (R := R) (H := H) (locs := locs) (cells := cells) (slots := slots) (e := e) (below := below) (meth := meth) (g := F0 m pc ls (As.reverse ++ .ref (ad o) :: st)) (As := As) (rest := st) (b := ad o) ⟨hx, hb, hml, hown, hts⟩ hM1 (cwV n hts hG rfl rfl rfl ⟨rfl, g5⟩ hroom)
    ⟨fun a U g mk hq => ⟨hq.1, hq.2.1, va_K.moved (u := U) (U := U.calling g mk a) (Vm.Alike.refl U.vm) hq.2.2⟩, hrec, fun U hU hW => ⟨by show _ = ((Value.ref o :: As).map (q_cv w1)).toArray; rw [List.map_cons, hAs]; show _ = (Value.ref (w1.2.1 o) :: As).toArray; rw [e3], by rw [hU]; exact hPc, va_K.moved hW.alike hK1⟩⟩ rfl hn hl.1 rfl (lv_room hst) hd hcs
  intro T hT X
  obtain ⟨v, st₀, t, T', Lc, h0, X', hL, f1, f2, ⟨⟨hv, hp, -⟩, hz, hk⟩, stp⟩ := hrun T hT X
  cases hv
  rw [h0] at hz hk
  have hk2 : ∀ q : Nat, q < H.size → ¬ va_A (q_wl w1 SH M) H.size q → T'.heap[q]? = H[q]? := fun q h1 h2 => by rw [f1]; exact hk q h1 (fun z => h2 (hsub q z))
  have hD1 : va_D (va_A (q_wl w1 SH M) H.size) (q_wl w1 SH M1) := (q_D hinj).weaken (fun _ _ _ h => hsub _ h)
  have hP1 : va_P w.1 vwCl (q_wl w1 SH M1) T'.heap := by rw [f1, ← e1]; exact hp
  obtain ⟨hP2, hD2⟩ := va_join (wr := wr) (w1 := q_wl w1 SH M1) hP hD isC isR hC hR hnd hdis hk2 hFc hP1 hD1
  obtain ⟨t2, a1, b1⟩ := kk ls T'.heap (locs ++ Lc) hl hP2 hD2
    ⟨Nat.le_trans hS.1 (by rw [f1]; exact hz), fun q h3 h4 => (hk2 q (Nat.lt_of_lt_of_le h3 hS.1) (fun z => h4 (hFc q z))).trans (hS.2.1 q h3 h4), fun q hq => by
      rcases List.mem_append.mp hq with h | h
      · exact hS.2.2 q h
      · exact hFc _ (hsub _ (hL q h))⟩ T' rfl X'
  exact ⟨t2, stp t2 a1, b1⟩


theorem y_callS {C : QD} {own : String} {cc : ByteArray} {nL : Nat} {rm : Room} (hc : OKY C own cc nL rm) {pc : Nat} {L : List (Nat × Value)} {st : List Value} {ws : va_W} {cells slots : Nat} {idx n d1 maxL : Nat} {y : MethodName} {cy : ByteArray} {rt : Option FieldType} {As : List Value} {r1 : Option Value} {M M1 : QM} {SH : List QS} {wr : va_W} (hd : decode cc pc = .ok (.invokestatic idx, 3)) (hy : CS y cy maxL rt n) (hlk : Cond.methodLink own idx y ∈ lw_good) (ad : Nat → Nat) (hinj : q_inj ((d_w C).1, ad, (d_w C).2.2) SH)  (hn : As.length = n) (hM : Cn y cy maxL rt d1 SH As M r1 M1) (isC isR : List Nat) (hC : isC.map (fun i => ws[i]?) = (q_wl ((d_w C).1, ad, (d_w C).2.2) SH M).map some) (hR : isR.map (fun i => ws[i]?) = wr.map some) (hnC : va_nd isC = true) (hnd : va_nd isR = true) (hdis : ∀ i ∈ isR, i ∉ isC) (hroom : d1 + 1 ≤ rm.frames ∧ 8 + (maxL + 11) + 40 * d1 ≤ rm.locals) (hcs : cells ≤ rm.cells ∧ slots ≤ rm.slots) (hst : (st.map fun v => v.category).sum ≤ 8) (kk : WY C nL (pc + 3) L (r1.toList ++ st) (wr ++ q_wl ((d_w C).1, ad, (d_w C).2.2) SH M1) cells slots) : WY C nL pc L ((As.map (q_cv ((d_w C).1, ad, (d_w C).2.2))).reverse ++ st) ws cells slots := by
  obtain ⟨p, l, e, R, s, m, args, below, meth, c, w, A, Q⟩ := C
  intro ls H locs hl hP hD hS
  obtain ⟨hx, hb, hml, hown, hts, hK, hA, hRR⟩ := hc
  have hRR : R = rm := hRR
  subst hRR
  generalize hw1 : ((d_w (p, l, e, R, s, m, args, below, meth, c, w, A, Q)).1, ad, (d_w (p, l, e, R, s, m, args, below, meth, c, w, A, Q)).2.2) = w1 at *
  have e1 : w1.1 = w.1 := by rw [← hw1]; rfl
  have e2 : q_ty w1 = q_ty w := by rw [← hw1]; rfl
  have e3 : w1.2.1 = ad := by rw [← hw1]
  have hK1 : va_K w1.1 vwCl (q_ty w1) s := by rw [e1, e2]; exact hK
  have hPc : va_P w1.1 vwCl (q_wl w1 SH M) H := by
    rw [e1]
    intro k q hq
    have h1 : (isC.map (fun i => ws[i]?))[k]? = some (some q) := by rw [hC, List.getElem?_map, hq]; rfl
    rw [List.getElem?_map] at h1
    cases hi : isC[k]? with
    | none => rw [hi] at h1; cases h1
    | some i => rw [hi] at h1; exact hP i q (Option.some.inj h1)
  have hFc := va_free (wc := q_wl w1 SH M) hD hS hA isC hC
  have hsub : ∀ q, q_A w1 SH q → va_A (q_wl w1 SH M) H.size q := by
    intro q hq
    obtain ⟨o2, ho2, hq2⟩ := hq
    obtain ⟨x2, hx2⟩ : ∃ x2, SH[o2]? = some x2 := ⟨_, List.getElem?_eq_getElem ho2⟩
    exact Or.inl ⟨o2, q_cell w1 M o2 x2, by rw [q_at hx2, hq2]⟩
  obtain ⟨g1, g2, g4, g5, g6⟩ := hy
  have hM1 := hM l w1 hinj
  have hG : GoodIn lw_good (va_wsS own idx y (.code y cy maxL rt :: lw_good)) := q_good (fun x hx2 => by
    simp only [va_wsS, List.mem_append, List.mem_cons, List.not_mem_nil, or_false] at hx2
    rcases hx2 with (h | h | h) | h | h
    · rw [h]; exact hlk
    · rw [h]; exact g2
    · rw [h]; exact g4
    · rw [h]; exact g1
    · exact h)
  have hrun := va_runS (R := R) (H := H) (locs := locs) (cells := cells) (slots := slots) (e := e) (below := below) (meth := meth) (g := F0 m pc ls ((As.map (q_cv w1)).reverse ++ st)) (As := As.map (q_cv w1)) (rest := st) ⟨hx, hb, hml, hown, hts⟩ hM1 (va_cwS n hts hG rfl rfl rfl g5 hroom)
    ⟨fun a U g mk hq => ⟨hq.1, hq.2.1, va_K.moved (u := U) (U := U.calling g mk a) (Vm.Alike.refl U.vm) hq.2.2⟩, fun U hU hW => ⟨rfl, by rw [hU]; exact hPc, va_K.moved hW.alike hK1⟩⟩ rfl (by rw [List.length_map]; exact hn) hl.1 rfl (lv_room hst) hd hcs
  intro T hT X
  obtain ⟨v, st₀, t, T', Lc, h0, X', hL, f1, f2, ⟨⟨hv, hp, -⟩, hz, hk⟩, stp⟩ := hrun T hT X
  cases hv
  rw [h0] at hz hk
  have hk2 : ∀ q : Nat, q < H.size → ¬ va_A (q_wl w1 SH M) H.size q → T'.heap[q]? = H[q]? := fun q h1 h2 => by rw [f1]; exact hk q h1 (fun z => h2 (hsub q z))
  have hD1 : va_D (va_A (q_wl w1 SH M) H.size) (q_wl w1 SH M1) := (q_D hinj).weaken (fun _ _ _ h => hsub _ h)
  have hP1 : va_P w.1 vwCl (q_wl w1 SH M1) T'.heap := by rw [f1, ← e1]; exact hp
  obtain ⟨hP2, hD2⟩ := va_join (wr := wr) (w1 := q_wl w1 SH M1) hP hD isC isR hC hR hnd hdis hk2 hFc hP1 hD1
  obtain ⟨t2, a1, b1⟩ := kk ls T'.heap (locs ++ Lc) hl hP2 hD2
    ⟨Nat.le_trans hS.1 (by rw [f1]; exact hz), fun q h3 h4 => (hk2 q (Nat.lt_of_lt_of_le h3 hS.1) (fun z => h4 (hFc q z))).trans (hS.2.1 q h3 h4), fun q hq => by
      rcases List.mem_append.mp hq with h | h
      · exact hS.2.2 q h
      · exact hFc _ (hsub _ (hL q h))⟩ T' rfl X'
  exact ⟨t2, stp t2 a1, b1⟩


