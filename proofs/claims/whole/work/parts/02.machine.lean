/-! the memory of the system, as numbers: int cells and long cells by object and place -/
abbrev QM : Type := (Nat → Nat → Int32) × (Nat → Nat → Int64)
def u_i (M : QM) (o k : Nat) (v : Int32) : QM := (fun a b => if a = o ∧ b = k then v else M.1 a b, M.2)
def u_l (M : QM) (o k : Nat) (v : Int64) : QM := (M.1, fun a b => if a = o ∧ b = k then v else M.2 a b)
/-- what an object is: an array (0 int, 1 long, 2 boolean) of a length, or an object of a program with its fields: another object, or an int -/
abbrev QS : Type := (Nat × Nat) ⊕ (Nat × List (Option Nat))
/-- where it lies: the classes' numbers, the addresses, the classes of int, long, boolean arrays -/
abbrev QW : Type := va_G × (Nat → Nat) × ClassId × ClassId × ClassId
def q_fv (w : QW) (M : QM) (o k : Nat) (f : Option Nat) : Value := match f with
  | none => .int (M.1 o k)
  | some r => .ref (w.2.1 r)
def q_cell (w : QW) (M : QM) (o : Nat) (h : QS) : va_E := match h with
  | .inl (0, n) => .inl (w.2.2.1, n, .inl (M.1 o))
  | .inl (1, n) => .inl (w.2.2.2.1, n, .inr (.inl (M.2 o)))
  | .inl (_ + 2, n) => .inl (w.2.2.2.2, n, .inl (M.1 o))
  | .inr (ci, fs) => .inr (ci, fs.mapIdx (q_fv w M o))
def q_wl (w : QW) (SH : List QS) (M : QM) : va_W := SH.mapIdx (fun o h => (w.2.1 o, q_cell w M o h))
def q_ty (w : QW) : List (ClassId × FieldType) := [(w.2.2.1, .int), (w.2.2.2.1, .long), (w.2.2.2.2, .boolean)]
def q_inj (w : QW) (SH : List QS) : Prop := ∀ i j, i < SH.length → j < SH.length → w.2.1 i = w.2.1 j → i = j
def q_A (w : QW) (SH : List QS) : Nat → Prop := fun q => ∃ o, o < SH.length ∧ q = w.2.1 o
theorem q_at {w : QW} {SH : List QS} {M : QM} {o : Nat} {x : QS} (h : SH[o]? = some x) : (q_wl w SH M)[o]? = some (w.2.1 o, q_cell w M o x) := by
  simp [q_wl, List.getElem?_mapIdx, h]
theorem q_of {w : QW} {SH : List QS} {M : QM} {o : Nat} {q : Nat × va_E} (h : (q_wl w SH M)[o]? = some q) : o < SH.length ∧ q.1 = w.2.1 o := by
  rw [q_wl, List.getElem?_mapIdx] at h
  cases hx : SH[o]? with
  | none => rw [hx] at h; cases h
  | some x =>
    rw [hx] at h
    have h1 := Option.some.inj h
    exact ⟨(List.getElem?_eq_some_iff.mp hx).1, by rw [← h1]⟩
theorem q_D {w : QW} {SH : List QS} {M : QM} (hi : q_inj w SH) : va_D (q_A w SH) (q_wl w SH M) := by
  refine ⟨fun i j p q hp hq hpq => ?_, fun k q hq => ?_⟩
  · obtain ⟨h1, h2⟩ := q_of hp
    obtain ⟨h3, h4⟩ := q_of hq
    exact hi i j h1 h3 (by rw [← h2, ← h4]; exact hpq)
  · obtain ⟨h1, h2⟩ := q_of hq
    exact ⟨k, h1, h2⟩
theorem q_set {w : QW} {SH : List QS} {M M' : QM} {o : Nat} {x : QS} {e : va_E} (hx : SH[o]? = some x) (he : q_cell w M' o x = e) (hne : ∀ (j : Nat) (h : QS), j ≠ o → q_cell w M' j h = q_cell w M j h) :
    (q_wl w SH M).set o (w.2.1 o, e) = q_wl w SH M' := by
  apply List.ext_getElem?
  intro j
  rw [List.getElem?_set]
  by_cases hj : o = j
  · subst hj
    have hlt : o < (q_wl w SH M).length := by
      simp only [q_wl, List.length_mapIdx]
      exact (List.getElem?_eq_some_iff.mp hx).1
    rw [if_pos rfl, if_pos hlt, q_at hx, he]
  · rw [if_neg hj]
    simp only [q_wl, List.getElem?_mapIdx]
    cases hq : SH[j]? with
    | none => rfl
    | some y => simp [hne j y (fun e => hj e.symm)]
theorem q_ne_i {w : QW} {M : QM} {o k : Nat} {v : Int32} (j : Nat) (h : QS) (hj : j ≠ o) : q_cell w (u_i M o k v) j h = q_cell w M j h := by
  have hf : (u_i M o k v).1 j = M.1 j := by funext b; simp [u_i, hj]
  rcases h with ⟨t, n⟩ | ⟨ci, fs⟩
  · rcases t with _ | _ | t <;> simp [q_cell, hf] <;> rfl
  · simp only [q_cell]
    congr 2
    have : q_fv w (u_i M o k v) j = q_fv w M j := by
      funext b f
      cases f <;> simp [q_fv, hf]
    rw [this]
theorem q_ne_l {w : QW} {M : QM} {o k : Nat} {v : Int64} (j : Nat) (h : QS) (hj : j ≠ o) : q_cell w (u_l M o k v) j h = q_cell w M j h := by
  have hf : (u_l M o k v).2 j = M.2 j := by funext b; simp [u_l, hj]
  rcases h with ⟨t, n⟩ | ⟨ci, fs⟩
  · rcases t with _ | _ | t <;> simp [q_cell, hf] <;> rfl
  · rfl
/-! the context of a walk: machine, launch, room, the method, the world, what the method must answer and leave -/
abbrev QC : Type := Program × Launch × Env × Room × State × MethodId × Array Value × List Frame × Method × Code × QW × List QS × Option Value × QM
def q_SH : QC → List QS := fun C => C.2.2.2.2.2.2.2.2.2.2.2.1
def q_r : QC → Option Value := fun C => C.2.2.2.2.2.2.2.2.2.2.2.2.1
def q_M : QC → QM := fun C => C.2.2.2.2.2.2.2.2.2.2.2.2.2
def q_cv (w : QW) (v : Value) : Value := match v with
  | .ref o => .ref (w.2.1 o)
  | v => v
def q_rm (d : Nat) : Room := { frames := d, cells := 0, slots := 0, locals := 40 * d }
def Qx (w : QW) (SH : List QS) (r : Option Value) (M : QM) : Array Value → State → Outcome → State → Prop := fun _ st oc t =>
  (oc = .returned r ∧ va_P w.1 vwCl (q_wl w SH M) t.heap ∧ va_K w.1 vwCl (q_ty w) t) ∧ va_F (q_A w SH) st t
def q_Pc (w : QW) (SH : List QS) (av : List Value) (M : QM) : Array Value → State → Prop := va_Pc (av.map (q_cv w)) (fun U => va_P w.1 vwCl (q_wl w SH M) U.heap ∧ va_K w.1 vwCl (q_ty w) U)
/-- a method's contract: with these arguments, in this memory, it answers r and leaves M' -/
def Cn (y : MethodName) (cc : ByteArray) (maxL : Nat) (ret : Option FieldType) (d : Nat) (SH : List QS) (av : List Value) (M : QM) (r : Option Value) (M' : QM) : Prop :=
  ∀ (l : Launch) (w : QW), q_inj w SH → Met l y (.code y cc maxL ret :: lw_good) (q_rm d) (q_Pc w SH av M) (Qx w SH r M') 0 0 (q_A w SH)
def q_L (w : QW) (L : List (Nat × Value)) : List (Nat × Value) := L.map (fun q => (q.1, q_cv w q.2))
def WX : QC → Nat → Nat → List (Nat × Value) → List Value → QM → Prop := fun (p, l, e, R, s, m, args, below, meth, c, w, SH, r, Mf) nL pc L st M =>
  ∀ (ls : Array Slot) (H : Heap) (locs : List Loc), lv_has ls nL (q_L w L) → va_P w.1 vwCl (q_wl w SH M) H → va_S (q_A w SH) s.heap H locs →
    W p l e R s m args below meth c H locs 0 0 (MQ below (Qx w SH r Mf) args s 0 0 (q_A w SH)) (F0 m pc ls (st.map (q_cv w)))
def OKX : QC → String → ByteArray → Nat → Nat → Option FieldType → Prop := fun (p, l, e, R, s, m, args, below, meth, c, w, SH, r, Mf) own cc nL d ret =>
  p.tables.exec = Jvm.exec ∧ c.code = cc ∧ c.maxLocals = nL ∧ s.vm.findClass own = some m.cls ∧ (∀ x ∈ lw_good, x.before args s = true) ∧ va_K w.1 vwCl (q_ty w) s ∧ q_inj w SH ∧ meth.locks = false ∧ meth.sig.returnType = ret ∧ R = q_rm d
theorem q_cat (w : QW) (v : Value) : (q_cv w v).category = v.category := by cases v <;> rfl
theorem q_args (w : QW) (av : List Value) : ∀ i, lv_args i (av.map (q_cv w)) = q_L w (lv_args i av) := by
  induction av with
  | nil => intro i; rfl
  | cons v t ih =>
    intro i
    show (i, q_cv w v) :: lv_args (if (q_cv w v).category = 2 then i + 2 else i + 1) (t.map (q_cv w)) = (i, q_cv w v) :: q_L w (lv_args (if v.category = 2 then i + 2 else i + 1) t)
    rw [q_cat, ih]
theorem q_len (w : QW) (av : List Value) : (lg_sl (av.map (q_cv w))).length = (lg_sl av).length := by
  induction av with
  | nil => rfl
  | cons v t ih =>
    simp only [lg_sl, List.map_cons, List.flatMap_cons, List.length_append] at ih ⊢
    rw [ih, q_cat]
    by_cases h : v.category = 2 <;> simp [h]
/-- a method's contract out of a walk of its body -/
theorem q_enter {y : MethodName} {cc : ByteArray} {maxL : Nat} {ret : Option FieldType} {d : Nat} {SH : List QS} {av : List Value} {M : QM} {r : Option Value} {M' : QM} (hy : plainName y.cls = true) (hn : (lg_sl av).length ≤ maxL) {L : List (Nat × Value)} (hL : lv_args 0 av = L)
    (h : ∀ C : QC, OKX C y.cls cc maxL d ret → q_SH C = SH → q_r C = r → q_M C = M' → WX C maxL 0 L [] M) : Cn y cc maxL ret d SH av M r M' := by
  intro l w hi
  refine Met.ofW (cc := cc) (maxL := maxL) (ret := ret) hy rfl ?_
  intro p e s m args below meth c s₁ B hml hv
  obtain ⟨rfl, hP, hK⟩ := hv
  have hts := atoms_spec (ws := .code y cc maxL ret :: lw_good) B.pre
  have hw := h (p, l, e, q_rm d, s, m, (av.map (q_cv w)).toArray, below, meth, c, w, SH, r, M')
    ⟨B.exec, B.bytes, hml, findClass_of_methodNamed B.named, fun x hx => hts x (List.mem_cons_of_mem _ hx), hK, hi, B.notSynchronized, B.returns, rfl⟩ rfl rfl rfl
  rw [lg_entry_eq]
  have hl := lv_entry (av.map (q_cv w)) (n := maxL) (by rw [q_len]; exact hn)
  rw [q_args, hL] at hl
  exact hw _ s.heap [] hl hP va_S.rf
theorem q_lat {w : QW} {ls : Array Slot} {nL : Nat} {L : List (Nat × Value)} (h : lv_has ls nL (q_L w L)) (k : Nat) {i : Nat} {v : Value} (hk : L[k]? = some (i, v)) : ls[i]? = some (.val (q_cv w v)) :=
  lv_at h k (by simp [q_L, List.getElem?_map, hk])
theorem q_fl1 (w : QW) (L : List (Nat × Value)) (i : Nat) : (q_L w L).filter (fun q => !(q.1 == i) && !(q.1 + 1 == i && q.2.category == 2)) = q_L w (L.filter (fun q => !(q.1 == i) && !(q.1 + 1 == i && q.2.category == 2))) := by
  unfold q_L
  rw [List.filter_map]
  congr 1
  congr 1
  funext q
  simp [q_cat]
theorem q_fl2 (w : QW) (L : List (Nat × Value)) (i : Nat) : (q_L w L).filter (fun q => !(q.1 == i) && (!(q.1 == i + 1) && !(q.1 + 1 == i && q.2.category == 2))) = q_L w (L.filter (fun q => !(q.1 == i) && (!(q.1 == i + 1) && !(q.1 + 1 == i && q.2.category == 2)))) := by
  unfold q_L
  rw [List.filter_map]
  congr 1
  congr 1
  funext q
  simp [q_cat]
