def Ne_addNode (p1 : Int32) (M : QM) : Option (Int32 × QM) :=
  (if (M.1 3 5) < 0 then some ((-6 : Int32), M) else (if (M.1 3 5) < (M.1 3 0) then ck (inb (M.1 3 5) 60) (ck (inb ((u_i M 4 (M.1 3 5).toNatClampNeg p1).1 3 5) 60) (some (((u_i (u_i (u_i M 4 (M.1 3 5).toNatClampNeg p1) 5 ((u_i M 4 (M.1 3 5).toNatClampNeg p1).1 3 5).toNatClampNeg (0 : Int32)) 3 5 (((u_i (u_i M 4 (M.1 3 5).toNatClampNeg p1) 5 ((u_i M 4 (M.1 3 5).toNatClampNeg p1).1 3 5).toNatClampNeg (0 : Int32)).1 3 5) + (1 : Int32))).1 3 5) - (1 : Int32), u_i (u_i (u_i M 4 (M.1 3 5).toNatClampNeg p1) 5 ((u_i M 4 (M.1 3 5).toNatClampNeg p1).1 3 5).toNatClampNeg (0 : Int32)) 3 5 (((u_i (u_i M 4 (M.1 3 5).toNatClampNeg p1) 5 ((u_i M 4 (M.1 3 5).toNatClampNeg p1).1 3 5).toNatClampNeg (0 : Int32)).1 3 5) + (1 : Int32))))) else some ((-6 : Int32), M)))

set_option maxRecDepth 20000 in
set_option maxHeartbeats 2000000 in
theorem S_Ne_addNode  {p1 : Int32} {M : QM} {res : Int32 × QM} (h : Ne_addNode p1 M = some res) : Cn yX3_addNode cX3_addNode 2 (some .int) 0 SHK [.ref 3, .int p1] M (some (.int res.1)) res.2 := by
  refine q_enter (L := [(0, .ref 3), (1, .int p1)]) (by decide) (Nat.le_of_ble_eq_true rfl) rfl ?_
  intro C hc hSH hr hM
  have hc : OKX C RX3 cX3_addNode 2 0 (some .int) := hc
  unfold Ne_addNode at h
  refine x_aload_n hc dX3_addNode_0 rfl 0 rfl ?_
  refine x_getI hc dX3_addNode_1 fl_RX3_34 (q_s hSH sh_3) rfl ?_
  refine x_if_lt (tgt := 18) hc dX3_addNode_4 (by decide) (fun hb => ?_) (fun hb => ?_)
  · have h := ite_t hb h
    refine x_bipush hc dX3_addNode_18 kb_m6 ?_
    cases h
    exact x_iret hc dX3_addNode_20 hr hM
  · have h := ite_f hb h
    refine x_aload_n hc dX3_addNode_7 rfl 0 rfl ?_
    refine x_getI hc dX3_addNode_8 fl_RX3_34 (q_s hSH sh_3) rfl ?_
    refine x_aload_n hc dX3_addNode_11 rfl 0 rfl ?_
    refine x_getI hc dX3_addNode_12 fl_RX3_9 (q_s hSH sh_3) rfl ?_
    refine x_icmp_lt (tgt := 21) hc dX3_addNode_15 (by decide) (fun hb => ?_) (fun hb => ?_)
    · have h := ite_t hb h
      refine x_aload_n hc dX3_addNode_21 rfl 0 rfl ?_
      refine x_getR hc dX3_addNode_22 fl_RX3_15 (q_s hSH sh_3) rfl ?_
      refine x_aload_n hc dX3_addNode_25 rfl 0 rfl ?_
      refine x_getI hc dX3_addNode_26 fl_RX3_34 (q_s hSH sh_3) rfl ?_
      refine x_iload_n hc dX3_addNode_29 rfl 1 rfl ?_
      obtain ⟨b1, h⟩ := ck_some h
      refine x_iast hc dX3_addNode_30 (q_s hSH sh_4) (inb_in b1) ?_
      refine x_aload_n hc dX3_addNode_31 rfl 0 rfl ?_
      refine x_getR hc dX3_addNode_32 fl_RX3_19 (q_s hSH sh_3) rfl ?_
      refine x_aload_n hc dX3_addNode_35 rfl 0 rfl ?_
      refine x_getI hc dX3_addNode_36 fl_RX3_34 (q_s hSH sh_3) rfl ?_
      refine x_iconst hc dX3_addNode_39 kc_0 ?_
      obtain ⟨b2, h⟩ := ck_some h
      refine x_iast hc dX3_addNode_40 (q_s hSH sh_5) (inb_in b2) ?_
      refine x_aload_n hc dX3_addNode_41 rfl 0 rfl ?_
      refine x_dup hc dX3_addNode_42 rfl ?_
      refine x_getI hc dX3_addNode_43 fl_RX3_34 (q_s hSH sh_3) rfl ?_
      refine x_iconst hc dX3_addNode_46 kc_1 ?_
      refine x_iadd hc dX3_addNode_47 ?_
      refine x_putI hc dX3_addNode_48 fl_RX3_34 (fw_3_5 _) (q_s hSH sh_3) rfl ?_
      refine x_aload_n hc dX3_addNode_51 rfl 0 rfl ?_
      refine x_getI hc dX3_addNode_52 fl_RX3_34 (q_s hSH sh_3) rfl ?_
      refine x_iconst hc dX3_addNode_55 kc_1 ?_
      refine x_isub hc dX3_addNode_56 ?_
      cases h
      exact x_iret hc dX3_addNode_57 hr hM
    · have h := ite_f hb h
      refine x_bipush hc dX3_addNode_18 kb_m6 ?_
      cases h
      exact x_iret hc dX3_addNode_20 hr hM

def Dr_addNode (p1 : Int32) (M : QM) : Option (Int32 × QM) :=
  (if (M.1 9 5) < 0 then some ((-6 : Int32), M) else (if (M.1 9 5) < (M.1 9 0) then ck (inb (M.1 9 5) 100) (ck (inb ((u_i M 10 (M.1 9 5).toNatClampNeg p1).1 9 5) 100) (some (((u_i (u_i (u_i M 10 (M.1 9 5).toNatClampNeg p1) 11 ((u_i M 10 (M.1 9 5).toNatClampNeg p1).1 9 5).toNatClampNeg (0 : Int32)) 9 5 (((u_i (u_i M 10 (M.1 9 5).toNatClampNeg p1) 11 ((u_i M 10 (M.1 9 5).toNatClampNeg p1).1 9 5).toNatClampNeg (0 : Int32)).1 9 5) + (1 : Int32))).1 9 5) - (1 : Int32), u_i (u_i (u_i M 10 (M.1 9 5).toNatClampNeg p1) 11 ((u_i M 10 (M.1 9 5).toNatClampNeg p1).1 9 5).toNatClampNeg (0 : Int32)) 9 5 (((u_i (u_i M 10 (M.1 9 5).toNatClampNeg p1) 11 ((u_i M 10 (M.1 9 5).toNatClampNeg p1).1 9 5).toNatClampNeg (0 : Int32)).1 9 5) + (1 : Int32))))) else some ((-6 : Int32), M)))

set_option maxRecDepth 20000 in
set_option maxHeartbeats 2000000 in
theorem S_Dr_addNode  {p1 : Int32} {M : QM} {res : Int32 × QM} (h : Dr_addNode p1 M = some res) : Cn yX3_addNode cX3_addNode 2 (some .int) 0 SHK [.ref 9, .int p1] M (some (.int res.1)) res.2 := by
  refine q_enter (L := [(0, .ref 9), (1, .int p1)]) (by decide) (Nat.le_of_ble_eq_true rfl) rfl ?_
  intro C hc hSH hr hM
  have hc : OKX C RX3 cX3_addNode 2 0 (some .int) := hc
  unfold Dr_addNode at h
  refine x_aload_n hc dX3_addNode_0 rfl 0 rfl ?_
  refine x_getI hc dX3_addNode_1 fl_RX3_34 (q_s hSH sh_9) rfl ?_
  refine x_if_lt (tgt := 18) hc dX3_addNode_4 (by decide) (fun hb => ?_) (fun hb => ?_)
  · have h := ite_t hb h
    refine x_bipush hc dX3_addNode_18 kb_m6 ?_
    cases h
    exact x_iret hc dX3_addNode_20 hr hM
  · have h := ite_f hb h
    refine x_aload_n hc dX3_addNode_7 rfl 0 rfl ?_
    refine x_getI hc dX3_addNode_8 fl_RX3_34 (q_s hSH sh_9) rfl ?_
    refine x_aload_n hc dX3_addNode_11 rfl 0 rfl ?_
    refine x_getI hc dX3_addNode_12 fl_RX3_9 (q_s hSH sh_9) rfl ?_
    refine x_icmp_lt (tgt := 21) hc dX3_addNode_15 (by decide) (fun hb => ?_) (fun hb => ?_)
    · have h := ite_t hb h
      refine x_aload_n hc dX3_addNode_21 rfl 0 rfl ?_
      refine x_getR hc dX3_addNode_22 fl_RX3_15 (q_s hSH sh_9) rfl ?_
      refine x_aload_n hc dX3_addNode_25 rfl 0 rfl ?_
      refine x_getI hc dX3_addNode_26 fl_RX3_34 (q_s hSH sh_9) rfl ?_
      refine x_iload_n hc dX3_addNode_29 rfl 1 rfl ?_
      obtain ⟨b1, h⟩ := ck_some h
      refine x_iast hc dX3_addNode_30 (q_s hSH sh_10) (inb_in b1) ?_
      refine x_aload_n hc dX3_addNode_31 rfl 0 rfl ?_
      refine x_getR hc dX3_addNode_32 fl_RX3_19 (q_s hSH sh_9) rfl ?_
      refine x_aload_n hc dX3_addNode_35 rfl 0 rfl ?_
      refine x_getI hc dX3_addNode_36 fl_RX3_34 (q_s hSH sh_9) rfl ?_
      refine x_iconst hc dX3_addNode_39 kc_0 ?_
      obtain ⟨b2, h⟩ := ck_some h
      refine x_iast hc dX3_addNode_40 (q_s hSH sh_11) (inb_in b2) ?_
      refine x_aload_n hc dX3_addNode_41 rfl 0 rfl ?_
      refine x_dup hc dX3_addNode_42 rfl ?_
      refine x_getI hc dX3_addNode_43 fl_RX3_34 (q_s hSH sh_9) rfl ?_
      refine x_iconst hc dX3_addNode_46 kc_1 ?_
      refine x_iadd hc dX3_addNode_47 ?_
      refine x_putI hc dX3_addNode_48 fl_RX3_34 (fw_3_5 _) (q_s hSH sh_9) rfl ?_
      refine x_aload_n hc dX3_addNode_51 rfl 0 rfl ?_
      refine x_getI hc dX3_addNode_52 fl_RX3_34 (q_s hSH sh_9) rfl ?_
      refine x_iconst hc dX3_addNode_55 kc_1 ?_
      refine x_isub hc dX3_addNode_56 ?_
      cases h
      exact x_iret hc dX3_addNode_57 hr hM
    · have h := ite_f hb h
      refine x_bipush hc dX3_addNode_18 kb_m6 ?_
      cases h
      exact x_iret hc dX3_addNode_20 hr hM

def Fi_7_B5 (x1 : Int32) (x3 : Int32) (v : Int32 × QM) : Option ((QM) ⊕ (Int32 × QM)) :=
  (if x3 ≤ v.1 then some (.inl v.2) else ck (inb v.1 8) (some (.inr (v.1 + (1 : Int32), u_i v.2 7 v.1.toNatClampNeg x1))))

set_option maxRecDepth 20000 in
set_option maxHeartbeats 2000000 in
theorem S_Fi_7_B5 {C : QC} (hc : OKX C RJ7 cJ7_fill_53178 4 0 none) (hSH : q_SH C = SHK) (x1 : Int32) (x3 : Int32) (v : Int32 × QM) {res : (QM) ⊕ (Int32 × QM)} (h : Fi_7_B5 x1 x3 v = some res) (ke : ∀ x : QM, res = .inl x → WX C 4 20 [] [] x) (kb : ∀ x : Int32 × QM, res = .inr x → WX C 4 5 [(0, .ref 7), (1, .int x1), (2, .int x.1), (3, .int x3)] [] x.2) : WX C 4 5 [(0, .ref 7), (1, .int x1), (2, .int v.1), (3, .int x3)] [] v.2 := by
  unfold Fi_7_B5 at h
  refine x_iload_n hc dJ7_fill_53178_5 rfl 2 rfl ?_
  refine x_iload_n hc dJ7_fill_53178_6 rfl 3 rfl ?_
  refine x_icmp_ge (tgt := 20) hc dJ7_fill_53178_7 (by decide) (fun hb => ?_) (fun hb => ?_)
  · have h := ite_t hb h
    cases h
    exact x_sub (ke v.2 rfl) [] rfl
  · have h := ite_f hb h
    refine x_aload_n hc dJ7_fill_53178_10 rfl 0 rfl ?_
    refine x_iload_n hc dJ7_fill_53178_11 rfl 2 rfl ?_
    refine x_iload_n hc dJ7_fill_53178_12 rfl 1 rfl ?_
    obtain ⟨b1, h⟩ := ck_some h
    refine x_iast hc dJ7_fill_53178_13 (q_s hSH sh_7) (inb_in b1) ?_
    refine x_iinc (v := v.1 + (1 : Int32)) (L2 := [(2, .int (v.1 + (1 : Int32))), (0, .ref 7), (1, .int x1), (3, .int x3)]) hc dJ7_fill_53178_14 2 rfl (by rw [kc_1]) (by decide) rfl ?_
    refine x_goto (tgt := 5) hc dJ7_fill_53178_17 (by decide) ?_
    cases h
    exact x_sub (kb (v.1 + (1 : Int32), u_i v.2 7 v.1.toNatClampNeg x1) rfl) [1, 2, 0, 3] rfl

theorem S_Fi_7_L5 {C : QC} (hc : OKX C RJ7 cJ7_fill_53178 4 0 none) (hSH : q_SH C = SHK) (x1 : Int32) (x3 : Int32) {n : Nat} {v : Int32 × QM} {e : QM} (h : iter (Fi_7_B5 x1 x3) n v = some e) (ke : ∀ x : QM, e = x → WX C 4 20 [] [] x) : WX C 4 5 [(0, .ref 7), (1, .int x1), (2, .int v.1), (3, .int x3)] [] v.2 :=
  iter_W (Wh := fun v => WX C 4 5 [(0, .ref 7), (1, .int x1), (2, .int v.1), (3, .int x3)] [] v.2) (fun a res hB k1 k2 => S_Fi_7_B5 hc hSH x1 x3 a hB (fun x hx => ke x (k1 _ hx).symm) k2) n v h

def Fi_7 (p1 : Int32) (M : QM) : Option (QM) :=
  Option.bind (iter (Fi_7_B5 p1 (Nat.toInt32 8)) FU ((0 : Int32), M)) (fun e2 => some e2)

set_option maxRecDepth 20000 in
set_option maxHeartbeats 2000000 in
theorem S_Fi_7  {p1 : Int32} {M : QM} {res : QM} (h : Fi_7 p1 M = some res) : Cn yJ7_fill_53178 cJ7_fill_53178 4 none 0 SHK [.ref 7, .int p1] M (none) res := by
  refine q_enter (L := [(0, .ref 7), (1, .int p1)]) (by decide) (Nat.le_of_ble_eq_true rfl) rfl ?_
  intro C hc hSH hr hM
  have hc : OKX C RJ7 cJ7_fill_53178 4 0 none := hc
  unfold Fi_7 at h
  refine x_iconst hc dJ7_fill_53178_0 kc_0 ?_
  refine x_istore_n (L2 := [(2, .int (0 : Int32)), (0, .ref 7), (1, .int p1)]) hc dJ7_fill_53178_1 rfl (by decide) rfl ?_
  refine x_aload_n hc dJ7_fill_53178_2 rfl 1 rfl ?_
  refine x_alen hc dJ7_fill_53178_3 (q_s hSH sh_7) ?_
  refine x_istore_n (L2 := [(3, .int (Nat.toInt32 8)), (2, .int (0 : Int32)), (0, .ref 7), (1, .int p1)]) hc dJ7_fill_53178_4 rfl (by decide) rfl ?_
  obtain ⟨e2, h2, h⟩ := bd_some h
  refine x_sub (S_Fi_7_L5 hc hSH p1 (Nat.toInt32 8) (v := ((0 : Int32), M)) h2 (fun x hx => ?_)) [2, 3, 1, 0] rfl
  subst hx
  cases h
  exact x_vret hc dJ7_fill_53178_20 hr hM

def Ne_clear (M : QM) : Option (QM) :=
  Option.bind (Fi_7 (-6 : Int32) (u_i M 3 5 (0 : Int32))) (fun q1 => some q1)

set_option maxRecDepth 20000 in
set_option maxHeartbeats 2000000 in
theorem S_Ne_clear  {M : QM} {res : QM} (h : Ne_clear M = some res) : Cn yX3_clear cX3_clear 1 none 1 SHK [.ref 3] M (none) res := by
  refine q_enter (L := [(0, .ref 3)]) (by decide) (Nat.le_of_ble_eq_true rfl) rfl ?_
  intro C hc hSH hr hM
  have hc : OKX C RX3 cX3_clear 1 1 none := hc
  unfold Ne_clear at h
  refine x_aload_n hc dX3_clear_0 rfl 0 rfl ?_
  refine x_iconst hc dX3_clear_1 kc_0 ?_
  refine x_putI hc dX3_clear_2 fl_RX3_34 (fw_3_5 _) (q_s hSH sh_3) rfl ?_
  refine x_aload_n hc dX3_clear_5 rfl 0 rfl ?_
  refine x_getR hc dX3_clear_6 fl_RX3_25 (q_s hSH sh_3) rfl ?_
  refine x_bipush hc dX3_clear_9 kb_m6 ?_
  obtain ⟨q1, h1, h⟩ := bd_some h
  refine x_callSv (As := [.ref 7, .int (-6 : Int32)]) (st := []) hc dX3_clear_11 cs_J7_fill_53178 lk_RX3_28 rfl (q_cn hSH (S_Fi_7 h1)) (by decide) (Nat.le_of_ble_eq_true rfl) ?_
  cases h
  exact x_vret hc dX3_clear_14 hr hM

def Fi_13_B5 (x1 : Int32) (x3 : Int32) (v : Int32 × QM) : Option ((QM) ⊕ (Int32 × QM)) :=
  (if x3 ≤ v.1 then some (.inl v.2) else ck (inb v.1 8) (some (.inr (v.1 + (1 : Int32), u_i v.2 13 v.1.toNatClampNeg x1))))

set_option maxRecDepth 20000 in
set_option maxHeartbeats 2000000 in
theorem S_Fi_13_B5 {C : QC} (hc : OKX C RJ7 cJ7_fill_53178 4 0 none) (hSH : q_SH C = SHK) (x1 : Int32) (x3 : Int32) (v : Int32 × QM) {res : (QM) ⊕ (Int32 × QM)} (h : Fi_13_B5 x1 x3 v = some res) (ke : ∀ x : QM, res = .inl x → WX C 4 20 [] [] x) (kb : ∀ x : Int32 × QM, res = .inr x → WX C 4 5 [(0, .ref 13), (1, .int x1), (2, .int x.1), (3, .int x3)] [] x.2) : WX C 4 5 [(0, .ref 13), (1, .int x1), (2, .int v.1), (3, .int x3)] [] v.2 := by
  unfold Fi_13_B5 at h
  refine x_iload_n hc dJ7_fill_53178_5 rfl 2 rfl ?_
  refine x_iload_n hc dJ7_fill_53178_6 rfl 3 rfl ?_
  refine x_icmp_ge (tgt := 20) hc dJ7_fill_53178_7 (by decide) (fun hb => ?_) (fun hb => ?_)
  · have h := ite_t hb h
    cases h
    exact x_sub (ke v.2 rfl) [] rfl
  · have h := ite_f hb h
    refine x_aload_n hc dJ7_fill_53178_10 rfl 0 rfl ?_
    refine x_iload_n hc dJ7_fill_53178_11 rfl 2 rfl ?_
    refine x_iload_n hc dJ7_fill_53178_12 rfl 1 rfl ?_
    obtain ⟨b1, h⟩ := ck_some h
    refine x_iast hc dJ7_fill_53178_13 (q_s hSH sh_13) (inb_in b1) ?_
    refine x_iinc (v := v.1 + (1 : Int32)) (L2 := [(2, .int (v.1 + (1 : Int32))), (0, .ref 13), (1, .int x1), (3, .int x3)]) hc dJ7_fill_53178_14 2 rfl (by rw [kc_1]) (by decide) rfl ?_
    refine x_goto (tgt := 5) hc dJ7_fill_53178_17 (by decide) ?_
    cases h
    exact x_sub (kb (v.1 + (1 : Int32), u_i v.2 13 v.1.toNatClampNeg x1) rfl) [1, 2, 0, 3] rfl

theorem S_Fi_13_L5 {C : QC} (hc : OKX C RJ7 cJ7_fill_53178 4 0 none) (hSH : q_SH C = SHK) (x1 : Int32) (x3 : Int32) {n : Nat} {v : Int32 × QM} {e : QM} (h : iter (Fi_13_B5 x1 x3) n v = some e) (ke : ∀ x : QM, e = x → WX C 4 20 [] [] x) : WX C 4 5 [(0, .ref 13), (1, .int x1), (2, .int v.1), (3, .int x3)] [] v.2 :=
  iter_W (Wh := fun v => WX C 4 5 [(0, .ref 13), (1, .int x1), (2, .int v.1), (3, .int x3)] [] v.2) (fun a res hB k1 k2 => S_Fi_13_B5 hc hSH x1 x3 a hB (fun x hx => ke x (k1 _ hx).symm) k2) n v h

def Fi_13 (p1 : Int32) (M : QM) : Option (QM) :=
  Option.bind (iter (Fi_13_B5 p1 (Nat.toInt32 8)) FU ((0 : Int32), M)) (fun e2 => some e2)

set_option maxRecDepth 20000 in
set_option maxHeartbeats 2000000 in
theorem S_Fi_13  {p1 : Int32} {M : QM} {res : QM} (h : Fi_13 p1 M = some res) : Cn yJ7_fill_53178 cJ7_fill_53178 4 none 0 SHK [.ref 13, .int p1] M (none) res := by
  refine q_enter (L := [(0, .ref 13), (1, .int p1)]) (by decide) (Nat.le_of_ble_eq_true rfl) rfl ?_
  intro C hc hSH hr hM
  have hc : OKX C RJ7 cJ7_fill_53178 4 0 none := hc
  unfold Fi_13 at h
  refine x_iconst hc dJ7_fill_53178_0 kc_0 ?_
  refine x_istore_n (L2 := [(2, .int (0 : Int32)), (0, .ref 13), (1, .int p1)]) hc dJ7_fill_53178_1 rfl (by decide) rfl ?_
  refine x_aload_n hc dJ7_fill_53178_2 rfl 1 rfl ?_
  refine x_alen hc dJ7_fill_53178_3 (q_s hSH sh_13) ?_
  refine x_istore_n (L2 := [(3, .int (Nat.toInt32 8)), (2, .int (0 : Int32)), (0, .ref 13), (1, .int p1)]) hc dJ7_fill_53178_4 rfl (by decide) rfl ?_
  obtain ⟨e2, h2, h⟩ := bd_some h
  refine x_sub (S_Fi_13_L5 hc hSH p1 (Nat.toInt32 8) (v := ((0 : Int32), M)) h2 (fun x hx => ?_)) [2, 3, 1, 0] rfl
  subst hx
  cases h
  exact x_vret hc dJ7_fill_53178_20 hr hM

def Dr_clear (M : QM) : Option (QM) :=
  Option.bind (Fi_13 (-6 : Int32) (u_i M 9 5 (0 : Int32))) (fun q1 => some q1)

set_option maxRecDepth 20000 in
set_option maxHeartbeats 2000000 in
theorem S_Dr_clear  {M : QM} {res : QM} (h : Dr_clear M = some res) : Cn yX3_clear cX3_clear 1 none 1 SHK [.ref 9] M (none) res := by
  refine q_enter (L := [(0, .ref 9)]) (by decide) (Nat.le_of_ble_eq_true rfl) rfl ?_
  intro C hc hSH hr hM
  have hc : OKX C RX3 cX3_clear 1 1 none := hc
  unfold Dr_clear at h
  refine x_aload_n hc dX3_clear_0 rfl 0 rfl ?_
  refine x_iconst hc dX3_clear_1 kc_0 ?_
  refine x_putI hc dX3_clear_2 fl_RX3_34 (fw_3_5 _) (q_s hSH sh_9) rfl ?_
  refine x_aload_n hc dX3_clear_5 rfl 0 rfl ?_
  refine x_getR hc dX3_clear_6 fl_RX3_25 (q_s hSH sh_9) rfl ?_
  refine x_bipush hc dX3_clear_9 kb_m6 ?_
  obtain ⟨q1, h1, h⟩ := bd_some h
  refine x_callSv (As := [.ref 13, .int (-6 : Int32)]) (st := []) hc dX3_clear_11 cs_J7_fill_53178 lk_RX3_28 rfl (q_cn hSH (S_Fi_13 h1)) (by decide) (Nat.le_of_ble_eq_true rfl) ?_
  cases h
  exact x_vret hc dX3_clear_14 hr hM

def Ne_dropFrom (p1 : Int32) (M : QM) : Option (QM) :=
  (if p1 < 0 then some M else (if (M.1 3 5) ≤ p1 then some M else some (u_i M 3 5 p1)))

set_option maxRecDepth 20000 in
set_option maxHeartbeats 2000000 in
theorem S_Ne_dropFrom  {p1 : Int32} {M : QM} {res : QM} (h : Ne_dropFrom p1 M = some res) : Cn yX3_dropFrom cX3_dropFrom 2 none 0 SHK [.ref 3, .int p1] M (none) res := by
  refine q_enter (L := [(0, .ref 3), (1, .int p1)]) (by decide) (Nat.le_of_ble_eq_true rfl) rfl ?_
  intro C hc hSH hr hM
  have hc : OKX C RX3 cX3_dropFrom 2 0 none := hc
  unfold Ne_dropFrom at h
  refine x_iload_n hc dX3_dropFrom_0 rfl 1 rfl ?_
  refine x_if_lt (tgt := 17) hc dX3_dropFrom_1 (by decide) (fun hb => ?_) (fun hb => ?_)
  · have h := ite_t hb h
    cases h
    exact x_vret hc dX3_dropFrom_17 hr hM
  · have h := ite_f hb h
    refine x_iload_n hc dX3_dropFrom_4 rfl 1 rfl ?_
    refine x_aload_n hc dX3_dropFrom_5 rfl 0 rfl ?_
    refine x_getI hc dX3_dropFrom_6 fl_RX3_34 (q_s hSH sh_3) rfl ?_
    refine x_icmp_ge (tgt := 17) hc dX3_dropFrom_9 (by decide) (fun hb => ?_) (fun hb => ?_)
    · have h := ite_t hb h
      cases h
      exact x_vret hc dX3_dropFrom_17 hr hM
    · have h := ite_f hb h
      refine x_aload_n hc dX3_dropFrom_12 rfl 0 rfl ?_
      refine x_iload_n hc dX3_dropFrom_13 rfl 1 rfl ?_
      refine x_putI hc dX3_dropFrom_14 fl_RX3_34 (fw_3_5 _) (q_s hSH sh_3) rfl ?_
      cases h
      exact x_vret hc dX3_dropFrom_17 hr hM

def Dr_dropFrom (p1 : Int32) (M : QM) : Option (QM) :=
  (if p1 < 0 then some M else (if (M.1 9 5) ≤ p1 then some M else some (u_i M 9 5 p1)))

set_option maxRecDepth 20000 in
set_option maxHeartbeats 2000000 in
theorem S_Dr_dropFrom  {p1 : Int32} {M : QM} {res : QM} (h : Dr_dropFrom p1 M = some res) : Cn yX3_dropFrom cX3_dropFrom 2 none 0 SHK [.ref 9, .int p1] M (none) res := by
  refine q_enter (L := [(0, .ref 9), (1, .int p1)]) (by decide) (Nat.le_of_ble_eq_true rfl) rfl ?_
  intro C hc hSH hr hM
  have hc : OKX C RX3 cX3_dropFrom 2 0 none := hc
  unfold Dr_dropFrom at h
  refine x_iload_n hc dX3_dropFrom_0 rfl 1 rfl ?_
  refine x_if_lt (tgt := 17) hc dX3_dropFrom_1 (by decide) (fun hb => ?_) (fun hb => ?_)
  · have h := ite_t hb h
    cases h
    exact x_vret hc dX3_dropFrom_17 hr hM
  · have h := ite_f hb h
    refine x_iload_n hc dX3_dropFrom_4 rfl 1 rfl ?_
    refine x_aload_n hc dX3_dropFrom_5 rfl 0 rfl ?_
    refine x_getI hc dX3_dropFrom_6 fl_RX3_34 (q_s hSH sh_9) rfl ?_
    refine x_icmp_ge (tgt := 17) hc dX3_dropFrom_9 (by decide) (fun hb => ?_) (fun hb => ?_)
    · have h := ite_t hb h
      cases h
      exact x_vret hc dX3_dropFrom_17 hr hM
    · have h := ite_f hb h
      refine x_aload_n hc dX3_dropFrom_12 rfl 0 rfl ?_
      refine x_iload_n hc dX3_dropFrom_13 rfl 1 rfl ?_
      refine x_putI hc dX3_dropFrom_14 fl_RX3_34 (fw_3_5 _) (q_s hSH sh_9) rfl ?_
      cases h
      exact x_vret hc dX3_dropFrom_17 hr hM

def Ne_has (p1 : Int32) (M : QM) : Option (Int32) :=
  (if p1 < 0 then some (0 : Int32) else (if (M.1 3 5) ≤ p1 then some (0 : Int32) else (if (M.1 3 0) ≤ p1 then some (0 : Int32) else some (1 : Int32))))

set_option maxRecDepth 20000 in
set_option maxHeartbeats 2000000 in
theorem S_Ne_has  {p1 : Int32} {M : QM} {res : Int32} (h : Ne_has p1 M = some res) : Cn yX3_has cX3_has 2 (some .boolean) 0 SHK [.ref 3, .int p1] M (some (.int res)) M := by
  refine q_enter (L := [(0, .ref 3), (1, .int p1)]) (by decide) (Nat.le_of_ble_eq_true rfl) rfl ?_
  intro C hc hSH hr hM
  have hc : OKX C RX3 cX3_has 2 0 (some .boolean) := hc
  unfold Ne_has at h
  refine x_iload_n hc dX3_has_0 rfl 1 rfl ?_
  refine x_if_lt (tgt := 24) hc dX3_has_1 (by decide) (fun hb => ?_) (fun hb => ?_)
  · have h := ite_t hb h
    refine x_iconst hc dX3_has_24 kc_0 ?_
    cases h
    exact x_zret hc dX3_has_25 nar_0 hr hM
  · have h := ite_f hb h
    refine x_iload_n hc dX3_has_4 rfl 1 rfl ?_
    refine x_aload_n hc dX3_has_5 rfl 0 rfl ?_
    refine x_getI hc dX3_has_6 fl_RX3_34 (q_s hSH sh_3) rfl ?_
    refine x_icmp_ge (tgt := 24) hc dX3_has_9 (by decide) (fun hb => ?_) (fun hb => ?_)
    · have h := ite_t hb h
      refine x_iconst hc dX3_has_24 kc_0 ?_
      cases h
      exact x_zret hc dX3_has_25 nar_0 hr hM
    · have h := ite_f hb h
      refine x_iload_n hc dX3_has_12 rfl 1 rfl ?_
      refine x_aload_n hc dX3_has_13 rfl 0 rfl ?_
      refine x_getI hc dX3_has_14 fl_RX3_9 (q_s hSH sh_3) rfl ?_
      refine x_icmp_ge (tgt := 24) hc dX3_has_17 (by decide) (fun hb => ?_) (fun hb => ?_)
      · have h := ite_t hb h
        refine x_iconst hc dX3_has_24 kc_0 ?_
        cases h
        exact x_zret hc dX3_has_25 nar_0 hr hM
      · have h := ite_f hb h
        refine x_iconst hc dX3_has_20 kc_1 ?_
        refine x_goto (tgt := 25) hc dX3_has_21 (by decide) ?_
        cases h
        exact x_zret hc dX3_has_25 nar_1 hr hM

def Dr_has (p1 : Int32) (M : QM) : Option (Int32) :=
  (if p1 < 0 then some (0 : Int32) else (if (M.1 9 5) ≤ p1 then some (0 : Int32) else (if (M.1 9 0) ≤ p1 then some (0 : Int32) else some (1 : Int32))))

set_option maxRecDepth 20000 in
set_option maxHeartbeats 2000000 in
theorem S_Dr_has  {p1 : Int32} {M : QM} {res : Int32} (h : Dr_has p1 M = some res) : Cn yX3_has cX3_has 2 (some .boolean) 0 SHK [.ref 9, .int p1] M (some (.int res)) M := by
  refine q_enter (L := [(0, .ref 9), (1, .int p1)]) (by decide) (Nat.le_of_ble_eq_true rfl) rfl ?_
  intro C hc hSH hr hM
  have hc : OKX C RX3 cX3_has 2 0 (some .boolean) := hc
  unfold Dr_has at h
  refine x_iload_n hc dX3_has_0 rfl 1 rfl ?_
  refine x_if_lt (tgt := 24) hc dX3_has_1 (by decide) (fun hb => ?_) (fun hb => ?_)
  · have h := ite_t hb h
    refine x_iconst hc dX3_has_24 kc_0 ?_
    cases h
    exact x_zret hc dX3_has_25 nar_0 hr hM
  · have h := ite_f hb h
    refine x_iload_n hc dX3_has_4 rfl 1 rfl ?_
    refine x_aload_n hc dX3_has_5 rfl 0 rfl ?_
    refine x_getI hc dX3_has_6 fl_RX3_34 (q_s hSH sh_9) rfl ?_
    refine x_icmp_ge (tgt := 24) hc dX3_has_9 (by decide) (fun hb => ?_) (fun hb => ?_)
    · have h := ite_t hb h
      refine x_iconst hc dX3_has_24 kc_0 ?_
      cases h
      exact x_zret hc dX3_has_25 nar_0 hr hM
    · have h := ite_f hb h
      refine x_iload_n hc dX3_has_12 rfl 1 rfl ?_
      refine x_aload_n hc dX3_has_13 rfl 0 rfl ?_
      refine x_getI hc dX3_has_14 fl_RX3_9 (q_s hSH sh_9) rfl ?_
      refine x_icmp_ge (tgt := 24) hc dX3_has_17 (by decide) (fun hb => ?_) (fun hb => ?_)
      · have h := ite_t hb h
        refine x_iconst hc dX3_has_24 kc_0 ?_
        cases h
        exact x_zret hc dX3_has_25 nar_0 hr hM
      · have h := ite_f hb h
        refine x_iconst hc dX3_has_20 kc_1 ?_
        refine x_goto (tgt := 25) hc dX3_has_21 (by decide) ?_
        cases h
        exact x_zret hc dX3_has_25 nar_1 hr hM

def Ne_nameAt (p1 : Int32) (M : QM) : Option (Int32) :=
  (if p1 < 0 then some (-6 : Int32) else (if (8 : Int32) ≤ p1 then some (-6 : Int32) else ck (inb p1 8) (some (M.1 7 p1.toNatClampNeg))))

set_option maxRecDepth 20000 in
set_option maxHeartbeats 2000000 in
theorem S_Ne_nameAt  {p1 : Int32} {M : QM} {res : Int32} (h : Ne_nameAt p1 M = some res) : Cn yX3_nameAt cX3_nameAt 2 (some .int) 0 SHK [.ref 3, .int p1] M (some (.int res)) M := by
  refine q_enter (L := [(0, .ref 3), (1, .int p1)]) (by decide) (Nat.le_of_ble_eq_true rfl) rfl ?_
  intro C hc hSH hr hM
  have hc : OKX C RX3 cX3_nameAt 2 0 (some .int) := hc
  unfold Ne_nameAt at h
  refine x_iload_n hc dX3_nameAt_0 rfl 1 rfl ?_
  refine x_if_lt (tgt := 19) hc dX3_nameAt_1 (by decide) (fun hb => ?_) (fun hb => ?_)
  · have h := ite_t hb h
    refine x_bipush hc dX3_nameAt_19 kb_m6 ?_
    cases h
    exact x_iret hc dX3_nameAt_21 hr hM
  · have h := ite_f hb h
    refine x_iload_n hc dX3_nameAt_4 rfl 1 rfl ?_
    refine x_bipush hc dX3_nameAt_5 kb_8 ?_
    refine x_icmp_ge (tgt := 19) hc dX3_nameAt_7 (by decide) (fun hb => ?_) (fun hb => ?_)
    · have h := ite_t hb h
      refine x_bipush hc dX3_nameAt_19 kb_m6 ?_
      cases h
      exact x_iret hc dX3_nameAt_21 hr hM
    · have h := ite_f hb h
      refine x_aload_n hc dX3_nameAt_10 rfl 0 rfl ?_
      refine x_getR hc dX3_nameAt_11 fl_RX3_25 (q_s hSH sh_3) rfl ?_
      refine x_iload_n hc dX3_nameAt_14 rfl 1 rfl ?_
      obtain ⟨b1, h⟩ := ck_some h
      refine x_iald hc dX3_nameAt_15 (q_s hSH sh_7) (inb_in b1) ?_
      refine x_goto (tgt := 21) hc dX3_nameAt_16 (by decide) ?_
      cases h
      exact x_iret hc dX3_nameAt_21 hr hM

def Dr_nameAt (p1 : Int32) (M : QM) : Option (Int32) :=
  (if p1 < 0 then some (-6 : Int32) else (if (8 : Int32) ≤ p1 then some (-6 : Int32) else ck (inb p1 8) (some (M.1 13 p1.toNatClampNeg))))

set_option maxRecDepth 20000 in
set_option maxHeartbeats 2000000 in
theorem S_Dr_nameAt  {p1 : Int32} {M : QM} {res : Int32} (h : Dr_nameAt p1 M = some res) : Cn yX3_nameAt cX3_nameAt 2 (some .int) 0 SHK [.ref 9, .int p1] M (some (.int res)) M := by
  refine q_enter (L := [(0, .ref 9), (1, .int p1)]) (by decide) (Nat.le_of_ble_eq_true rfl) rfl ?_
  intro C hc hSH hr hM
  have hc : OKX C RX3 cX3_nameAt 2 0 (some .int) := hc
  unfold Dr_nameAt at h
  refine x_iload_n hc dX3_nameAt_0 rfl 1 rfl ?_
  refine x_if_lt (tgt := 19) hc dX3_nameAt_1 (by decide) (fun hb => ?_) (fun hb => ?_)
  · have h := ite_t hb h
    refine x_bipush hc dX3_nameAt_19 kb_m6 ?_
    cases h
    exact x_iret hc dX3_nameAt_21 hr hM
  · have h := ite_f hb h
    refine x_iload_n hc dX3_nameAt_4 rfl 1 rfl ?_
    refine x_bipush hc dX3_nameAt_5 kb_8 ?_
    refine x_icmp_ge (tgt := 19) hc dX3_nameAt_7 (by decide) (fun hb => ?_) (fun hb => ?_)
    · have h := ite_t hb h
      refine x_bipush hc dX3_nameAt_19 kb_m6 ?_
      cases h
      exact x_iret hc dX3_nameAt_21 hr hM
    · have h := ite_f hb h
      refine x_aload_n hc dX3_nameAt_10 rfl 0 rfl ?_
      refine x_getR hc dX3_nameAt_11 fl_RX3_25 (q_s hSH sh_9) rfl ?_
      refine x_iload_n hc dX3_nameAt_14 rfl 1 rfl ?_
      obtain ⟨b1, h⟩ := ck_some h
      refine x_iald hc dX3_nameAt_15 (q_s hSH sh_13) (inb_in b1) ?_
      refine x_goto (tgt := 21) hc dX3_nameAt_16 (by decide) ?_
      cases h
      exact x_iret hc dX3_nameAt_21 hr hM

def Ne_namesTold_B4 (M : QM) (v : Int32 × Int32) : Option ((Int32) ⊕ (Int32 × Int32)) :=
  (if (8 : Int32) ≤ v.2 then some (.inl v.1) else Option.bind (Ne_nameAt v.2 M) (fun q1 => (if q1 = (-6 : Int32) then some (.inr (v.1, v.2 + (1 : Int32))) else some (.inr (v.1 + (1 : Int32), v.2 + (1 : Int32))))))

set_option maxRecDepth 20000 in
set_option maxHeartbeats 2000000 in
theorem S_Ne_namesTold_B4 {C : QC} (hc : OKX C RX3 cX3_namesTold 3 1 (some .int)) (hSH : q_SH C = SHK) (M : QM) (v : Int32 × Int32) {res : (Int32) ⊕ (Int32 × Int32)} (h : Ne_namesTold_B4 M v = some res) (ke : ∀ x : Int32, res = .inl x → WX C 3 29 [(1, .int x)] [] M) (kb : ∀ x : Int32 × Int32, res = .inr x → WX C 3 4 [(0, .ref 3), (1, .int x.1), (2, .int x.2)] [] M) : WX C 3 4 [(0, .ref 3), (1, .int v.1), (2, .int v.2)] [] M := by
  unfold Ne_namesTold_B4 at h
  refine x_iload_n hc dX3_namesTold_4 rfl 2 rfl ?_
  refine x_bipush hc dX3_namesTold_5 kb_8 ?_
  refine x_icmp_ge (tgt := 29) hc dX3_namesTold_7 (by decide) (fun hb => ?_) (fun hb => ?_)
  · have h := ite_t hb h
    cases h
    exact x_sub (ke v.1 rfl) [1] rfl
  · have h := ite_f hb h
    refine x_aload_n hc dX3_namesTold_10 rfl 0 rfl ?_
    refine x_iload_n hc dX3_namesTold_11 rfl 2 rfl ?_
    obtain ⟨q1, h1, h⟩ := bd_some h
    refine x_callVi (As := [.int v.2]) (st := []) (o := 3) hc dX3_namesTold_12 cv_X3_nameAt lk_RX3_37 (q_s hSH sh_3) rfl rfl (q_cn hSH (S_Ne_nameAt h1)) (by decide) (Nat.le_of_ble_eq_true rfl) ?_
    refine x_bipush hc dX3_namesTold_15 kb_m6 ?_
    refine x_icmp_eq (tgt := 23) hc dX3_namesTold_17 (by decide) (fun hb => ?_) (fun hb => ?_)
    · have h := ite_t hb h
      refine x_iinc (v := v.2 + (1 : Int32)) (L2 := [(2, .int (v.2 + (1 : Int32))), (0, .ref 3), (1, .int v.1)]) hc dX3_namesTold_23 2 rfl (by rw [kc_1]) (by decide) rfl ?_
      refine x_goto (tgt := 4) hc dX3_namesTold_26 (by decide) ?_
      cases h
      exact x_sub (kb (v.1, v.2 + (1 : Int32)) rfl) [1, 2, 0] rfl
    · have h := ite_f hb h
      refine x_iinc (v := v.1 + (1 : Int32)) (L2 := [(1, .int (v.1 + (1 : Int32))), (0, .ref 3), (2, .int v.2)]) hc dX3_namesTold_20 1 rfl (by rw [kc_1]) (by decide) rfl ?_
      refine x_iinc (v := v.2 + (1 : Int32)) (L2 := [(2, .int (v.2 + (1 : Int32))), (1, .int (v.1 + (1 : Int32))), (0, .ref 3)]) hc dX3_namesTold_23 2 rfl (by rw [kc_1]) (by decide) rfl ?_
      refine x_goto (tgt := 4) hc dX3_namesTold_26 (by decide) ?_
      cases h
      exact x_sub (kb (v.1 + (1 : Int32), v.2 + (1 : Int32)) rfl) [2, 1, 0] rfl

theorem S_Ne_namesTold_L4 {C : QC} (hc : OKX C RX3 cX3_namesTold 3 1 (some .int)) (hSH : q_SH C = SHK) (M : QM) {n : Nat} {v : Int32 × Int32} {e : Int32} (h : iter (Ne_namesTold_B4 M) n v = some e) (ke : ∀ x : Int32, e = x → WX C 3 29 [(1, .int x)] [] M) : WX C 3 4 [(0, .ref 3), (1, .int v.1), (2, .int v.2)] [] M :=
  iter_W (Wh := fun v => WX C 3 4 [(0, .ref 3), (1, .int v.1), (2, .int v.2)] [] M) (fun a res hB k1 k2 => S_Ne_namesTold_B4 hc hSH M a hB (fun x hx => ke x (k1 _ hx).symm) k2) n v h

def Ne_namesTold (M : QM) : Option (Int32) :=
  Option.bind (iter (Ne_namesTold_B4 M) FU ((0 : Int32), (0 : Int32))) (fun e2 => some e2)

set_option maxRecDepth 20000 in
set_option maxHeartbeats 2000000 in
theorem S_Ne_namesTold  {M : QM} {res : Int32} (h : Ne_namesTold M = some res) : Cn yX3_namesTold cX3_namesTold 3 (some .int) 1 SHK [.ref 3] M (some (.int res)) M := by
  refine q_enter (L := [(0, .ref 3)]) (by decide) (Nat.le_of_ble_eq_true rfl) rfl ?_
  intro C hc hSH hr hM
  have hc : OKX C RX3 cX3_namesTold 3 1 (some .int) := hc
  unfold Ne_namesTold at h
  refine x_iconst hc dX3_namesTold_0 kc_0 ?_
  refine x_istore_n (L2 := [(1, .int (0 : Int32)), (0, .ref 3)]) hc dX3_namesTold_1 rfl (by decide) rfl ?_
  refine x_iconst hc dX3_namesTold_2 kc_0 ?_
  refine x_istore_n (L2 := [(2, .int (0 : Int32)), (1, .int (0 : Int32)), (0, .ref 3)]) hc dX3_namesTold_3 rfl (by decide) rfl ?_
  obtain ⟨e2, h2, h⟩ := bd_some h
  refine x_sub (S_Ne_namesTold_L4 hc hSH M (v := ((0 : Int32), (0 : Int32))) h2 (fun x hx => ?_)) [2, 1, 0] rfl
  subst hx
  refine x_iload_n hc dX3_namesTold_29 rfl 0 rfl ?_
  cases h
  exact x_iret hc dX3_namesTold_30 hr hM

def Dr_namesTold_B4 (M : QM) (v : Int32 × Int32) : Option ((Int32) ⊕ (Int32 × Int32)) :=
  (if (8 : Int32) ≤ v.2 then some (.inl v.1) else Option.bind (Dr_nameAt v.2 M) (fun q1 => (if q1 = (-6 : Int32) then some (.inr (v.1, v.2 + (1 : Int32))) else some (.inr (v.1 + (1 : Int32), v.2 + (1 : Int32))))))

set_option maxRecDepth 20000 in
set_option maxHeartbeats 2000000 in
theorem S_Dr_namesTold_B4 {C : QC} (hc : OKX C RX3 cX3_namesTold 3 1 (some .int)) (hSH : q_SH C = SHK) (M : QM) (v : Int32 × Int32) {res : (Int32) ⊕ (Int32 × Int32)} (h : Dr_namesTold_B4 M v = some res) (ke : ∀ x : Int32, res = .inl x → WX C 3 29 [(1, .int x)] [] M) (kb : ∀ x : Int32 × Int32, res = .inr x → WX C 3 4 [(0, .ref 9), (1, .int x.1), (2, .int x.2)] [] M) : WX C 3 4 [(0, .ref 9), (1, .int v.1), (2, .int v.2)] [] M := by
  unfold Dr_namesTold_B4 at h
  refine x_iload_n hc dX3_namesTold_4 rfl 2 rfl ?_
  refine x_bipush hc dX3_namesTold_5 kb_8 ?_
  refine x_icmp_ge (tgt := 29) hc dX3_namesTold_7 (by decide) (fun hb => ?_) (fun hb => ?_)
  · have h := ite_t hb h
    cases h
    exact x_sub (ke v.1 rfl) [1] rfl
  · have h := ite_f hb h
    refine x_aload_n hc dX3_namesTold_10 rfl 0 rfl ?_
    refine x_iload_n hc dX3_namesTold_11 rfl 2 rfl ?_
    obtain ⟨q1, h1, h⟩ := bd_some h
    refine x_callVi (As := [.int v.2]) (st := []) (o := 9) hc dX3_namesTold_12 cv_X3_nameAt lk_RX3_37 (q_s hSH sh_9) rfl rfl (q_cn hSH (S_Dr_nameAt h1)) (by decide) (Nat.le_of_ble_eq_true rfl) ?_
    refine x_bipush hc dX3_namesTold_15 kb_m6 ?_
    refine x_icmp_eq (tgt := 23) hc dX3_namesTold_17 (by decide) (fun hb => ?_) (fun hb => ?_)
    · have h := ite_t hb h
      refine x_iinc (v := v.2 + (1 : Int32)) (L2 := [(2, .int (v.2 + (1 : Int32))), (0, .ref 9), (1, .int v.1)]) hc dX3_namesTold_23 2 rfl (by rw [kc_1]) (by decide) rfl ?_
      refine x_goto (tgt := 4) hc dX3_namesTold_26 (by decide) ?_
      cases h
      exact x_sub (kb (v.1, v.2 + (1 : Int32)) rfl) [1, 2, 0] rfl
    · have h := ite_f hb h
      refine x_iinc (v := v.1 + (1 : Int32)) (L2 := [(1, .int (v.1 + (1 : Int32))), (0, .ref 9), (2, .int v.2)]) hc dX3_namesTold_20 1 rfl (by rw [kc_1]) (by decide) rfl ?_
      refine x_iinc (v := v.2 + (1 : Int32)) (L2 := [(2, .int (v.2 + (1 : Int32))), (1, .int (v.1 + (1 : Int32))), (0, .ref 9)]) hc dX3_namesTold_23 2 rfl (by rw [kc_1]) (by decide) rfl ?_
      refine x_goto (tgt := 4) hc dX3_namesTold_26 (by decide) ?_
      cases h
      exact x_sub (kb (v.1 + (1 : Int32), v.2 + (1 : Int32)) rfl) [2, 1, 0] rfl

theorem S_Dr_namesTold_L4 {C : QC} (hc : OKX C RX3 cX3_namesTold 3 1 (some .int)) (hSH : q_SH C = SHK) (M : QM) {n : Nat} {v : Int32 × Int32} {e : Int32} (h : iter (Dr_namesTold_B4 M) n v = some e) (ke : ∀ x : Int32, e = x → WX C 3 29 [(1, .int x)] [] M) : WX C 3 4 [(0, .ref 9), (1, .int v.1), (2, .int v.2)] [] M :=
  iter_W (Wh := fun v => WX C 3 4 [(0, .ref 9), (1, .int v.1), (2, .int v.2)] [] M) (fun a res hB k1 k2 => S_Dr_namesTold_B4 hc hSH M a hB (fun x hx => ke x (k1 _ hx).symm) k2) n v h

def Dr_namesTold (M : QM) : Option (Int32) :=
  Option.bind (iter (Dr_namesTold_B4 M) FU ((0 : Int32), (0 : Int32))) (fun e2 => some e2)

set_option maxRecDepth 20000 in
set_option maxHeartbeats 2000000 in
theorem S_Dr_namesTold  {M : QM} {res : Int32} (h : Dr_namesTold M = some res) : Cn yX3_namesTold cX3_namesTold 3 (some .int) 1 SHK [.ref 9] M (some (.int res)) M := by
  refine q_enter (L := [(0, .ref 9)]) (by decide) (Nat.le_of_ble_eq_true rfl) rfl ?_
  intro C hc hSH hr hM
  have hc : OKX C RX3 cX3_namesTold 3 1 (some .int) := hc
  unfold Dr_namesTold at h
  refine x_iconst hc dX3_namesTold_0 kc_0 ?_
  refine x_istore_n (L2 := [(1, .int (0 : Int32)), (0, .ref 9)]) hc dX3_namesTold_1 rfl (by decide) rfl ?_
  refine x_iconst hc dX3_namesTold_2 kc_0 ?_
  refine x_istore_n (L2 := [(2, .int (0 : Int32)), (1, .int (0 : Int32)), (0, .ref 9)]) hc dX3_namesTold_3 rfl (by decide) rfl ?_
  obtain ⟨e2, h2, h⟩ := bd_some h
  refine x_sub (S_Dr_namesTold_L4 hc hSH M (v := ((0 : Int32), (0 : Int32))) h2 (fun x hx => ?_)) [2, 1, 0] rfl
  subst hx
  refine x_iload_n hc dX3_namesTold_29 rfl 0 rfl ?_
  cases h
  exact x_iret hc dX3_namesTold_30 hr hM

def Ne_nodes (M : QM) : Option (Int32) :=
  some (M.1 3 5)

set_option maxRecDepth 20000 in
set_option maxHeartbeats 2000000 in
theorem S_Ne_nodes  {M : QM} {res : Int32} (h : Ne_nodes M = some res) : Cn yX3_nodes cX3_nodes 1 (some .int) 0 SHK [.ref 3] M (some (.int res)) M := by
  refine q_enter (L := [(0, .ref 3)]) (by decide) (Nat.le_of_ble_eq_true rfl) rfl ?_
  intro C hc hSH hr hM
  have hc : OKX C RX3 cX3_nodes 1 0 (some .int) := hc
  unfold Ne_nodes at h
  refine x_aload_n hc dX3_nodes_0 rfl 0 rfl ?_
  refine x_getI hc dX3_nodes_1 fl_RX3_34 (q_s hSH sh_3) rfl ?_
  cases h
  exact x_iret hc dX3_nodes_4 hr hM

def Dr_nodes (M : QM) : Option (Int32) :=
  some (M.1 9 5)

set_option maxRecDepth 20000 in
set_option maxHeartbeats 2000000 in
theorem S_Dr_nodes  {M : QM} {res : Int32} (h : Dr_nodes M = some res) : Cn yX3_nodes cX3_nodes 1 (some .int) 0 SHK [.ref 9] M (some (.int res)) M := by
  refine q_enter (L := [(0, .ref 9)]) (by decide) (Nat.le_of_ble_eq_true rfl) rfl ?_
  intro C hc hSH hr hM
  have hc : OKX C RX3 cX3_nodes 1 0 (some .int) := hc
  unfold Dr_nodes at h
  refine x_aload_n hc dX3_nodes_0 rfl 0 rfl ?_
  refine x_getI hc dX3_nodes_1 fl_RX3_34 (q_s hSH sh_9) rfl ?_
  cases h
  exact x_iret hc dX3_nodes_4 hr hM

def Ne_partAt (p1 : Int32) (p2 : Int32) (M : QM) : Option (Int32) :=
  (if p1 < 0 then some (-6 : Int32) else (if (M.1 3 5) ≤ p1 then some (-6 : Int32) else (if (M.1 3 0) ≤ p1 then some (-6 : Int32) else (if p2 < 0 then some (-6 : Int32) else (if p2 < (8 : Int32) then ck (inb p1 60) ((if (((M.1 5 p1.toNatClampNeg) >>> (p2 &&& 31)) &&& (1 : Int32)) = (1 : Int32) then ck (inb ((p1 * (8 : Int32)) + p2) 480) (some (M.1 6 ((p1 * (8 : Int32)) + p2).toNatClampNeg)) else some (-6 : Int32))) else some (-6 : Int32))))))

set_option maxRecDepth 20000 in
set_option maxHeartbeats 2000000 in
theorem S_Ne_partAt  {p1 : Int32} {p2 : Int32} {M : QM} {res : Int32} (h : Ne_partAt p1 p2 M = some res) : Cn yX3_partAt cX3_partAt 3 (some .int) 0 SHK [.ref 3, .int p1, .int p2] M (some (.int res)) M := by
  refine q_enter (L := [(0, .ref 3), (1, .int p1), (2, .int p2)]) (by decide) (Nat.le_of_ble_eq_true rfl) rfl ?_
  intro C hc hSH hr hM
  have hc : OKX C RX3 cX3_partAt 3 0 (some .int) := hc
  unfold Ne_partAt at h
  refine x_iload_n hc dX3_partAt_0 rfl 1 rfl ?_
  refine x_if_lt (tgt := 30) hc dX3_partAt_1 (by decide) (fun hb => ?_) (fun hb => ?_)
  · have h := ite_t hb h
    refine x_bipush hc dX3_partAt_30 kb_m6 ?_
    cases h
    exact x_iret hc dX3_partAt_32 hr hM
  · have h := ite_f hb h
    refine x_iload_n hc dX3_partAt_4 rfl 1 rfl ?_
    refine x_aload_n hc dX3_partAt_5 rfl 0 rfl ?_
    refine x_getI hc dX3_partAt_6 fl_RX3_34 (q_s hSH sh_3) rfl ?_
    refine x_icmp_ge (tgt := 30) hc dX3_partAt_9 (by decide) (fun hb => ?_) (fun hb => ?_)
    · have h := ite_t hb h
      refine x_bipush hc dX3_partAt_30 kb_m6 ?_
      cases h
      exact x_iret hc dX3_partAt_32 hr hM
    · have h := ite_f hb h
      refine x_iload_n hc dX3_partAt_12 rfl 1 rfl ?_
      refine x_aload_n hc dX3_partAt_13 rfl 0 rfl ?_
      refine x_getI hc dX3_partAt_14 fl_RX3_9 (q_s hSH sh_3) rfl ?_
      refine x_icmp_ge (tgt := 30) hc dX3_partAt_17 (by decide) (fun hb => ?_) (fun hb => ?_)
      · have h := ite_t hb h
        refine x_bipush hc dX3_partAt_30 kb_m6 ?_
        cases h
        exact x_iret hc dX3_partAt_32 hr hM
      · have h := ite_f hb h
        refine x_iload_n hc dX3_partAt_20 rfl 2 rfl ?_
        refine x_if_lt (tgt := 30) hc dX3_partAt_21 (by decide) (fun hb => ?_) (fun hb => ?_)
        · have h := ite_t hb h
          refine x_bipush hc dX3_partAt_30 kb_m6 ?_
          cases h
          exact x_iret hc dX3_partAt_32 hr hM
        · have h := ite_f hb h
          refine x_iload_n hc dX3_partAt_24 rfl 2 rfl ?_
          refine x_bipush hc dX3_partAt_25 kb_8 ?_
          refine x_icmp_lt (tgt := 33) hc dX3_partAt_27 (by decide) (fun hb => ?_) (fun hb => ?_)
          · have h := ite_t hb h
            refine x_aload_n hc dX3_partAt_33 rfl 0 rfl ?_
            refine x_getR hc dX3_partAt_34 fl_RX3_19 (q_s hSH sh_3) rfl ?_
            refine x_iload_n hc dX3_partAt_37 rfl 1 rfl ?_
            obtain ⟨b1, h⟩ := ck_some h
            refine x_iald hc dX3_partAt_38 (q_s hSH sh_5) (inb_in b1) ?_
            refine x_iload_n hc dX3_partAt_39 rfl 2 rfl ?_
            refine x_ishr hc dX3_partAt_40 ?_
            refine x_iconst hc dX3_partAt_41 kc_1 ?_
            refine x_iand hc dX3_partAt_42 ?_
            refine x_iconst hc dX3_partAt_43 kc_1 ?_
            refine x_icmp_ne (tgt := 61) hc dX3_partAt_44 (by decide) (fun hb => ?_) (fun hb => ?_)
            · have h := ite_f hb h
              refine x_bipush hc dX3_partAt_61 kb_m6 ?_
              cases h
              exact x_iret hc dX3_partAt_63 hr hM
            · have h := ite_t hb h
              refine x_aload_n hc dX3_partAt_47 rfl 0 rfl ?_
              refine x_getR hc dX3_partAt_48 fl_RX3_22 (q_s hSH sh_3) rfl ?_
              refine x_iload_n hc dX3_partAt_51 rfl 1 rfl ?_
              refine x_bipush hc dX3_partAt_52 kb_8 ?_
              refine x_imul hc dX3_partAt_54 ?_
              refine x_iload_n hc dX3_partAt_55 rfl 2 rfl ?_
              refine x_iadd hc dX3_partAt_56 ?_
              obtain ⟨b2, h⟩ := ck_some h
              refine x_iald hc dX3_partAt_57 (q_s hSH sh_6) (inb_in b2) ?_
              refine x_goto (tgt := 63) hc dX3_partAt_58 (by decide) ?_
              cases h
              exact x_iret hc dX3_partAt_63 hr hM
          · have h := ite_f hb h
            refine x_bipush hc dX3_partAt_30 kb_m6 ?_
            cases h
            exact x_iret hc dX3_partAt_32 hr hM

def Dr_partAt (p1 : Int32) (p2 : Int32) (M : QM) : Option (Int32) :=
  (if p1 < 0 then some (-6 : Int32) else (if (M.1 9 5) ≤ p1 then some (-6 : Int32) else (if (M.1 9 0) ≤ p1 then some (-6 : Int32) else (if p2 < 0 then some (-6 : Int32) else (if p2 < (8 : Int32) then ck (inb p1 100) ((if (((M.1 11 p1.toNatClampNeg) >>> (p2 &&& 31)) &&& (1 : Int32)) = (1 : Int32) then ck (inb ((p1 * (8 : Int32)) + p2) 800) (some (M.1 12 ((p1 * (8 : Int32)) + p2).toNatClampNeg)) else some (-6 : Int32))) else some (-6 : Int32))))))

set_option maxRecDepth 20000 in
set_option maxHeartbeats 2000000 in
theorem S_Dr_partAt  {p1 : Int32} {p2 : Int32} {M : QM} {res : Int32} (h : Dr_partAt p1 p2 M = some res) : Cn yX3_partAt cX3_partAt 3 (some .int) 0 SHK [.ref 9, .int p1, .int p2] M (some (.int res)) M := by
  refine q_enter (L := [(0, .ref 9), (1, .int p1), (2, .int p2)]) (by decide) (Nat.le_of_ble_eq_true rfl) rfl ?_
  intro C hc hSH hr hM
  have hc : OKX C RX3 cX3_partAt 3 0 (some .int) := hc
  unfold Dr_partAt at h
  refine x_iload_n hc dX3_partAt_0 rfl 1 rfl ?_
  refine x_if_lt (tgt := 30) hc dX3_partAt_1 (by decide) (fun hb => ?_) (fun hb => ?_)
  · have h := ite_t hb h
    refine x_bipush hc dX3_partAt_30 kb_m6 ?_
    cases h
    exact x_iret hc dX3_partAt_32 hr hM
  · have h := ite_f hb h
    refine x_iload_n hc dX3_partAt_4 rfl 1 rfl ?_
    refine x_aload_n hc dX3_partAt_5 rfl 0 rfl ?_
    refine x_getI hc dX3_partAt_6 fl_RX3_34 (q_s hSH sh_9) rfl ?_
    refine x_icmp_ge (tgt := 30) hc dX3_partAt_9 (by decide) (fun hb => ?_) (fun hb => ?_)
    · have h := ite_t hb h
      refine x_bipush hc dX3_partAt_30 kb_m6 ?_
      cases h
      exact x_iret hc dX3_partAt_32 hr hM
    · have h := ite_f hb h
      refine x_iload_n hc dX3_partAt_12 rfl 1 rfl ?_
      refine x_aload_n hc dX3_partAt_13 rfl 0 rfl ?_
      refine x_getI hc dX3_partAt_14 fl_RX3_9 (q_s hSH sh_9) rfl ?_
      refine x_icmp_ge (tgt := 30) hc dX3_partAt_17 (by decide) (fun hb => ?_) (fun hb => ?_)
      · have h := ite_t hb h
        refine x_bipush hc dX3_partAt_30 kb_m6 ?_
        cases h
        exact x_iret hc dX3_partAt_32 hr hM
      · have h := ite_f hb h
        refine x_iload_n hc dX3_partAt_20 rfl 2 rfl ?_
        refine x_if_lt (tgt := 30) hc dX3_partAt_21 (by decide) (fun hb => ?_) (fun hb => ?_)
        · have h := ite_t hb h
          refine x_bipush hc dX3_partAt_30 kb_m6 ?_
          cases h
          exact x_iret hc dX3_partAt_32 hr hM
        · have h := ite_f hb h
          refine x_iload_n hc dX3_partAt_24 rfl 2 rfl ?_
          refine x_bipush hc dX3_partAt_25 kb_8 ?_
          refine x_icmp_lt (tgt := 33) hc dX3_partAt_27 (by decide) (fun hb => ?_) (fun hb => ?_)
          · have h := ite_t hb h
            refine x_aload_n hc dX3_partAt_33 rfl 0 rfl ?_
            refine x_getR hc dX3_partAt_34 fl_RX3_19 (q_s hSH sh_9) rfl ?_
            refine x_iload_n hc dX3_partAt_37 rfl 1 rfl ?_
            obtain ⟨b1, h⟩ := ck_some h
            refine x_iald hc dX3_partAt_38 (q_s hSH sh_11) (inb_in b1) ?_
            refine x_iload_n hc dX3_partAt_39 rfl 2 rfl ?_
            refine x_ishr hc dX3_partAt_40 ?_
            refine x_iconst hc dX3_partAt_41 kc_1 ?_
            refine x_iand hc dX3_partAt_42 ?_
            refine x_iconst hc dX3_partAt_43 kc_1 ?_
            refine x_icmp_ne (tgt := 61) hc dX3_partAt_44 (by decide) (fun hb => ?_) (fun hb => ?_)
            · have h := ite_f hb h
              refine x_bipush hc dX3_partAt_61 kb_m6 ?_
              cases h
              exact x_iret hc dX3_partAt_63 hr hM
            · have h := ite_t hb h
              refine x_aload_n hc dX3_partAt_47 rfl 0 rfl ?_
              refine x_getR hc dX3_partAt_48 fl_RX3_22 (q_s hSH sh_9) rfl ?_
              refine x_iload_n hc dX3_partAt_51 rfl 1 rfl ?_
              refine x_bipush hc dX3_partAt_52 kb_8 ?_
              refine x_imul hc dX3_partAt_54 ?_
              refine x_iload_n hc dX3_partAt_55 rfl 2 rfl ?_
              refine x_iadd hc dX3_partAt_56 ?_
              obtain ⟨b2, h⟩ := ck_some h
              refine x_iald hc dX3_partAt_57 (q_s hSH sh_12) (inb_in b2) ?_
              refine x_goto (tgt := 63) hc dX3_partAt_58 (by decide) ?_
              cases h
              exact x_iret hc dX3_partAt_63 hr hM
          · have h := ite_f hb h
            refine x_bipush hc dX3_partAt_30 kb_m6 ?_
            cases h
            exact x_iret hc dX3_partAt_32 hr hM

def Ne_setName (p1 : Int32) (p2 : Int32) (M : QM) : Option (QM) :=
  (if p1 < 0 then some M else (if (8 : Int32) ≤ p1 then some M else ck (inb p1 8) (some (u_i M 7 p1.toNatClampNeg p2))))

set_option maxRecDepth 20000 in
set_option maxHeartbeats 2000000 in
theorem S_Ne_setName  {p1 : Int32} {p2 : Int32} {M : QM} {res : QM} (h : Ne_setName p1 p2 M = some res) : Cn yX3_setName cX3_setName 3 none 0 SHK [.ref 3, .int p1, .int p2] M (none) res := by
  refine q_enter (L := [(0, .ref 3), (1, .int p1), (2, .int p2)]) (by decide) (Nat.le_of_ble_eq_true rfl) rfl ?_
  intro C hc hSH hr hM
  have hc : OKX C RX3 cX3_setName 3 0 none := hc
  unfold Ne_setName at h
  refine x_iload_n hc dX3_setName_0 rfl 1 rfl ?_
  refine x_if_lt (tgt := 17) hc dX3_setName_1 (by decide) (fun hb => ?_) (fun hb => ?_)
  · have h := ite_t hb h
    cases h
    exact x_vret hc dX3_setName_17 hr hM
  · have h := ite_f hb h
    refine x_iload_n hc dX3_setName_4 rfl 1 rfl ?_
    refine x_bipush hc dX3_setName_5 kb_8 ?_
    refine x_icmp_ge (tgt := 17) hc dX3_setName_7 (by decide) (fun hb => ?_) (fun hb => ?_)
    · have h := ite_t hb h
      cases h
      exact x_vret hc dX3_setName_17 hr hM
    · have h := ite_f hb h
      refine x_aload_n hc dX3_setName_10 rfl 0 rfl ?_
      refine x_getR hc dX3_setName_11 fl_RX3_25 (q_s hSH sh_3) rfl ?_
      refine x_iload_n hc dX3_setName_14 rfl 1 rfl ?_
      refine x_iload_n hc dX3_setName_15 rfl 2 rfl ?_
      obtain ⟨b1, h⟩ := ck_some h
      refine x_iast hc dX3_setName_16 (q_s hSH sh_7) (inb_in b1) ?_
      cases h
      exact x_vret hc dX3_setName_17 hr hM

def Dr_setName (p1 : Int32) (p2 : Int32) (M : QM) : Option (QM) :=
  (if p1 < 0 then some M else (if (8 : Int32) ≤ p1 then some M else ck (inb p1 8) (some (u_i M 13 p1.toNatClampNeg p2))))

set_option maxRecDepth 20000 in
set_option maxHeartbeats 2000000 in
theorem S_Dr_setName  {p1 : Int32} {p2 : Int32} {M : QM} {res : QM} (h : Dr_setName p1 p2 M = some res) : Cn yX3_setName cX3_setName 3 none 0 SHK [.ref 9, .int p1, .int p2] M (none) res := by
  refine q_enter (L := [(0, .ref 9), (1, .int p1), (2, .int p2)]) (by decide) (Nat.le_of_ble_eq_true rfl) rfl ?_
  intro C hc hSH hr hM
  have hc : OKX C RX3 cX3_setName 3 0 none := hc
  unfold Dr_setName at h
  refine x_iload_n hc dX3_setName_0 rfl 1 rfl ?_
  refine x_if_lt (tgt := 17) hc dX3_setName_1 (by decide) (fun hb => ?_) (fun hb => ?_)
  · have h := ite_t hb h
    cases h
    exact x_vret hc dX3_setName_17 hr hM
  · have h := ite_f hb h
    refine x_iload_n hc dX3_setName_4 rfl 1 rfl ?_
    refine x_bipush hc dX3_setName_5 kb_8 ?_
    refine x_icmp_ge (tgt := 17) hc dX3_setName_7 (by decide) (fun hb => ?_) (fun hb => ?_)
    · have h := ite_t hb h
      cases h
      exact x_vret hc dX3_setName_17 hr hM
    · have h := ite_f hb h
      refine x_aload_n hc dX3_setName_10 rfl 0 rfl ?_
      refine x_getR hc dX3_setName_11 fl_RX3_25 (q_s hSH sh_9) rfl ?_
      refine x_iload_n hc dX3_setName_14 rfl 1 rfl ?_
      refine x_iload_n hc dX3_setName_15 rfl 2 rfl ?_
      obtain ⟨b1, h⟩ := ck_some h
      refine x_iast hc dX3_setName_16 (q_s hSH sh_13) (inb_in b1) ?_
      cases h
      exact x_vret hc dX3_setName_17 hr hM

def Ne_setPart (p1 : Int32) (p2 : Int32) (p3 : Int32) (M : QM) : Option (QM) :=
  (if p1 < 0 then some M else (if (M.1 3 5) ≤ p1 then some M else (if (M.1 3 0) ≤ p1 then some M else (if p2 < 0 then some M else (if (8 : Int32) ≤ p2 then some M else ck (inb p1 60) (ck (inb p1 60) (ck (inb ((p1 * (8 : Int32)) + p2) 480) (some (u_i (u_i M 5 p1.toNatClampNeg ((M.1 5 p1.toNatClampNeg) ||| ((1 : Int32) <<< (p2 &&& 31)))) 6 ((p1 * (8 : Int32)) + p2).toNatClampNeg p3)))))))))

set_option maxRecDepth 20000 in
set_option maxHeartbeats 2000000 in
theorem S_Ne_setPart  {p1 : Int32} {p2 : Int32} {p3 : Int32} {M : QM} {res : QM} (h : Ne_setPart p1 p2 p3 M = some res) : Cn yX3_setPart cX3_setPart 4 none 0 SHK [.ref 3, .int p1, .int p2, .int p3] M (none) res := by
  refine q_enter (L := [(0, .ref 3), (1, .int p1), (2, .int p2), (3, .int p3)]) (by decide) (Nat.le_of_ble_eq_true rfl) rfl ?_
  intro C hc hSH hr hM
  have hc : OKX C RX3 cX3_setPart 4 0 none := hc
  unfold Ne_setPart at h
  refine x_iload_n hc dX3_setPart_0 rfl 1 rfl ?_
  refine x_if_lt (tgt := 54) hc dX3_setPart_1 (by decide) (fun hb => ?_) (fun hb => ?_)
  · have h := ite_t hb h
    cases h
    exact x_vret hc dX3_setPart_54 hr hM
  · have h := ite_f hb h
    refine x_iload_n hc dX3_setPart_4 rfl 1 rfl ?_
    refine x_aload_n hc dX3_setPart_5 rfl 0 rfl ?_
    refine x_getI hc dX3_setPart_6 fl_RX3_34 (q_s hSH sh_3) rfl ?_
    refine x_icmp_ge (tgt := 54) hc dX3_setPart_9 (by decide) (fun hb => ?_) (fun hb => ?_)
    · have h := ite_t hb h
      cases h
      exact x_vret hc dX3_setPart_54 hr hM
    · have h := ite_f hb h
      refine x_iload_n hc dX3_setPart_12 rfl 1 rfl ?_
      refine x_aload_n hc dX3_setPart_13 rfl 0 rfl ?_
      refine x_getI hc dX3_setPart_14 fl_RX3_9 (q_s hSH sh_3) rfl ?_
      refine x_icmp_ge (tgt := 54) hc dX3_setPart_17 (by decide) (fun hb => ?_) (fun hb => ?_)
      · have h := ite_t hb h
        cases h
        exact x_vret hc dX3_setPart_54 hr hM
      · have h := ite_f hb h
        refine x_iload_n hc dX3_setPart_20 rfl 2 rfl ?_
        refine x_if_lt (tgt := 54) hc dX3_setPart_21 (by decide) (fun hb => ?_) (fun hb => ?_)
        · have h := ite_t hb h
          cases h
          exact x_vret hc dX3_setPart_54 hr hM
        · have h := ite_f hb h
          refine x_iload_n hc dX3_setPart_24 rfl 2 rfl ?_
          refine x_bipush hc dX3_setPart_25 kb_8 ?_
          refine x_icmp_ge (tgt := 54) hc dX3_setPart_27 (by decide) (fun hb => ?_) (fun hb => ?_)
          · have h := ite_t hb h
            cases h
            exact x_vret hc dX3_setPart_54 hr hM
          · have h := ite_f hb h
            refine x_aload_n hc dX3_setPart_30 rfl 0 rfl ?_
            refine x_getR hc dX3_setPart_31 fl_RX3_19 (q_s hSH sh_3) rfl ?_
            refine x_iload_n hc dX3_setPart_34 rfl 1 rfl ?_
            refine x_dup2 hc dX3_setPart_35 rfl rfl ?_
            obtain ⟨b1, h⟩ := ck_some h
            refine x_iald hc dX3_setPart_36 (q_s hSH sh_5) (inb_in b1) ?_
            refine x_iconst hc dX3_setPart_37 kc_1 ?_
            refine x_iload_n hc dX3_setPart_38 rfl 2 rfl ?_
            refine x_ishl hc dX3_setPart_39 ?_
            refine x_ior hc dX3_setPart_40 ?_
            obtain ⟨b2, h⟩ := ck_some h
            refine x_iast hc dX3_setPart_41 (q_s hSH sh_5) (inb_in b2) ?_
            refine x_aload_n hc dX3_setPart_42 rfl 0 rfl ?_
            refine x_getR hc dX3_setPart_43 fl_RX3_22 (q_s hSH sh_3) rfl ?_
            refine x_iload_n hc dX3_setPart_46 rfl 1 rfl ?_
            refine x_bipush hc dX3_setPart_47 kb_8 ?_
            refine x_imul hc dX3_setPart_49 ?_
            refine x_iload_n hc dX3_setPart_50 rfl 2 rfl ?_
            refine x_iadd hc dX3_setPart_51 ?_
            refine x_iload_n hc dX3_setPart_52 rfl 3 rfl ?_
            obtain ⟨b3, h⟩ := ck_some h
            refine x_iast hc dX3_setPart_53 (q_s hSH sh_6) (inb_in b3) ?_
            cases h
            exact x_vret hc dX3_setPart_54 hr hM

def Dr_setPart (p1 : Int32) (p2 : Int32) (p3 : Int32) (M : QM) : Option (QM) :=
  (if p1 < 0 then some M else (if (M.1 9 5) ≤ p1 then some M else (if (M.1 9 0) ≤ p1 then some M else (if p2 < 0 then some M else (if (8 : Int32) ≤ p2 then some M else ck (inb p1 100) (ck (inb p1 100) (ck (inb ((p1 * (8 : Int32)) + p2) 800) (some (u_i (u_i M 11 p1.toNatClampNeg ((M.1 11 p1.toNatClampNeg) ||| ((1 : Int32) <<< (p2 &&& 31)))) 12 ((p1 * (8 : Int32)) + p2).toNatClampNeg p3)))))))))

set_option maxRecDepth 20000 in
set_option maxHeartbeats 2000000 in
theorem S_Dr_setPart  {p1 : Int32} {p2 : Int32} {p3 : Int32} {M : QM} {res : QM} (h : Dr_setPart p1 p2 p3 M = some res) : Cn yX3_setPart cX3_setPart 4 none 0 SHK [.ref 9, .int p1, .int p2, .int p3] M (none) res := by
  refine q_enter (L := [(0, .ref 9), (1, .int p1), (2, .int p2), (3, .int p3)]) (by decide) (Nat.le_of_ble_eq_true rfl) rfl ?_
  intro C hc hSH hr hM
  have hc : OKX C RX3 cX3_setPart 4 0 none := hc
  unfold Dr_setPart at h
  refine x_iload_n hc dX3_setPart_0 rfl 1 rfl ?_
  refine x_if_lt (tgt := 54) hc dX3_setPart_1 (by decide) (fun hb => ?_) (fun hb => ?_)
  · have h := ite_t hb h
    cases h
    exact x_vret hc dX3_setPart_54 hr hM
  · have h := ite_f hb h
    refine x_iload_n hc dX3_setPart_4 rfl 1 rfl ?_
    refine x_aload_n hc dX3_setPart_5 rfl 0 rfl ?_
    refine x_getI hc dX3_setPart_6 fl_RX3_34 (q_s hSH sh_9) rfl ?_
    refine x_icmp_ge (tgt := 54) hc dX3_setPart_9 (by decide) (fun hb => ?_) (fun hb => ?_)
    · have h := ite_t hb h
      cases h
      exact x_vret hc dX3_setPart_54 hr hM
    · have h := ite_f hb h
      refine x_iload_n hc dX3_setPart_12 rfl 1 rfl ?_
      refine x_aload_n hc dX3_setPart_13 rfl 0 rfl ?_
      refine x_getI hc dX3_setPart_14 fl_RX3_9 (q_s hSH sh_9) rfl ?_
      refine x_icmp_ge (tgt := 54) hc dX3_setPart_17 (by decide) (fun hb => ?_) (fun hb => ?_)
      · have h := ite_t hb h
        cases h
        exact x_vret hc dX3_setPart_54 hr hM
      · have h := ite_f hb h
        refine x_iload_n hc dX3_setPart_20 rfl 2 rfl ?_
        refine x_if_lt (tgt := 54) hc dX3_setPart_21 (by decide) (fun hb => ?_) (fun hb => ?_)
        · have h := ite_t hb h
          cases h
          exact x_vret hc dX3_setPart_54 hr hM
        · have h := ite_f hb h
          refine x_iload_n hc dX3_setPart_24 rfl 2 rfl ?_
          refine x_bipush hc dX3_setPart_25 kb_8 ?_
          refine x_icmp_ge (tgt := 54) hc dX3_setPart_27 (by decide) (fun hb => ?_) (fun hb => ?_)
          · have h := ite_t hb h
            cases h
            exact x_vret hc dX3_setPart_54 hr hM
          · have h := ite_f hb h
            refine x_aload_n hc dX3_setPart_30 rfl 0 rfl ?_
            refine x_getR hc dX3_setPart_31 fl_RX3_19 (q_s hSH sh_9) rfl ?_
            refine x_iload_n hc dX3_setPart_34 rfl 1 rfl ?_
            refine x_dup2 hc dX3_setPart_35 rfl rfl ?_
            obtain ⟨b1, h⟩ := ck_some h
            refine x_iald hc dX3_setPart_36 (q_s hSH sh_11) (inb_in b1) ?_
            refine x_iconst hc dX3_setPart_37 kc_1 ?_
            refine x_iload_n hc dX3_setPart_38 rfl 2 rfl ?_
            refine x_ishl hc dX3_setPart_39 ?_
            refine x_ior hc dX3_setPart_40 ?_
            obtain ⟨b2, h⟩ := ck_some h
            refine x_iast hc dX3_setPart_41 (q_s hSH sh_11) (inb_in b2) ?_
            refine x_aload_n hc dX3_setPart_42 rfl 0 rfl ?_
            refine x_getR hc dX3_setPart_43 fl_RX3_22 (q_s hSH sh_9) rfl ?_
            refine x_iload_n hc dX3_setPart_46 rfl 1 rfl ?_
            refine x_bipush hc dX3_setPart_47 kb_8 ?_
            refine x_imul hc dX3_setPart_49 ?_
            refine x_iload_n hc dX3_setPart_50 rfl 2 rfl ?_
            refine x_iadd hc dX3_setPart_51 ?_
            refine x_iload_n hc dX3_setPart_52 rfl 3 rfl ?_
            obtain ⟨b3, h⟩ := ck_some h
            refine x_iast hc dX3_setPart_53 (q_s hSH sh_12) (inb_in b3) ?_
            cases h
            exact x_vret hc dX3_setPart_54 hr hM

def Ne_signOf (p1 : Int32) (M : QM) : Option (Int32) :=
  (if p1 < 0 then some (0 : Int32) else (if (M.1 3 5) ≤ p1 then some (0 : Int32) else (if (M.1 3 0) ≤ p1 then some (0 : Int32) else ck (inb p1 60) (some (M.1 4 p1.toNatClampNeg)))))

set_option maxRecDepth 20000 in
set_option maxHeartbeats 2000000 in
theorem S_Ne_signOf  {p1 : Int32} {M : QM} {res : Int32} (h : Ne_signOf p1 M = some res) : Cn yX3_signOf cX3_signOf 2 (some .int) 0 SHK [.ref 3, .int p1] M (some (.int res)) M := by
  refine q_enter (L := [(0, .ref 3), (1, .int p1)]) (by decide) (Nat.le_of_ble_eq_true rfl) rfl ?_
  intro C hc hSH hr hM
  have hc : OKX C RX3 cX3_signOf 2 0 (some .int) := hc
  unfold Ne_signOf at h
  refine x_iload_n hc dX3_signOf_0 rfl 1 rfl ?_
  refine x_if_lt (tgt := 29) hc dX3_signOf_1 (by decide) (fun hb => ?_) (fun hb => ?_)
  · have h := ite_t hb h
    refine x_iconst hc dX3_signOf_29 kc_0 ?_
    cases h
    exact x_iret hc dX3_signOf_30 hr hM
  · have h := ite_f hb h
    refine x_iload_n hc dX3_signOf_4 rfl 1 rfl ?_
    refine x_aload_n hc dX3_signOf_5 rfl 0 rfl ?_
    refine x_getI hc dX3_signOf_6 fl_RX3_34 (q_s hSH sh_3) rfl ?_
    refine x_icmp_ge (tgt := 29) hc dX3_signOf_9 (by decide) (fun hb => ?_) (fun hb => ?_)
    · have h := ite_t hb h
      refine x_iconst hc dX3_signOf_29 kc_0 ?_
      cases h
      exact x_iret hc dX3_signOf_30 hr hM
    · have h := ite_f hb h
      refine x_iload_n hc dX3_signOf_12 rfl 1 rfl ?_
      refine x_aload_n hc dX3_signOf_13 rfl 0 rfl ?_
      refine x_getI hc dX3_signOf_14 fl_RX3_9 (q_s hSH sh_3) rfl ?_
      refine x_icmp_ge (tgt := 29) hc dX3_signOf_17 (by decide) (fun hb => ?_) (fun hb => ?_)
      · have h := ite_t hb h
        refine x_iconst hc dX3_signOf_29 kc_0 ?_
        cases h
        exact x_iret hc dX3_signOf_30 hr hM
      · have h := ite_f hb h
        refine x_aload_n hc dX3_signOf_20 rfl 0 rfl ?_
        refine x_getR hc dX3_signOf_21 fl_RX3_15 (q_s hSH sh_3) rfl ?_
        refine x_iload_n hc dX3_signOf_24 rfl 1 rfl ?_
        obtain ⟨b1, h⟩ := ck_some h
        refine x_iald hc dX3_signOf_25 (q_s hSH sh_4) (inb_in b1) ?_
        refine x_goto (tgt := 30) hc dX3_signOf_26 (by decide) ?_
        cases h
        exact x_iret hc dX3_signOf_30 hr hM

def Dr_signOf (p1 : Int32) (M : QM) : Option (Int32) :=
  (if p1 < 0 then some (0 : Int32) else (if (M.1 9 5) ≤ p1 then some (0 : Int32) else (if (M.1 9 0) ≤ p1 then some (0 : Int32) else ck (inb p1 100) (some (M.1 10 p1.toNatClampNeg)))))

set_option maxRecDepth 20000 in
set_option maxHeartbeats 2000000 in
theorem S_Dr_signOf  {p1 : Int32} {M : QM} {res : Int32} (h : Dr_signOf p1 M = some res) : Cn yX3_signOf cX3_signOf 2 (some .int) 0 SHK [.ref 9, .int p1] M (some (.int res)) M := by
  refine q_enter (L := [(0, .ref 9), (1, .int p1)]) (by decide) (Nat.le_of_ble_eq_true rfl) rfl ?_
  intro C hc hSH hr hM
  have hc : OKX C RX3 cX3_signOf 2 0 (some .int) := hc
  unfold Dr_signOf at h
  refine x_iload_n hc dX3_signOf_0 rfl 1 rfl ?_
  refine x_if_lt (tgt := 29) hc dX3_signOf_1 (by decide) (fun hb => ?_) (fun hb => ?_)
  · have h := ite_t hb h
    refine x_iconst hc dX3_signOf_29 kc_0 ?_
    cases h
    exact x_iret hc dX3_signOf_30 hr hM
  · have h := ite_f hb h
    refine x_iload_n hc dX3_signOf_4 rfl 1 rfl ?_
    refine x_aload_n hc dX3_signOf_5 rfl 0 rfl ?_
    refine x_getI hc dX3_signOf_6 fl_RX3_34 (q_s hSH sh_9) rfl ?_
    refine x_icmp_ge (tgt := 29) hc dX3_signOf_9 (by decide) (fun hb => ?_) (fun hb => ?_)
    · have h := ite_t hb h
      refine x_iconst hc dX3_signOf_29 kc_0 ?_
      cases h
      exact x_iret hc dX3_signOf_30 hr hM
    · have h := ite_f hb h
      refine x_iload_n hc dX3_signOf_12 rfl 1 rfl ?_
      refine x_aload_n hc dX3_signOf_13 rfl 0 rfl ?_
      refine x_getI hc dX3_signOf_14 fl_RX3_9 (q_s hSH sh_9) rfl ?_
      refine x_icmp_ge (tgt := 29) hc dX3_signOf_17 (by decide) (fun hb => ?_) (fun hb => ?_)
      · have h := ite_t hb h
        refine x_iconst hc dX3_signOf_29 kc_0 ?_
        cases h
        exact x_iret hc dX3_signOf_30 hr hM
      · have h := ite_f hb h
        refine x_aload_n hc dX3_signOf_20 rfl 0 rfl ?_
        refine x_getR hc dX3_signOf_21 fl_RX3_15 (q_s hSH sh_9) rfl ?_
        refine x_iload_n hc dX3_signOf_24 rfl 1 rfl ?_
        obtain ⟨b1, h⟩ := ck_some h
        refine x_iald hc dX3_signOf_25 (q_s hSH sh_10) (inb_in b1) ?_
        refine x_goto (tgt := 30) hc dX3_signOf_26 (by decide) ?_
        cases h
        exact x_iret hc dX3_signOf_30 hr hM

def Ne_slotsOf (p1 : Int32) (M : QM) : Option (Int32) :=
  (if p1 < 0 then some (0 : Int32) else (if (M.1 3 5) ≤ p1 then some (0 : Int32) else (if (M.1 3 0) ≤ p1 then some (0 : Int32) else ck (inb p1 60) (some (M.1 5 p1.toNatClampNeg)))))

set_option maxRecDepth 20000 in
set_option maxHeartbeats 2000000 in
theorem S_Ne_slotsOf  {p1 : Int32} {M : QM} {res : Int32} (h : Ne_slotsOf p1 M = some res) : Cn yX3_slotsOf cX3_slotsOf 2 (some .int) 0 SHK [.ref 3, .int p1] M (some (.int res)) M := by
  refine q_enter (L := [(0, .ref 3), (1, .int p1)]) (by decide) (Nat.le_of_ble_eq_true rfl) rfl ?_
  intro C hc hSH hr hM
  have hc : OKX C RX3 cX3_slotsOf 2 0 (some .int) := hc
  unfold Ne_slotsOf at h
  refine x_iload_n hc dX3_slotsOf_0 rfl 1 rfl ?_
  refine x_if_lt (tgt := 29) hc dX3_slotsOf_1 (by decide) (fun hb => ?_) (fun hb => ?_)
  · have h := ite_t hb h
    refine x_iconst hc dX3_slotsOf_29 kc_0 ?_
    cases h
    exact x_iret hc dX3_slotsOf_30 hr hM
  · have h := ite_f hb h
    refine x_iload_n hc dX3_slotsOf_4 rfl 1 rfl ?_
    refine x_aload_n hc dX3_slotsOf_5 rfl 0 rfl ?_
    refine x_getI hc dX3_slotsOf_6 fl_RX3_34 (q_s hSH sh_3) rfl ?_
    refine x_icmp_ge (tgt := 29) hc dX3_slotsOf_9 (by decide) (fun hb => ?_) (fun hb => ?_)
    · have h := ite_t hb h
      refine x_iconst hc dX3_slotsOf_29 kc_0 ?_
      cases h
      exact x_iret hc dX3_slotsOf_30 hr hM
    · have h := ite_f hb h
      refine x_iload_n hc dX3_slotsOf_12 rfl 1 rfl ?_
      refine x_aload_n hc dX3_slotsOf_13 rfl 0 rfl ?_
      refine x_getI hc dX3_slotsOf_14 fl_RX3_9 (q_s hSH sh_3) rfl ?_
      refine x_icmp_ge (tgt := 29) hc dX3_slotsOf_17 (by decide) (fun hb => ?_) (fun hb => ?_)
      · have h := ite_t hb h
        refine x_iconst hc dX3_slotsOf_29 kc_0 ?_
        cases h
        exact x_iret hc dX3_slotsOf_30 hr hM
      · have h := ite_f hb h
        refine x_aload_n hc dX3_slotsOf_20 rfl 0 rfl ?_
        refine x_getR hc dX3_slotsOf_21 fl_RX3_19 (q_s hSH sh_3) rfl ?_
        refine x_iload_n hc dX3_slotsOf_24 rfl 1 rfl ?_
        obtain ⟨b1, h⟩ := ck_some h
        refine x_iald hc dX3_slotsOf_25 (q_s hSH sh_5) (inb_in b1) ?_
        refine x_goto (tgt := 30) hc dX3_slotsOf_26 (by decide) ?_
        cases h
        exact x_iret hc dX3_slotsOf_30 hr hM

def Dr_slotsOf (p1 : Int32) (M : QM) : Option (Int32) :=
  (if p1 < 0 then some (0 : Int32) else (if (M.1 9 5) ≤ p1 then some (0 : Int32) else (if (M.1 9 0) ≤ p1 then some (0 : Int32) else ck (inb p1 100) (some (M.1 11 p1.toNatClampNeg)))))

set_option maxRecDepth 20000 in
set_option maxHeartbeats 2000000 in
theorem S_Dr_slotsOf  {p1 : Int32} {M : QM} {res : Int32} (h : Dr_slotsOf p1 M = some res) : Cn yX3_slotsOf cX3_slotsOf 2 (some .int) 0 SHK [.ref 9, .int p1] M (some (.int res)) M := by
  refine q_enter (L := [(0, .ref 9), (1, .int p1)]) (by decide) (Nat.le_of_ble_eq_true rfl) rfl ?_
  intro C hc hSH hr hM
  have hc : OKX C RX3 cX3_slotsOf 2 0 (some .int) := hc
  unfold Dr_slotsOf at h
  refine x_iload_n hc dX3_slotsOf_0 rfl 1 rfl ?_
  refine x_if_lt (tgt := 29) hc dX3_slotsOf_1 (by decide) (fun hb => ?_) (fun hb => ?_)
  · have h := ite_t hb h
    refine x_iconst hc dX3_slotsOf_29 kc_0 ?_
    cases h
    exact x_iret hc dX3_slotsOf_30 hr hM
  · have h := ite_f hb h
    refine x_iload_n hc dX3_slotsOf_4 rfl 1 rfl ?_
    refine x_aload_n hc dX3_slotsOf_5 rfl 0 rfl ?_
    refine x_getI hc dX3_slotsOf_6 fl_RX3_34 (q_s hSH sh_9) rfl ?_
    refine x_icmp_ge (tgt := 29) hc dX3_slotsOf_9 (by decide) (fun hb => ?_) (fun hb => ?_)
    · have h := ite_t hb h
      refine x_iconst hc dX3_slotsOf_29 kc_0 ?_
      cases h
      exact x_iret hc dX3_slotsOf_30 hr hM
    · have h := ite_f hb h
      refine x_iload_n hc dX3_slotsOf_12 rfl 1 rfl ?_
      refine x_aload_n hc dX3_slotsOf_13 rfl 0 rfl ?_
      refine x_getI hc dX3_slotsOf_14 fl_RX3_9 (q_s hSH sh_9) rfl ?_
      refine x_icmp_ge (tgt := 29) hc dX3_slotsOf_17 (by decide) (fun hb => ?_) (fun hb => ?_)
      · have h := ite_t hb h
        refine x_iconst hc dX3_slotsOf_29 kc_0 ?_
        cases h
        exact x_iret hc dX3_slotsOf_30 hr hM
      · have h := ite_f hb h
        refine x_aload_n hc dX3_slotsOf_20 rfl 0 rfl ?_
        refine x_getR hc dX3_slotsOf_21 fl_RX3_19 (q_s hSH sh_9) rfl ?_
        refine x_iload_n hc dX3_slotsOf_24 rfl 1 rfl ?_
        obtain ⟨b1, h⟩ := ck_some h
        refine x_iald hc dX3_slotsOf_25 (q_s hSH sh_11) (inb_in b1) ?_
        refine x_goto (tgt := 30) hc dX3_slotsOf_26 (by decide) ?_
        cases h
        exact x_iret hc dX3_slotsOf_30 hr hM

