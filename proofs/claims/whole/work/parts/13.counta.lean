def Co_foundOf_J26 (x1 : Int32) (x2 : Int32) (s0 : Int32) (M : QM) : Option (Int64) :=
  (if s0 = 0 then some (0 : Int64) else ck (inb ((x1 * (13 : Int32)) + x2) 780) (some (M.2 29 ((x1 * (13 : Int32)) + x2).toNatClampNeg)))

set_option maxRecDepth 20000 in
set_option maxHeartbeats 2000000 in
theorem S_Co_foundOf_J26 {C : QC} (hc : OKX C RX0 cX0_foundOf 4 0 (some .long)) (hSH : q_SH C = SHK) (x1 : Int32) (x2 : Int32) (s0 : Int32) (M : QM) {res : Int64} (h : Co_foundOf_J26 x1 x2 s0 M = some res) (hr : q_r C = some (.long res)) (hM : q_M C = M) : WX C 4 26 [(0, .ref 28), (1, .int x1), (2, .int x2)] [.int s0] M := by
  unfold Co_foundOf_J26 at h
  refine x_istore_n (L2 := [(3, .int s0), (0, .ref 28), (1, .int x1), (2, .int x2)]) hc dX0_foundOf_26 rfl (by decide) rfl ?_
  refine x_iload_n hc dX0_foundOf_27 rfl 0 rfl ?_
  refine x_if_eq (tgt := 45) hc dX0_foundOf_28 (by decide) (fun hb => ?_) (fun hb => ?_)
  · have h := ite_t hb h
    refine x_lconst hc dX0_foundOf_45 kl_0 ?_
    cases h
    exact x_lret hc dX0_foundOf_46 hr hM
  · have h := ite_f hb h
    refine x_aload_n hc dX0_foundOf_31 rfl 1 rfl ?_
    refine x_getR hc dX0_foundOf_32 fl_RX0_15 (q_s hSH sh_28) rfl ?_
    refine x_iload_n hc dX0_foundOf_35 rfl 2 rfl ?_
    refine x_bipush hc dX0_foundOf_36 kb_13 ?_
    refine x_imul hc dX0_foundOf_38 ?_
    refine x_iload_n hc dX0_foundOf_39 rfl 3 rfl ?_
    refine x_iadd hc dX0_foundOf_40 ?_
    obtain ⟨b1, h⟩ := ck_some h
    refine x_lald hc dX0_foundOf_41 (q_s hSH sh_29) (inb_in b1) ?_
    refine x_goto (tgt := 46) hc dX0_foundOf_42 (by decide) ?_
    cases h
    exact x_lret hc dX0_foundOf_46 hr hM

def Co_foundOf_J25 (x1 : Int32) (x2 : Int32) (M : QM) : Option (Int64) :=
  Co_foundOf_J26 x1 x2 (0 : Int32) M

set_option maxRecDepth 20000 in
set_option maxHeartbeats 2000000 in
theorem S_Co_foundOf_J25 {C : QC} (hc : OKX C RX0 cX0_foundOf 4 0 (some .long)) (hSH : q_SH C = SHK) (x1 : Int32) (x2 : Int32) (M : QM) {res : Int64} (h : Co_foundOf_J25 x1 x2 M = some res) (hr : q_r C = some (.long res)) (hM : q_M C = M) : WX C 4 25 [(0, .ref 28), (1, .int x1), (2, .int x2)] [] M := by
  unfold Co_foundOf_J25 at h
  refine x_iconst hc dX0_foundOf_25 kc_0 ?_
  exact x_sub (S_Co_foundOf_J26 hc hSH x1 x2 (0 : Int32) M h hr hM) [0, 1, 2] rfl

def Co_foundOf (p1 : Int32) (p2 : Int32) (M : QM) : Option (Int64) :=
  (if p1 < 0 then Co_foundOf_J25 p1 p2 M else (if (60 : Int32) ≤ p1 then Co_foundOf_J25 p1 p2 M else (if p2 < (1 : Int32) then Co_foundOf_J25 p1 p2 M else (if (12 : Int32) < p2 then Co_foundOf_J25 p1 p2 M else Co_foundOf_J26 p1 p2 (1 : Int32) M))))

set_option maxRecDepth 20000 in
set_option maxHeartbeats 2000000 in
theorem S_Co_foundOf  {p1 : Int32} {p2 : Int32} {M : QM} {res : Int64} (h : Co_foundOf p1 p2 M = some res) : Cn yX0_foundOf cX0_foundOf 4 (some .long) 0 SHK [.ref 28, .int p1, .int p2] M (some (.long res)) M := by
  refine q_enter (L := [(0, .ref 28), (1, .int p1), (2, .int p2)]) (by decide) (Nat.le_of_ble_eq_true rfl) rfl ?_
  intro C hc hSH hr hM
  have hc : OKX C RX0 cX0_foundOf 4 0 (some .long) := hc
  unfold Co_foundOf at h
  refine x_iload_n hc dX0_foundOf_0 rfl 1 rfl ?_
  refine x_if_lt (tgt := 25) hc dX0_foundOf_1 (by decide) (fun hb => ?_) (fun hb => ?_)
  · have h := ite_t hb h
    exact x_sub (S_Co_foundOf_J25 hc hSH p1 p2 M h hr hM) [0, 1, 2] rfl
  · have h := ite_f hb h
    refine x_iload_n hc dX0_foundOf_4 rfl 1 rfl ?_
    refine x_bipush hc dX0_foundOf_5 kb_60 ?_
    refine x_icmp_ge (tgt := 25) hc dX0_foundOf_7 (by decide) (fun hb => ?_) (fun hb => ?_)
    · have h := ite_t hb h
      exact x_sub (S_Co_foundOf_J25 hc hSH p1 p2 M h hr hM) [0, 1, 2] rfl
    · have h := ite_f hb h
      refine x_iload_n hc dX0_foundOf_10 rfl 2 rfl ?_
      refine x_iconst hc dX0_foundOf_11 kc_1 ?_
      refine x_icmp_lt (tgt := 25) hc dX0_foundOf_12 (by decide) (fun hb => ?_) (fun hb => ?_)
      · have h := ite_t hb h
        exact x_sub (S_Co_foundOf_J25 hc hSH p1 p2 M h hr hM) [0, 1, 2] rfl
      · have h := ite_f hb h
        refine x_iload_n hc dX0_foundOf_15 rfl 2 rfl ?_
        refine x_bipush hc dX0_foundOf_16 kb_12 ?_
        refine x_icmp_gt (tgt := 25) hc dX0_foundOf_18 (by decide) (fun hb => ?_) (fun hb => ?_)
        · have h := ite_t hb h
          exact x_sub (S_Co_foundOf_J25 hc hSH p1 p2 M h hr hM) [0, 1, 2] rfl
        · have h := ite_f hb h
          refine x_iconst hc dX0_foundOf_21 kc_1 ?_
          refine x_goto (tgt := 26) hc dX0_foundOf_22 (by decide) ?_
          exact x_sub (S_Co_foundOf_J26 hc hSH p1 p2 (1 : Int32) M h hr hM) [0, 1, 2] rfl

def Co_addLetter_B17 (x1 : Int32) (x3 : Int32) (M : QM) (v : Int64 × Int32) : Option ((Int64) ⊕ (Int64 × Int32)) :=
  (if x3 < v.2 then some (.inl v.1) else ck (inb (x3 - v.2) 13) (Option.bind (Co_foundOf x1 v.2 M) (fun q2 => some (.inr (if (v.1 + ((M.2 30 (x3 - v.2).toNatClampNeg) * q2)) < (1000000000 : Int64) then (v.1 + ((M.2 30 (x3 - v.2).toNatClampNeg) * q2)) else (1000000000 : Int64), v.2 + (1 : Int32))))))

set_option maxRecDepth 20000 in
set_option maxHeartbeats 2000000 in
theorem S_Co_addLetter_B17 {C : QC} (hc : OKX C RX0 cX0_addLetter 7 1 none) (hSH : q_SH C = SHK) (x1 : Int32) (x3 : Int32) (M : QM) (v : Int64 × Int32) {res : (Int64) ⊕ (Int64 × Int32)} (h : Co_addLetter_B17 x1 x3 M v = some res) (ke : ∀ x : Int64, res = .inl x → WX C 7 57 [(0, .ref 28), (1, .int x1), (3, .int x3), (4, .long x)] [] M) (kb : ∀ x : Int64 × Int32, res = .inr x → WX C 7 17 [(0, .ref 28), (1, .int x1), (3, .int x3), (4, .long x.1), (6, .int x.2)] [] M) : WX C 7 17 [(0, .ref 28), (1, .int x1), (3, .int x3), (4, .long v.1), (6, .int v.2)] [] M := by
  unfold Co_addLetter_B17 at h
  refine x_iload hc dX0_addLetter_17 4 rfl ?_
  refine x_iload_n hc dX0_addLetter_19 rfl 2 rfl ?_
  refine x_icmp_gt (tgt := 57) hc dX0_addLetter_20 (by decide) (fun hb => ?_) (fun hb => ?_)
  · have h := ite_t hb h
    cases h
    exact x_sub (ke v.1 rfl) [0, 1, 2, 3] rfl
  · have h := ite_f hb h
    refine x_ldc2 hc dX0_addLetter_23 kD_RX0_80 ?_
    refine x_lload hc dX0_addLetter_26 3 rfl ?_
    refine x_aload_n hc dX0_addLetter_28 rfl 0 rfl ?_
    refine x_getR hc dX0_addLetter_29 fl_RX0_19 (q_s hSH sh_28) rfl ?_
    refine x_iload_n hc dX0_addLetter_32 rfl 2 rfl ?_
    refine x_iload hc dX0_addLetter_33 4 rfl ?_
    refine x_isub hc dX0_addLetter_35 ?_
    obtain ⟨b1, h⟩ := ck_some h
    refine x_lald hc dX0_addLetter_36 (q_s hSH sh_30) (inb_in b1) ?_
    refine x_aload_n hc dX0_addLetter_37 rfl 0 rfl ?_
    refine x_iload_n hc dX0_addLetter_38 rfl 1 rfl ?_
    refine x_iload hc dX0_addLetter_39 4 rfl ?_
    obtain ⟨q2, h2, h⟩ := bd_some h
    refine x_callVl (As := [.int x1, .int v.2]) (st := [.long (M.2 30 (x3 - v.2).toNatClampNeg), .long v.1, .long (1000000000 : Int64)]) (o := 28) hc dX0_addLetter_41 cv_X0_foundOf lk_RX0_29 (q_s hSH sh_28) rfl rfl (q_cn hSH (S_Co_foundOf h2)) (by decide) (Nat.le_of_ble_eq_true rfl) ?_
    refine x_lmul hc dX0_addLetter_44 ?_
    refine x_ladd hc dX0_addLetter_45 ?_
    refine x_mminL hc dX0_addLetter_46 mw_mminL lk_RX0_82 (by decide) (Nat.le_of_ble_eq_true rfl) ?_
    refine x_lstore (L2 := [(4, .long (if (v.1 + ((M.2 30 (x3 - v.2).toNatClampNeg) * q2)) < (1000000000 : Int64) then (v.1 + ((M.2 30 (x3 - v.2).toNatClampNeg) * q2)) else (1000000000 : Int64))), (0, .ref 28), (1, .int x1), (3, .int x3), (6, .int v.2)]) hc dX0_addLetter_49 (by decide) rfl ?_
    refine x_iinc (v := v.2 + (1 : Int32)) (L2 := [(6, .int (v.2 + (1 : Int32))), (4, .long (if (v.1 + ((M.2 30 (x3 - v.2).toNatClampNeg) * q2)) < (1000000000 : Int64) then (v.1 + ((M.2 30 (x3 - v.2).toNatClampNeg) * q2)) else (1000000000 : Int64))), (0, .ref 28), (1, .int x1), (3, .int x3)]) hc dX0_addLetter_51 4 rfl (by rw [kc_1]) (by decide) rfl ?_
    refine x_goto (tgt := 17) hc dX0_addLetter_54 (by decide) ?_
    cases h
    exact x_sub (kb (if (v.1 + ((M.2 30 (x3 - v.2).toNatClampNeg) * q2)) < (1000000000 : Int64) then (v.1 + ((M.2 30 (x3 - v.2).toNatClampNeg) * q2)) else (1000000000 : Int64), v.2 + (1 : Int32)) rfl) [2, 3, 4, 1, 0] rfl

theorem S_Co_addLetter_L17 {C : QC} (hc : OKX C RX0 cX0_addLetter 7 1 none) (hSH : q_SH C = SHK) (x1 : Int32) (x3 : Int32) (M : QM) {n : Nat} {v : Int64 × Int32} {e : Int64} (h : iter (Co_addLetter_B17 x1 x3 M) n v = some e) (ke : ∀ x : Int64, e = x → WX C 7 57 [(0, .ref 28), (1, .int x1), (3, .int x3), (4, .long x)] [] M) : WX C 7 17 [(0, .ref 28), (1, .int x1), (3, .int x3), (4, .long v.1), (6, .int v.2)] [] M :=
  iter_W (Wh := fun v => WX C 7 17 [(0, .ref 28), (1, .int x1), (3, .int x3), (4, .long v.1), (6, .int v.2)] [] M) (fun a res hB k1 k2 => S_Co_addLetter_B17 hc hSH x1 x3 M a hB (fun x hx => ke x (k1 _ hx).symm) k2) n v h

def Co_addLetter_B7 (x1 : Int32) (v : Int32 × QM) : Option ((QM) ⊕ (Int32 × QM)) :=
  (if v.1 < 0 then some (.inl v.2) else Option.bind (iter (Co_addLetter_B17 x1 v.1 v.2) FU ((0 : Int64), (1 : Int32))) (fun e3 => ck (inb v.1 13) (some (.inr (v.1 - (1 : Int32), u_l v.2 30 v.1.toNatClampNeg e3)))))

set_option maxRecDepth 20000 in
set_option maxHeartbeats 2000000 in
theorem S_Co_addLetter_B7 {C : QC} (hc : OKX C RX0 cX0_addLetter 7 1 none) (hSH : q_SH C = SHK) (x1 : Int32) (v : Int32 × QM) {res : (QM) ⊕ (Int32 × QM)} (h : Co_addLetter_B7 x1 v = some res) (ke : ∀ x : QM, res = .inl x → WX C 7 71 [] [] x) (kb : ∀ x : Int32 × QM, res = .inr x → WX C 7 7 [(0, .ref 28), (1, .int x1), (3, .int x.1)] [] x.2) : WX C 7 7 [(0, .ref 28), (1, .int x1), (3, .int v.1)] [] v.2 := by
  unfold Co_addLetter_B7 at h
  refine x_iload_n hc dX0_addLetter_7 rfl 2 rfl ?_
  refine x_if_lt (tgt := 71) hc dX0_addLetter_8 (by decide) (fun hb => ?_) (fun hb => ?_)
  · have h := ite_t hb h
    cases h
    exact x_sub (ke v.2 rfl) [] rfl
  · have h := ite_f hb h
    refine x_lconst hc dX0_addLetter_11 kl_0 ?_
    refine x_lstore (L2 := [(4, .long (0 : Int64)), (0, .ref 28), (1, .int x1), (3, .int v.1)]) hc dX0_addLetter_12 (by decide) rfl ?_
    refine x_iconst hc dX0_addLetter_14 kc_1 ?_
    refine x_istore (L2 := [(6, .int (1 : Int32)), (4, .long (0 : Int64)), (0, .ref 28), (1, .int x1), (3, .int v.1)]) hc dX0_addLetter_15 (by decide) rfl ?_
    obtain ⟨e3, h3, h⟩ := bd_some h
    refine x_sub (S_Co_addLetter_L17 hc hSH x1 v.1 v.2 (v := ((0 : Int64), (1 : Int32))) h3 (fun x hx => ?_)) [2, 3, 4, 1, 0] rfl
    subst hx
    refine x_aload_n hc dX0_addLetter_57 rfl 0 rfl ?_
    refine x_getR hc dX0_addLetter_58 fl_RX0_19 (q_s hSH sh_28) rfl ?_
    refine x_iload_n hc dX0_addLetter_61 rfl 2 rfl ?_
    refine x_lload hc dX0_addLetter_62 3 rfl ?_
    obtain ⟨b4, h⟩ := ck_some h
    refine x_last hc dX0_addLetter_64 (q_s hSH sh_30) (inb_in b4) ?_
    refine x_iinc (v := v.1 - (1 : Int32)) (L2 := [(3, .int (v.1 - (1 : Int32))), (0, .ref 28), (1, .int x1), (4, .long e3)]) hc dX0_addLetter_65 2 rfl (q_dec _) (by decide) rfl ?_
    refine x_goto (tgt := 7) hc dX0_addLetter_68 (by decide) ?_
    cases h
    exact x_sub (kb (v.1 - (1 : Int32), u_l v.2 30 v.1.toNatClampNeg e3) rfl) [1, 2, 0] rfl

theorem S_Co_addLetter_L7 {C : QC} (hc : OKX C RX0 cX0_addLetter 7 1 none) (hSH : q_SH C = SHK) (x1 : Int32) {n : Nat} {v : Int32 × QM} {e : QM} (h : iter (Co_addLetter_B7 x1) n v = some e) (ke : ∀ x : QM, e = x → WX C 7 71 [] [] x) : WX C 7 7 [(0, .ref 28), (1, .int x1), (3, .int v.1)] [] v.2 :=
  iter_W (Wh := fun v => WX C 7 7 [(0, .ref 28), (1, .int x1), (3, .int v.1)] [] v.2) (fun a res hB k1 k2 => S_Co_addLetter_B7 hc hSH x1 a hB (fun x hx => ke x (k1 _ hx).symm) k2) n v h

def Co_addLetter (p1 : Int32) (p2 : Int32) (M : QM) : Option (QM) :=
  Option.bind (iter (Co_addLetter_B7 p1) FU (if (12 : Int32) < p2 then (12 : Int32) else p2, M)) (fun e5 => some e5)

set_option maxRecDepth 20000 in
set_option maxHeartbeats 2000000 in
theorem S_Co_addLetter  {p1 : Int32} {p2 : Int32} {M : QM} {res : QM} (h : Co_addLetter p1 p2 M = some res) : Cn yX0_addLetter cX0_addLetter 7 none 1 SHK [.ref 28, .int p1, .int p2] M (none) res := by
  refine q_enter (L := [(0, .ref 28), (1, .int p1), (2, .int p2)]) (by decide) (Nat.le_of_ble_eq_true rfl) rfl ?_
  intro C hc hSH hr hM
  have hc : OKX C RX0 cX0_addLetter 7 1 none := hc
  unfold Co_addLetter at h
  refine x_iload_n hc dX0_addLetter_0 rfl 2 rfl ?_
  refine x_bipush hc dX0_addLetter_1 kb_12 ?_
  refine x_mmin hc dX0_addLetter_3 mw_mmin lk_RX0_39 (by decide) (Nat.le_of_ble_eq_true rfl) ?_
  refine x_istore_n (L2 := [(3, .int (if (12 : Int32) < p2 then (12 : Int32) else p2)), (0, .ref 28), (1, .int p1), (2, .int p2)]) hc dX0_addLetter_6 rfl (by decide) rfl ?_
  obtain ⟨e5, h5, h⟩ := bd_some h
  refine x_sub (S_Co_addLetter_L7 hc hSH p1 (v := (if (12 : Int32) < p2 then (12 : Int32) else p2, M)) h5 (fun x hx => ?_)) [1, 2, 0] rfl
  subst hx
  cases h
  exact x_vret hc dX0_addLetter_71 hr hM

def Co_listsOf_B23 (x1 : Int32) (x2 : Int32) (x3 : Int32) (M : QM) (v : Int64 × Int32) : Option ((Int64) ⊕ (Int64 × Int32)) :=
  (if x2 ≤ v.2 then some (.inl v.1) else Option.bind (Co_foundOf x3 v.2 M) (fun q2 => Option.bind (Co_foundOf x1 (x2 - v.2) M) (fun q3 => some (.inr (if (v.1 + (q2 * q3)) < (1000000000 : Int64) then (v.1 + (q2 * q3)) else (1000000000 : Int64), v.2 + (1 : Int32))))))

set_option maxRecDepth 20000 in
set_option maxHeartbeats 2000000 in
theorem S_Co_listsOf_B23 {C : QC} (hc : OKX C RX0 cX0_listsOf 7 1 (some .long)) (hSH : q_SH C = SHK) (x1 : Int32) (x2 : Int32) (x3 : Int32) (M : QM) (v : Int64 × Int32) {res : (Int64) ⊕ (Int64 × Int32)} (h : Co_listsOf_B23 x1 x2 x3 M v = some res) (ke : ∀ x : Int64, res = .inl x → WX C 7 63 [(4, .long x)] [] M) (kb : ∀ x : Int64 × Int32, res = .inr x → WX C 7 23 [(0, .ref 28), (1, .int x1), (2, .int x2), (3, .int x3), (4, .long x.1), (6, .int x.2)] [] M) : WX C 7 23 [(0, .ref 28), (1, .int x1), (2, .int x2), (3, .int x3), (4, .long v.1), (6, .int v.2)] [] M := by
  unfold Co_listsOf_B23 at h
  refine x_iload hc dX0_listsOf_23 5 rfl ?_
  refine x_iload_n hc dX0_listsOf_25 rfl 2 rfl ?_
  refine x_icmp_ge (tgt := 63) hc dX0_listsOf_26 (by decide) (fun hb => ?_) (fun hb => ?_)
  · have h := ite_t hb h
    cases h
    exact x_sub (ke v.1 rfl) [4] rfl
  · have h := ite_f hb h
    refine x_ldc2 hc dX0_listsOf_29 kD_RX0_80 ?_
    refine x_lload hc dX0_listsOf_32 4 rfl ?_
    refine x_aload_n hc dX0_listsOf_34 rfl 0 rfl ?_
    refine x_iload_n hc dX0_listsOf_35 rfl 3 rfl ?_
    refine x_iload hc dX0_listsOf_36 5 rfl ?_
    obtain ⟨q2, h2, h⟩ := bd_some h
    refine x_callVl (As := [.int x3, .int v.2]) (st := [.long v.1, .long (1000000000 : Int64)]) (o := 28) hc dX0_listsOf_38 cv_X0_foundOf lk_RX0_29 (q_s hSH sh_28) rfl rfl (q_cn hSH (S_Co_foundOf h2)) (by decide) (Nat.le_of_ble_eq_true rfl) ?_
    refine x_aload_n hc dX0_listsOf_41 rfl 0 rfl ?_
    refine x_iload_n hc dX0_listsOf_42 rfl 1 rfl ?_
    refine x_iload_n hc dX0_listsOf_43 rfl 2 rfl ?_
    refine x_iload hc dX0_listsOf_44 5 rfl ?_
    refine x_isub hc dX0_listsOf_46 ?_
    obtain ⟨q3, h3, h⟩ := bd_some h
    refine x_callVl (As := [.int x1, .int (x2 - v.2)]) (st := [.long q2, .long v.1, .long (1000000000 : Int64)]) (o := 28) hc dX0_listsOf_47 cv_X0_foundOf lk_RX0_29 (q_s hSH sh_28) rfl rfl (q_cn hSH (S_Co_foundOf h3)) (by decide) (Nat.le_of_ble_eq_true rfl) ?_
    refine x_lmul hc dX0_listsOf_50 ?_
    refine x_ladd hc dX0_listsOf_51 ?_
    refine x_mminL hc dX0_listsOf_52 mw_mminL lk_RX0_82 (by decide) (Nat.le_of_ble_eq_true rfl) ?_
    refine x_lstore (L2 := [(4, .long (if (v.1 + (q2 * q3)) < (1000000000 : Int64) then (v.1 + (q2 * q3)) else (1000000000 : Int64))), (0, .ref 28), (1, .int x1), (2, .int x2), (3, .int x3), (6, .int v.2)]) hc dX0_listsOf_55 (by decide) rfl ?_
    refine x_iinc (v := v.2 + (1 : Int32)) (L2 := [(6, .int (v.2 + (1 : Int32))), (4, .long (if (v.1 + (q2 * q3)) < (1000000000 : Int64) then (v.1 + (q2 * q3)) else (1000000000 : Int64))), (0, .ref 28), (1, .int x1), (2, .int x2), (3, .int x3)]) hc dX0_listsOf_57 5 rfl (by rw [kc_1]) (by decide) rfl ?_
    refine x_goto (tgt := 23) hc dX0_listsOf_60 (by decide) ?_
    cases h
    exact x_sub (kb (if (v.1 + (q2 * q3)) < (1000000000 : Int64) then (v.1 + (q2 * q3)) else (1000000000 : Int64), v.2 + (1 : Int32)) rfl) [2, 3, 4, 5, 1, 0] rfl

theorem S_Co_listsOf_L23 {C : QC} (hc : OKX C RX0 cX0_listsOf 7 1 (some .long)) (hSH : q_SH C = SHK) (x1 : Int32) (x2 : Int32) (x3 : Int32) (M : QM) {n : Nat} {v : Int64 × Int32} {e : Int64} (h : iter (Co_listsOf_B23 x1 x2 x3 M) n v = some e) (ke : ∀ x : Int64, e = x → WX C 7 63 [(4, .long x)] [] M) : WX C 7 23 [(0, .ref 28), (1, .int x1), (2, .int x2), (3, .int x3), (4, .long v.1), (6, .int v.2)] [] M :=
  iter_W (Wh := fun v => WX C 7 23 [(0, .ref 28), (1, .int x1), (2, .int x2), (3, .int x3), (4, .long v.1), (6, .int v.2)] [] M) (fun a res hB k1 k2 => S_Co_listsOf_B23 hc hSH x1 x2 x3 M a hB (fun x hx => ke x (k1 _ hx).symm) k2) n v h

def Co_listsOf (p1 : Int32) (p2 : Int32) (M : QM) : Option (Int64) :=
  (if p2 = (1 : Int32) then some (1 : Int64) else Option.bind (Ne_partAt p1 (0 : Int32) M) (fun q1 => Option.bind (iter (Co_listsOf_B23 p1 p2 q1 M) FU ((0 : Int64), (1 : Int32))) (fun e4 => some e4)))

set_option maxRecDepth 20000 in
set_option maxHeartbeats 2000000 in
theorem S_Co_listsOf  {p1 : Int32} {p2 : Int32} {M : QM} {res : Int64} (h : Co_listsOf p1 p2 M = some res) : Cn yX0_listsOf cX0_listsOf 7 (some .long) 1 SHK [.ref 28, .int p1, .int p2] M (some (.long res)) M := by
  refine q_enter (L := [(0, .ref 28), (1, .int p1), (2, .int p2)]) (by decide) (Nat.le_of_ble_eq_true rfl) rfl ?_
  intro C hc hSH hr hM
  have hc : OKX C RX0 cX0_listsOf 7 1 (some .long) := hc
  unfold Co_listsOf at h
  refine x_iload_n hc dX0_listsOf_0 rfl 2 rfl ?_
  refine x_iconst hc dX0_listsOf_1 kc_1 ?_
  refine x_icmp_ne (tgt := 7) hc dX0_listsOf_2 (by decide) (fun hb => ?_) (fun hb => ?_)
  · have h := ite_f hb h
    refine x_aload_n hc dX0_listsOf_7 rfl 0 rfl ?_
    refine x_getR hc dX0_listsOf_8 fl_RX0_9 (q_s hSH sh_28) rfl ?_
    refine x_iload_n hc dX0_listsOf_11 rfl 1 rfl ?_
    refine x_iconst hc dX0_listsOf_12 kc_0 ?_
    obtain ⟨q1, h1, h⟩ := bd_some h
    refine x_callVi (As := [.int p1, .int (0 : Int32)]) (st := []) (o := 3) hc dX0_listsOf_13 cv_X3_partAt lk_RX0_73 (q_s hSH sh_3) rfl rfl (q_cn hSH (S_Ne_partAt h1)) (by decide) (Nat.le_of_ble_eq_true rfl) ?_
    refine x_istore_n (L2 := [(3, .int q1), (0, .ref 28), (1, .int p1), (2, .int p2)]) hc dX0_listsOf_16 rfl (by decide) rfl ?_
    refine x_lconst hc dX0_listsOf_17 kl_0 ?_
    refine x_lstore (L2 := [(4, .long (0 : Int64)), (3, .int q1), (0, .ref 28), (1, .int p1), (2, .int p2)]) hc dX0_listsOf_18 (by decide) rfl ?_
    refine x_iconst hc dX0_listsOf_20 kc_1 ?_
    refine x_istore (L2 := [(6, .int (1 : Int32)), (4, .long (0 : Int64)), (3, .int q1), (0, .ref 28), (1, .int p1), (2, .int p2)]) hc dX0_listsOf_21 (by decide) rfl ?_
    obtain ⟨e4, h4, h⟩ := bd_some h
    refine x_sub (S_Co_listsOf_L23 hc hSH p1 p2 q1 M (v := ((0 : Int64), (1 : Int32))) h4 (fun x hx => ?_)) [3, 4, 5, 2, 1, 0] rfl
    subst hx
    refine x_lload hc dX0_listsOf_63 0 rfl ?_
    cases h
    exact x_lret hc dX0_listsOf_65 hr hM
  · have h := ite_t hb h
    refine x_lconst hc dX0_listsOf_5 kl_1 ?_
    cases h
    exact x_lret hc dX0_listsOf_6 hr hM

def Co_choicesOf_B5 (x1 : Int32) (x2 : Int32) (M : QM) (v : Int64 × Int32) : Option ((Int64) ⊕ (Int64 × Int32)) :=
  (if (8 : Int32) ≤ v.2 then some (.inl v.1) else Option.bind (Ne_partAt x1 v.2 M) (fun q1 => Option.bind (Co_foundOf q1 x2 M) (fun q2 => some (.inr (if (v.1 + q2) < (1000000000 : Int64) then (v.1 + q2) else (1000000000 : Int64), v.2 + (1 : Int32))))))

set_option maxRecDepth 20000 in
set_option maxHeartbeats 2000000 in
theorem S_Co_choicesOf_B5 {C : QC} (hc : OKX C RX0 cX0_choicesOf 6 1 (some .long)) (hSH : q_SH C = SHK) (x1 : Int32) (x2 : Int32) (M : QM) (v : Int64 × Int32) {res : (Int64) ⊕ (Int64 × Int32)} (h : Co_choicesOf_B5 x1 x2 M v = some res) (ke : ∀ x : Int64, res = .inl x → WX C 6 42 [(3, .long x)] [] M) (kb : ∀ x : Int64 × Int32, res = .inr x → WX C 6 5 [(0, .ref 28), (1, .int x1), (2, .int x2), (3, .long x.1), (5, .int x.2)] [] M) : WX C 6 5 [(0, .ref 28), (1, .int x1), (2, .int x2), (3, .long v.1), (5, .int v.2)] [] M := by
  unfold Co_choicesOf_B5 at h
  refine x_iload hc dX0_choicesOf_5 4 rfl ?_
  refine x_bipush hc dX0_choicesOf_7 kb_8 ?_
  refine x_icmp_ge (tgt := 42) hc dX0_choicesOf_9 (by decide) (fun hb => ?_) (fun hb => ?_)
  · have h := ite_t hb h
    cases h
    exact x_sub (ke v.1 rfl) [3] rfl
  · have h := ite_f hb h
    refine x_ldc2 hc dX0_choicesOf_12 kD_RX0_80 ?_
    refine x_lload_n hc dX0_choicesOf_15 rfl 3 rfl ?_
    refine x_aload_n hc dX0_choicesOf_16 rfl 0 rfl ?_
    refine x_aload_n hc dX0_choicesOf_17 rfl 0 rfl ?_
    refine x_getR hc dX0_choicesOf_18 fl_RX0_9 (q_s hSH sh_28) rfl ?_
    refine x_iload_n hc dX0_choicesOf_21 rfl 1 rfl ?_
    refine x_iload hc dX0_choicesOf_22 4 rfl ?_
    obtain ⟨q1, h1, h⟩ := bd_some h
    refine x_callVi (As := [.int x1, .int v.2]) (st := [.ref 28, .long v.1, .long (1000000000 : Int64)]) (o := 3) hc dX0_choicesOf_24 cv_X3_partAt lk_RX0_73 (q_s hSH sh_3) rfl rfl (q_cn hSH (S_Ne_partAt h1)) (by decide) (Nat.le_of_ble_eq_true rfl) ?_
    refine x_iload_n hc dX0_choicesOf_27 rfl 2 rfl ?_
    obtain ⟨q2, h2, h⟩ := bd_some h
    refine x_callVl (As := [.int q1, .int x2]) (st := [.long v.1, .long (1000000000 : Int64)]) (o := 28) hc dX0_choicesOf_28 cv_X0_foundOf lk_RX0_29 (q_s hSH sh_28) rfl rfl (q_cn hSH (S_Co_foundOf h2)) (by decide) (Nat.le_of_ble_eq_true rfl) ?_
    refine x_ladd hc dX0_choicesOf_31 ?_
    refine x_mminL hc dX0_choicesOf_32 mw_mminL lk_RX0_82 (by decide) (Nat.le_of_ble_eq_true rfl) ?_
    refine x_lstore_n (L2 := [(3, .long (if (v.1 + q2) < (1000000000 : Int64) then (v.1 + q2) else (1000000000 : Int64))), (0, .ref 28), (1, .int x1), (2, .int x2), (5, .int v.2)]) hc dX0_choicesOf_35 rfl (by decide) rfl ?_
    refine x_iinc (v := v.2 + (1 : Int32)) (L2 := [(5, .int (v.2 + (1 : Int32))), (3, .long (if (v.1 + q2) < (1000000000 : Int64) then (v.1 + q2) else (1000000000 : Int64))), (0, .ref 28), (1, .int x1), (2, .int x2)]) hc dX0_choicesOf_36 4 rfl (by rw [kc_1]) (by decide) rfl ?_
    refine x_goto (tgt := 5) hc dX0_choicesOf_39 (by decide) ?_
    cases h
    exact x_sub (kb (if (v.1 + q2) < (1000000000 : Int64) then (v.1 + q2) else (1000000000 : Int64), v.2 + (1 : Int32)) rfl) [2, 3, 4, 1, 0] rfl

theorem S_Co_choicesOf_L5 {C : QC} (hc : OKX C RX0 cX0_choicesOf 6 1 (some .long)) (hSH : q_SH C = SHK) (x1 : Int32) (x2 : Int32) (M : QM) {n : Nat} {v : Int64 × Int32} {e : Int64} (h : iter (Co_choicesOf_B5 x1 x2 M) n v = some e) (ke : ∀ x : Int64, e = x → WX C 6 42 [(3, .long x)] [] M) : WX C 6 5 [(0, .ref 28), (1, .int x1), (2, .int x2), (3, .long v.1), (5, .int v.2)] [] M :=
  iter_W (Wh := fun v => WX C 6 5 [(0, .ref 28), (1, .int x1), (2, .int x2), (3, .long v.1), (5, .int v.2)] [] M) (fun a res hB k1 k2 => S_Co_choicesOf_B5 hc hSH x1 x2 M a hB (fun x hx => ke x (k1 _ hx).symm) k2) n v h

def Co_choicesOf (p1 : Int32) (p2 : Int32) (M : QM) : Option (Int64) :=
  Option.bind (iter (Co_choicesOf_B5 p1 p2 M) FU ((0 : Int64), (0 : Int32))) (fun e3 => some e3)

set_option maxRecDepth 20000 in
set_option maxHeartbeats 2000000 in
theorem S_Co_choicesOf  {p1 : Int32} {p2 : Int32} {M : QM} {res : Int64} (h : Co_choicesOf p1 p2 M = some res) : Cn yX0_choicesOf cX0_choicesOf 6 (some .long) 1 SHK [.ref 28, .int p1, .int p2] M (some (.long res)) M := by
  refine q_enter (L := [(0, .ref 28), (1, .int p1), (2, .int p2)]) (by decide) (Nat.le_of_ble_eq_true rfl) rfl ?_
  intro C hc hSH hr hM
  have hc : OKX C RX0 cX0_choicesOf 6 1 (some .long) := hc
  unfold Co_choicesOf at h
  refine x_lconst hc dX0_choicesOf_0 kl_0 ?_
  refine x_lstore_n (L2 := [(3, .long (0 : Int64)), (0, .ref 28), (1, .int p1), (2, .int p2)]) hc dX0_choicesOf_1 rfl (by decide) rfl ?_
  refine x_iconst hc dX0_choicesOf_2 kc_0 ?_
  refine x_istore (L2 := [(5, .int (0 : Int32)), (3, .long (0 : Int64)), (0, .ref 28), (1, .int p1), (2, .int p2)]) hc dX0_choicesOf_3 (by decide) rfl ?_
  obtain ⟨e3, h3, h⟩ := bd_some h
  refine x_sub (S_Co_choicesOf_L5 hc hSH p1 p2 M (v := ((0 : Int64), (0 : Int32))) h3 (fun x hx => ?_)) [2, 3, 4, 1, 0] rfl
  subst hx
  refine x_lload_n hc dX0_choicesOf_42 rfl 0 rfl ?_
  cases h
  exact x_lret hc dX0_choicesOf_43 hr hM

def Fi_30_B6 (x1 : Int64) (x4 : Int32) (v : Int32 × QM) : Option ((QM) ⊕ (Int32 × QM)) :=
  (if x4 ≤ v.1 then some (.inl v.2) else ck (inb v.1 13) (some (.inr (v.1 + (1 : Int32), u_l v.2 30 v.1.toNatClampNeg x1))))

set_option maxRecDepth 20000 in
set_option maxHeartbeats 2000000 in
theorem S_Fi_30_B6 {C : QC} (hc : OKX C RJ7 cJ7_fill_d0a16 5 0 none) (hSH : q_SH C = SHK) (x1 : Int64) (x4 : Int32) (v : Int32 × QM) {res : (QM) ⊕ (Int32 × QM)} (h : Fi_30_B6 x1 x4 v = some res) (ke : ∀ x : QM, res = .inl x → WX C 5 22 [] [] x) (kb : ∀ x : Int32 × QM, res = .inr x → WX C 5 6 [(0, .ref 30), (1, .long x1), (3, .int x.1), (4, .int x4)] [] x.2) : WX C 5 6 [(0, .ref 30), (1, .long x1), (3, .int v.1), (4, .int x4)] [] v.2 := by
  unfold Fi_30_B6 at h
  refine x_iload_n hc dJ7_fill_d0a16_6 rfl 2 rfl ?_
  refine x_iload hc dJ7_fill_d0a16_7 3 rfl ?_
  refine x_icmp_ge (tgt := 22) hc dJ7_fill_d0a16_9 (by decide) (fun hb => ?_) (fun hb => ?_)
  · have h := ite_t hb h
    cases h
    exact x_sub (ke v.2 rfl) [] rfl
  · have h := ite_f hb h
    refine x_aload_n hc dJ7_fill_d0a16_12 rfl 0 rfl ?_
    refine x_iload_n hc dJ7_fill_d0a16_13 rfl 2 rfl ?_
    refine x_lload_n hc dJ7_fill_d0a16_14 rfl 1 rfl ?_
    obtain ⟨b1, h⟩ := ck_some h
    refine x_last hc dJ7_fill_d0a16_15 (q_s hSH sh_30) (inb_in b1) ?_
    refine x_iinc (v := v.1 + (1 : Int32)) (L2 := [(3, .int (v.1 + (1 : Int32))), (0, .ref 30), (1, .long x1), (4, .int x4)]) hc dJ7_fill_d0a16_16 2 rfl (by rw [kc_1]) (by decide) rfl ?_
    refine x_goto (tgt := 6) hc dJ7_fill_d0a16_19 (by decide) ?_
    cases h
    exact x_sub (kb (v.1 + (1 : Int32), u_l v.2 30 v.1.toNatClampNeg x1) rfl) [1, 2, 0, 3] rfl

theorem S_Fi_30_L6 {C : QC} (hc : OKX C RJ7 cJ7_fill_d0a16 5 0 none) (hSH : q_SH C = SHK) (x1 : Int64) (x4 : Int32) {n : Nat} {v : Int32 × QM} {e : QM} (h : iter (Fi_30_B6 x1 x4) n v = some e) (ke : ∀ x : QM, e = x → WX C 5 22 [] [] x) : WX C 5 6 [(0, .ref 30), (1, .long x1), (3, .int v.1), (4, .int x4)] [] v.2 :=
  iter_W (Wh := fun v => WX C 5 6 [(0, .ref 30), (1, .long x1), (3, .int v.1), (4, .int x4)] [] v.2) (fun a res hB k1 k2 => S_Fi_30_B6 hc hSH x1 x4 a hB (fun x hx => ke x (k1 _ hx).symm) k2) n v h

def Fi_30 (p1 : Int64) (M : QM) : Option (QM) :=
  Option.bind (iter (Fi_30_B6 p1 (Nat.toInt32 13)) FU ((0 : Int32), M)) (fun e2 => some e2)

set_option maxRecDepth 20000 in
set_option maxHeartbeats 2000000 in
theorem S_Fi_30  {p1 : Int64} {M : QM} {res : QM} (h : Fi_30 p1 M = some res) : Cn yJ7_fill_d0a16 cJ7_fill_d0a16 5 none 0 SHK [.ref 30, .long p1] M (none) res := by
  refine q_enter (L := [(0, .ref 30), (1, .long p1)]) (by decide) (Nat.le_of_ble_eq_true rfl) rfl ?_
  intro C hc hSH hr hM
  have hc : OKX C RJ7 cJ7_fill_d0a16 5 0 none := hc
  unfold Fi_30 at h
  refine x_iconst hc dJ7_fill_d0a16_0 kc_0 ?_
  refine x_istore_n (L2 := [(3, .int (0 : Int32)), (0, .ref 30), (1, .long p1)]) hc dJ7_fill_d0a16_1 rfl (by decide) rfl ?_
  refine x_aload_n hc dJ7_fill_d0a16_2 rfl 1 rfl ?_
  refine x_alenL hc dJ7_fill_d0a16_3 (q_s hSH sh_30) ?_
  refine x_istore (L2 := [(4, .int (Nat.toInt32 13)), (3, .int (0 : Int32)), (0, .ref 30), (1, .long p1)]) hc dJ7_fill_d0a16_4 (by decide) rfl ?_
  obtain ⟨e2, h2, h⟩ := bd_some h
  refine x_sub (S_Fi_30_L6 hc hSH p1 (Nat.toInt32 13) (v := ((0 : Int32), M)) h2 (fun x hx => ?_)) [2, 3, 1, 0] rfl
  subst hx
  cases h
  exact x_vret hc dJ7_fill_d0a16_22 hr hM

def Co_recordsOf_B29 (x1 : Int32) (x2 : Int32) (v : Int32 × QM) : Option ((QM) ⊕ (Int32 × QM)) :=
  (if (8 : Int32) ≤ v.1 then some (.inl v.2) else Option.bind (Ne_partAt x1 v.1 v.2) (fun q3 => (if q3 = (-6 : Int32) then some (.inr (v.1 + (1 : Int32), v.2)) else Option.bind (Co_addLetter q3 x2 v.2) (fun q4 => some (.inr (v.1 + (1 : Int32), q4))))))

set_option maxRecDepth 20000 in
set_option maxHeartbeats 2000000 in
theorem S_Co_recordsOf_B29 {C : QC} (hc : OKX C RX0 cX0_recordsOf 5 2 (some .long)) (hSH : q_SH C = SHK) (x1 : Int32) (x2 : Int32) (v : Int32 × QM) {res : (QM) ⊕ (Int32 × QM)} (h : Co_recordsOf_B29 x1 x2 v = some res) (ke : ∀ x : QM, res = .inl x → WX C 5 66 [(0, .ref 28), (2, .int x2)] [] x) (kb : ∀ x : Int32 × QM, res = .inr x → WX C 5 29 [(0, .ref 28), (1, .int x1), (2, .int x2), (3, .int x.1)] [] x.2) : WX C 5 29 [(0, .ref 28), (1, .int x1), (2, .int x2), (3, .int v.1)] [] v.2 := by
  unfold Co_recordsOf_B29 at h
  refine x_iload_n hc dX0_recordsOf_29 rfl 3 rfl ?_
  refine x_bipush hc dX0_recordsOf_30 kb_8 ?_
  refine x_icmp_ge (tgt := 66) hc dX0_recordsOf_32 (by decide) (fun hb => ?_) (fun hb => ?_)
  · have h := ite_t hb h
    cases h
    exact x_sub (ke v.2 rfl) [0, 2] rfl
  · have h := ite_f hb h
    refine x_aload_n hc dX0_recordsOf_35 rfl 0 rfl ?_
    refine x_getR hc dX0_recordsOf_36 fl_RX0_9 (q_s hSH sh_28) rfl ?_
    refine x_iload_n hc dX0_recordsOf_39 rfl 1 rfl ?_
    refine x_iload_n hc dX0_recordsOf_40 rfl 3 rfl ?_
    obtain ⟨q3, h3, h⟩ := bd_some h
    refine x_callVi (As := [.int x1, .int v.1]) (st := []) (o := 3) hc dX0_recordsOf_41 cv_X3_partAt lk_RX0_73 (q_s hSH sh_3) rfl rfl (q_cn hSH (S_Ne_partAt h3)) (by decide) (Nat.le_of_ble_eq_true rfl) ?_
    refine x_istore (L2 := [(4, .int q3), (0, .ref 28), (1, .int x1), (2, .int x2), (3, .int v.1)]) hc dX0_recordsOf_44 (by decide) rfl ?_
    refine x_iload hc dX0_recordsOf_46 0 rfl ?_
    refine x_bipush hc dX0_recordsOf_48 kb_m6 ?_
    refine x_icmp_eq (tgt := 60) hc dX0_recordsOf_50 (by decide) (fun hb => ?_) (fun hb => ?_)
    · have h := ite_t hb h
      refine x_iinc (v := v.1 + (1 : Int32)) (L2 := [(3, .int (v.1 + (1 : Int32))), (4, .int q3), (0, .ref 28), (1, .int x1), (2, .int x2)]) hc dX0_recordsOf_60 4 rfl (by rw [kc_1]) (by decide) rfl ?_
      refine x_goto (tgt := 29) hc dX0_recordsOf_63 (by decide) ?_
      cases h
      exact x_sub (kb (v.1 + (1 : Int32), v.2) rfl) [2, 3, 4, 0] rfl
    · have h := ite_f hb h
      refine x_aload_n hc dX0_recordsOf_53 rfl 1 rfl ?_
      refine x_iload hc dX0_recordsOf_54 0 rfl ?_
      refine x_iload_n hc dX0_recordsOf_56 rfl 3 rfl ?_
      obtain ⟨q4, h4, h⟩ := bd_some h
      refine x_callVv (As := [.int q3, .int x2]) (st := []) (o := 28) hc dX0_recordsOf_57 cv_X0_addLetter lk_RX0_76 (q_s hSH sh_28) rfl rfl (q_cn hSH (S_Co_addLetter h4)) (by decide) (Nat.le_of_ble_eq_true rfl) ?_
      refine x_iinc (v := v.1 + (1 : Int32)) (L2 := [(3, .int (v.1 + (1 : Int32))), (4, .int q3), (0, .ref 28), (1, .int x1), (2, .int x2)]) hc dX0_recordsOf_60 4 rfl (by rw [kc_1]) (by decide) rfl ?_
      refine x_goto (tgt := 29) hc dX0_recordsOf_63 (by decide) ?_
      cases h
      exact x_sub (kb (v.1 + (1 : Int32), q4) rfl) [2, 3, 4, 0] rfl

theorem S_Co_recordsOf_L29 {C : QC} (hc : OKX C RX0 cX0_recordsOf 5 2 (some .long)) (hSH : q_SH C = SHK) (x1 : Int32) (x2 : Int32) {n : Nat} {v : Int32 × QM} {e : QM} (h : iter (Co_recordsOf_B29 x1 x2) n v = some e) (ke : ∀ x : QM, e = x → WX C 5 66 [(0, .ref 28), (2, .int x2)] [] x) : WX C 5 29 [(0, .ref 28), (1, .int x1), (2, .int x2), (3, .int v.1)] [] v.2 :=
  iter_W (Wh := fun v => WX C 5 29 [(0, .ref 28), (1, .int x1), (2, .int x2), (3, .int v.1)] [] v.2) (fun a res hB k1 k2 => S_Co_recordsOf_B29 hc hSH x1 x2 a hB (fun x hx => ke x (k1 _ hx).symm) k2) n v h

def Co_recordsOf (p1 : Int32) (p2 : Int32) (M : QM) : Option (Int64 × QM) :=
  (if p2 < 0 then some ((0 : Int64), M) else (if p2 ≤ (12 : Int32) then Option.bind (Fi_30 (0 : Int64) M) (fun q1 => ck (inb (0 : Int32) 13) (Option.bind (iter (Co_recordsOf_B29 p1 p2) FU ((0 : Int32), u_l q1 30 (0 : Int32).toNatClampNeg (1 : Int64))) (fun e5 => ck (inb p2 13) (some (e5.2 30 p2.toNatClampNeg, e5))))) else some ((0 : Int64), M)))

set_option maxRecDepth 20000 in
set_option maxHeartbeats 2000000 in
theorem S_Co_recordsOf  {p1 : Int32} {p2 : Int32} {M : QM} {res : Int64 × QM} (h : Co_recordsOf p1 p2 M = some res) : Cn yX0_recordsOf cX0_recordsOf 5 (some .long) 2 SHK [.ref 28, .int p1, .int p2] M (some (.long res.1)) res.2 := by
  refine q_enter (L := [(0, .ref 28), (1, .int p1), (2, .int p2)]) (by decide) (Nat.le_of_ble_eq_true rfl) rfl ?_
  intro C hc hSH hr hM
  have hc : OKX C RX0 cX0_recordsOf 5 2 (some .long) := hc
  unfold Co_recordsOf at h
  refine x_iload_n hc dX0_recordsOf_0 rfl 2 rfl ?_
  refine x_if_lt (tgt := 10) hc dX0_recordsOf_1 (by decide) (fun hb => ?_) (fun hb => ?_)
  · have h := ite_t hb h
    refine x_lconst hc dX0_recordsOf_10 kl_0 ?_
    cases h
    exact x_lret hc dX0_recordsOf_11 hr hM
  · have h := ite_f hb h
    refine x_iload_n hc dX0_recordsOf_4 rfl 2 rfl ?_
    refine x_bipush hc dX0_recordsOf_5 kb_12 ?_
    refine x_icmp_le (tgt := 12) hc dX0_recordsOf_7 (by decide) (fun hb => ?_) (fun hb => ?_)
    · have h := ite_t hb h
      refine x_aload_n hc dX0_recordsOf_12 rfl 0 rfl ?_
      refine x_getR hc dX0_recordsOf_13 fl_RX0_19 (q_s hSH sh_28) rfl ?_
      refine x_lconst hc dX0_recordsOf_16 kl_0 ?_
      obtain ⟨q1, h1, h⟩ := bd_some h
      refine x_callSv (As := [.ref 30, .long (0 : Int64)]) (st := []) hc dX0_recordsOf_17 cs_J7_fill_d0a16 lk_RX0_67 rfl (q_cn hSH (S_Fi_30 h1)) (by decide) (Nat.le_of_ble_eq_true rfl) ?_
      refine x_aload_n hc dX0_recordsOf_20 rfl 0 rfl ?_
      refine x_getR hc dX0_recordsOf_21 fl_RX0_19 (q_s hSH sh_28) rfl ?_
      refine x_iconst hc dX0_recordsOf_24 kc_0 ?_
      refine x_lconst hc dX0_recordsOf_25 kl_1 ?_
      obtain ⟨b2, h⟩ := ck_some h
      refine x_last hc dX0_recordsOf_26 (q_s hSH sh_30) (inb_in b2) ?_
      refine x_iconst hc dX0_recordsOf_27 kc_0 ?_
      refine x_istore_n (L2 := [(3, .int (0 : Int32)), (0, .ref 28), (1, .int p1), (2, .int p2)]) hc dX0_recordsOf_28 rfl (by decide) rfl ?_
      obtain ⟨e5, h5, h⟩ := bd_some h
      refine x_sub (S_Co_recordsOf_L29 hc hSH p1 p2 (v := ((0 : Int32), u_l q1 30 (0 : Int32).toNatClampNeg (1 : Int64))) h5 (fun x hx => ?_)) [1, 2, 3, 0] rfl
      subst hx
      refine x_aload_n hc dX0_recordsOf_66 rfl 0 rfl ?_
      refine x_getR hc dX0_recordsOf_67 fl_RX0_19 (q_s hSH sh_28) rfl ?_
      refine x_iload_n hc dX0_recordsOf_70 rfl 1 rfl ?_
      obtain ⟨b6, h⟩ := ck_some h
      refine x_lald hc dX0_recordsOf_71 (q_s hSH sh_30) (inb_in b6) ?_
      cases h
      exact x_lret hc dX0_recordsOf_72 hr hM
    · have h := ite_f hb h
      refine x_lconst hc dX0_recordsOf_10 kl_0 ?_
      cases h
      exact x_lret hc dX0_recordsOf_11 hr hM

def Co_valuesBySmaller (p1 : Int32) (p2 : Int32) (M : QM) : Option (Int64 × QM) :=
  Option.bind (Ne_signOf p1 M) (fun q1 => (if q1 = 42 then Option.bind (Co_listsOf p1 p2 M) (fun q2 => some (q2, M)) else if q1 = 91 then Option.bind (Co_choicesOf p1 (p2 - (1 : Int32)) M) (fun q4 => some (q4, M)) else if q1 = 110 then (if p2 = (1 : Int32) then some ((10 : Int64), M) else some ((0 : Int64), M)) else if q1 = 115 then (if p2 = (1 : Int32) then some ((26 : Int64), M) else some ((0 : Int64), M)) else if q1 = 116 then (if p2 = (1 : Int32) then some ((2 : Int64), M) else some ((0 : Int64), M)) else if q1 = 123 then Option.bind (Co_recordsOf p1 (p2 - (1 : Int32)) M) (fun q9 => some (q9.1, q9.2)) else some ((0 : Int64), M)))

set_option maxRecDepth 20000 in
set_option maxHeartbeats 2000000 in
theorem S_Co_valuesBySmaller  {p1 : Int32} {p2 : Int32} {M : QM} {res : Int64 × QM} (h : Co_valuesBySmaller p1 p2 M = some res) : Cn yX0_valuesBySmaller cX0_valuesBySmaller 3 (some .long) 3 SHK [.ref 28, .int p1, .int p2] M (some (.long res.1)) res.2 := by
  refine q_enter (L := [(0, .ref 28), (1, .int p1), (2, .int p2)]) (by decide) (Nat.le_of_ble_eq_true rfl) rfl ?_
  intro C hc hSH hr hM
  have hc : OKX C RX0 cX0_valuesBySmaller 3 3 (some .long) := hc
  unfold Co_valuesBySmaller at h
  refine x_aload_n hc dX0_valuesBySmaller_0 rfl 0 rfl ?_
  refine x_getR hc dX0_valuesBySmaller_1 fl_RX0_9 (q_s hSH sh_28) rfl ?_
  refine x_iload_n hc dX0_valuesBySmaller_4 rfl 1 rfl ?_
  obtain ⟨q1, h1, h⟩ := bd_some h
  refine x_callVi (As := [.int p1]) (st := []) (o := 3) hc dX0_valuesBySmaller_5 cv_X3_signOf lk_RX0_48 (q_s hSH sh_3) rfl rfl (q_cn hSH (S_Ne_signOf h1)) (by decide) (Nat.le_of_ble_eq_true rfl) ?_
  by_cases s3 : q1 = 42
  · have h := ite_t s3 h
    refine x_lookup (off := 117) (tgt := 125) hc dX0_valuesBySmaller_8 (by decide) (q_hit s3 (by decide)) (by decide) ?_
    refine x_aload_n hc dX0_valuesBySmaller_125 rfl 0 rfl ?_
    refine x_iload_n hc dX0_valuesBySmaller_126 rfl 1 rfl ?_
    refine x_iload_n hc dX0_valuesBySmaller_127 rfl 2 rfl ?_
    obtain ⟨q2, h2, h⟩ := bd_some h
    refine x_callVl (As := [.int p1, .int p2]) (st := []) (o := 28) hc dX0_valuesBySmaller_128 cv_X0_listsOf lk_RX0_64 (q_s hSH sh_28) rfl rfl (q_cn hSH (S_Co_listsOf h2)) (by decide) (Nat.le_of_ble_eq_true rfl) ?_
    cases h
    exact x_lret hc dX0_valuesBySmaller_131 hr hM
  · have h := ite_f s3 h
    by_cases s5 : q1 = 91
    · have h := ite_t s5 h
      refine x_lookup (off := 108) (tgt := 116) hc dX0_valuesBySmaller_8 (by decide) ((lv_osw s3 (by decide)).trans (q_hit s5 (by decide))) (by decide) ?_
      refine x_aload_n hc dX0_valuesBySmaller_116 rfl 0 rfl ?_
      refine x_iload_n hc dX0_valuesBySmaller_117 rfl 1 rfl ?_
      refine x_iload_n hc dX0_valuesBySmaller_118 rfl 2 rfl ?_
      refine x_iconst hc dX0_valuesBySmaller_119 kc_1 ?_
      refine x_isub hc dX0_valuesBySmaller_120 ?_
      obtain ⟨q4, h4, h⟩ := bd_some h
      refine x_callVl (As := [.int p1, .int (p2 - (1 : Int32))]) (st := []) (o := 28) hc dX0_valuesBySmaller_121 cv_X0_choicesOf lk_RX0_61 (q_s hSH sh_28) rfl rfl (q_cn hSH (S_Co_choicesOf h4)) (by decide) (Nat.le_of_ble_eq_true rfl) ?_
      cases h
      exact x_lret hc dX0_valuesBySmaller_124 hr hM
    · have h := ite_f s5 h
      by_cases s6 : q1 = 110
      · have h := ite_t s6 h
        refine x_lookup (off := 60) (tgt := 68) hc dX0_valuesBySmaller_8 (by decide) ((lv_osw s3 (by decide)).trans ((lv_osw s5 (by decide)).trans (q_hit s6 (by decide)))) (by decide) ?_
        refine x_iload_n hc dX0_valuesBySmaller_68 rfl 2 rfl ?_
        refine x_iconst hc dX0_valuesBySmaller_69 kc_1 ?_
        refine x_icmp_ne (tgt := 79) hc dX0_valuesBySmaller_70 (by decide) (fun hb => ?_) (fun hb => ?_)
        · have h := ite_f hb h
          refine x_lconst hc dX0_valuesBySmaller_79 kl_0 ?_
          cases h
          exact x_lret hc dX0_valuesBySmaller_80 hr hM
        · have h := ite_t hb h
          refine x_ldc2 hc dX0_valuesBySmaller_73 kD_RX0_52 ?_
          refine x_goto (tgt := 80) hc dX0_valuesBySmaller_76 (by decide) ?_
          cases h
          exact x_lret hc dX0_valuesBySmaller_80 hr hM
      · have h := ite_f s6 h
        by_cases s7 : q1 = 115
        · have h := ite_t s7 h
          refine x_lookup (off := 86) (tgt := 94) hc dX0_valuesBySmaller_8 (by decide) ((lv_osw s3 (by decide)).trans ((lv_osw s5 (by decide)).trans ((lv_osw s6 (by decide)).trans (q_hit s7 (by decide))))) (by decide) ?_
          refine x_iload_n hc dX0_valuesBySmaller_94 rfl 2 rfl ?_
          refine x_iconst hc dX0_valuesBySmaller_95 kc_1 ?_
          refine x_icmp_ne (tgt := 105) hc dX0_valuesBySmaller_96 (by decide) (fun hb => ?_) (fun hb => ?_)
          · have h := ite_f hb h
            refine x_lconst hc dX0_valuesBySmaller_105 kl_0 ?_
            cases h
            exact x_lret hc dX0_valuesBySmaller_106 hr hM
          · have h := ite_t hb h
            refine x_ldc2 hc dX0_valuesBySmaller_99 kD_RX0_56 ?_
            refine x_goto (tgt := 106) hc dX0_valuesBySmaller_102 (by decide) ?_
            cases h
            exact x_lret hc dX0_valuesBySmaller_106 hr hM
        · have h := ite_f s7 h
          by_cases s8 : q1 = 116
          · have h := ite_t s8 h
            refine x_lookup (off := 73) (tgt := 81) hc dX0_valuesBySmaller_8 (by decide) ((lv_osw s3 (by decide)).trans ((lv_osw s5 (by decide)).trans ((lv_osw s6 (by decide)).trans ((lv_osw s7 (by decide)).trans (q_hit s8 (by decide)))))) (by decide) ?_
            refine x_iload_n hc dX0_valuesBySmaller_81 rfl 2 rfl ?_
            refine x_iconst hc dX0_valuesBySmaller_82 kc_1 ?_
            refine x_icmp_ne (tgt := 92) hc dX0_valuesBySmaller_83 (by decide) (fun hb => ?_) (fun hb => ?_)
            · have h := ite_f hb h
              refine x_lconst hc dX0_valuesBySmaller_92 kl_0 ?_
              cases h
              exact x_lret hc dX0_valuesBySmaller_93 hr hM
            · have h := ite_t hb h
              refine x_ldc2 hc dX0_valuesBySmaller_86 kD_RX0_54 ?_
              refine x_goto (tgt := 93) hc dX0_valuesBySmaller_89 (by decide) ?_
              cases h
              exact x_lret hc dX0_valuesBySmaller_93 hr hM
          · have h := ite_f s8 h
            by_cases s10 : q1 = 123
            · have h := ite_t s10 h
              refine x_lookup (off := 99) (tgt := 107) hc dX0_valuesBySmaller_8 (by decide) ((lv_osw s3 (by decide)).trans ((lv_osw s5 (by decide)).trans ((lv_osw s6 (by decide)).trans ((lv_osw s7 (by decide)).trans ((lv_osw s8 (by decide)).trans (q_hit s10 (by decide))))))) (by decide) ?_
              refine x_aload_n hc dX0_valuesBySmaller_107 rfl 0 rfl ?_
              refine x_iload_n hc dX0_valuesBySmaller_108 rfl 1 rfl ?_
              refine x_iload_n hc dX0_valuesBySmaller_109 rfl 2 rfl ?_
              refine x_iconst hc dX0_valuesBySmaller_110 kc_1 ?_
              refine x_isub hc dX0_valuesBySmaller_111 ?_
              obtain ⟨q9, h9, h⟩ := bd_some h
              refine x_callVl (As := [.int p1, .int (p2 - (1 : Int32))]) (st := []) (o := 28) hc dX0_valuesBySmaller_112 cv_X0_recordsOf lk_RX0_58 (q_s hSH sh_28) rfl rfl (q_cn hSH (S_Co_recordsOf h9)) (by decide) (Nat.le_of_ble_eq_true rfl) ?_
              cases h
              exact x_lret hc dX0_valuesBySmaller_115 hr hM
            · have h := ite_f s10 h
              refine x_lookup (off := 124) (tgt := 132) hc dX0_valuesBySmaller_8 (by decide) ((lv_osw s3 (by decide)).trans ((lv_osw s5 (by decide)).trans ((lv_osw s6 (by decide)).trans ((lv_osw s7 (by decide)).trans ((lv_osw s8 (by decide)).trans ((lv_osw s10 (by decide)).trans rfl)))))) (by decide) ?_
              refine x_lconst hc dX0_valuesBySmaller_132 kl_0 ?_
              cases h
              exact x_lret hc dX0_valuesBySmaller_133 hr hM

def Co_catchUp_B42 (x1 : Int32) (x2 : Int32) (v : Int32 × QM) : Option ((QM) ⊕ (Int32 × QM)) :=
  (if x1 ≤ v.1 then some (.inl v.2) else Option.bind (Co_valuesBySmaller v.1 x2 v.2) (fun q2 => ck (inb ((v.1 * (13 : Int32)) + x2) 780) (some (.inr (v.1 + (1 : Int32), u_l q2.2 29 ((v.1 * (13 : Int32)) + x2).toNatClampNeg q2.1)))))

set_option maxRecDepth 20000 in
set_option maxHeartbeats 2000000 in
theorem S_Co_catchUp_B42 {C : QC} (hc : OKX C RX0 cX0_catchUp 4 4 none) (hSH : q_SH C = SHK) (x1 : Int32) (x2 : Int32) (v : Int32 × QM) {res : (QM) ⊕ (Int32 × QM)} (h : Co_catchUp_B42 x1 x2 v = some res) (ke : ∀ x : QM, res = .inl x → WX C 4 70 [(0, .ref 28), (1, .int x1), (2, .int x2)] [] x) (kb : ∀ x : Int32 × QM, res = .inr x → WX C 4 42 [(0, .ref 28), (1, .int x1), (2, .int x2), (3, .int x.1)] [] x.2) : WX C 4 42 [(0, .ref 28), (1, .int x1), (2, .int x2), (3, .int v.1)] [] v.2 := by
  unfold Co_catchUp_B42 at h
  refine x_iload_n hc dX0_catchUp_42 rfl 3 rfl ?_
  refine x_iload_n hc dX0_catchUp_43 rfl 1 rfl ?_
  refine x_icmp_ge (tgt := 70) hc dX0_catchUp_44 (by decide) (fun hb => ?_) (fun hb => ?_)
  · have h := ite_t hb h
    cases h
    exact x_sub (ke v.2 rfl) [0, 1, 2] rfl
  · have h := ite_f hb h
    refine x_aload_n hc dX0_catchUp_47 rfl 0 rfl ?_
    refine x_getR hc dX0_catchUp_48 fl_RX0_15 (q_s hSH sh_28) rfl ?_
    refine x_iload_n hc dX0_catchUp_51 rfl 3 rfl ?_
    refine x_bipush hc dX0_catchUp_52 kb_13 ?_
    refine x_imul hc dX0_catchUp_54 ?_
    refine x_iload_n hc dX0_catchUp_55 rfl 2 rfl ?_
    refine x_iadd hc dX0_catchUp_56 ?_
    refine x_aload_n hc dX0_catchUp_57 rfl 0 rfl ?_
    refine x_iload_n hc dX0_catchUp_58 rfl 3 rfl ?_
    refine x_iload_n hc dX0_catchUp_59 rfl 2 rfl ?_
    obtain ⟨q2, h2, h⟩ := bd_some h
    refine x_callVl (As := [.int v.1, .int x2]) (st := [.int ((v.1 * (13 : Int32)) + x2), .ref 29]) (o := 28) hc dX0_catchUp_60 cv_X0_valuesBySmaller lk_RX0_45 (q_s hSH sh_28) rfl rfl (q_cn hSH (S_Co_valuesBySmaller h2)) (by decide) (Nat.le_of_ble_eq_true rfl) ?_
    obtain ⟨b3, h⟩ := ck_some h
    refine x_last hc dX0_catchUp_63 (q_s hSH sh_29) (inb_in b3) ?_
    refine x_iinc (v := v.1 + (1 : Int32)) (L2 := [(3, .int (v.1 + (1 : Int32))), (0, .ref 28), (1, .int x1), (2, .int x2)]) hc dX0_catchUp_64 3 rfl (by rw [kc_1]) (by decide) rfl ?_
    refine x_goto (tgt := 42) hc dX0_catchUp_67 (by decide) ?_
    cases h
    exact x_sub (kb (v.1 + (1 : Int32), u_l q2.2 29 ((v.1 * (13 : Int32)) + x2).toNatClampNeg q2.1) rfl) [1, 2, 3, 0] rfl

theorem S_Co_catchUp_L42 {C : QC} (hc : OKX C RX0 cX0_catchUp 4 4 none) (hSH : q_SH C = SHK) (x1 : Int32) (x2 : Int32) {n : Nat} {v : Int32 × QM} {e : QM} (h : iter (Co_catchUp_B42 x1 x2) n v = some e) (ke : ∀ x : QM, e = x → WX C 4 70 [(0, .ref 28), (1, .int x1), (2, .int x2)] [] x) : WX C 4 42 [(0, .ref 28), (1, .int x1), (2, .int x2), (3, .int v.1)] [] v.2 :=
  iter_W (Wh := fun v => WX C 4 42 [(0, .ref 28), (1, .int x1), (2, .int x2), (3, .int v.1)] [] v.2) (fun a res hB k1 k2 => S_Co_catchUp_B42 hc hSH x1 x2 a hB (fun x hx => ke x (k1 _ hx).symm) k2) n v h

def Co_catchUp_B31 (x1 : Int32) (v : Int32 × QM) : Option ((QM) ⊕ (Int32 × QM)) :=
  (if (12 : Int32) < v.1 then some (.inl v.2) else Option.bind (iter (Co_catchUp_B42 x1 v.1) FU (v.2.1 28 3, v.2)) (fun e4 => some (.inr (v.1 + (1 : Int32), e4))))

set_option maxRecDepth 20000 in
set_option maxHeartbeats 2000000 in
theorem S_Co_catchUp_B31 {C : QC} (hc : OKX C RX0 cX0_catchUp 4 4 none) (hSH : q_SH C = SHK) (x1 : Int32) (v : Int32 × QM) {res : (QM) ⊕ (Int32 × QM)} (h : Co_catchUp_B31 x1 v = some res) (ke : ∀ x : QM, res = .inl x → WX C 4 76 [(0, .ref 28), (1, .int x1)] [] x) (kb : ∀ x : Int32 × QM, res = .inr x → WX C 4 31 [(0, .ref 28), (1, .int x1), (2, .int x.1)] [] x.2) : WX C 4 31 [(0, .ref 28), (1, .int x1), (2, .int v.1)] [] v.2 := by
  unfold Co_catchUp_B31 at h
  refine x_iload_n hc dX0_catchUp_31 rfl 2 rfl ?_
  refine x_bipush hc dX0_catchUp_32 kb_12 ?_
  refine x_icmp_gt (tgt := 76) hc dX0_catchUp_34 (by decide) (fun hb => ?_) (fun hb => ?_)
  · have h := ite_t hb h
    cases h
    exact x_sub (ke v.2 rfl) [0, 1] rfl
  · have h := ite_f hb h
    refine x_aload_n hc dX0_catchUp_37 rfl 0 rfl ?_
    refine x_getI hc dX0_catchUp_38 fl_RX0_22 (q_s hSH sh_28) rfl ?_
    refine x_istore_n (L2 := [(3, .int (v.2.1 28 3)), (0, .ref 28), (1, .int x1), (2, .int v.1)]) hc dX0_catchUp_41 rfl (by decide) rfl ?_
    obtain ⟨e4, h4, h⟩ := bd_some h
    refine x_sub (S_Co_catchUp_L42 hc hSH x1 v.1 (v := (v.2.1 28 3, v.2)) h4 (fun x hx => ?_)) [1, 2, 3, 0] rfl
    subst hx
    refine x_iinc (v := v.1 + (1 : Int32)) (L2 := [(2, .int (v.1 + (1 : Int32))), (0, .ref 28), (1, .int x1)]) hc dX0_catchUp_70 2 rfl (by rw [kc_1]) (by decide) rfl ?_
    refine x_goto (tgt := 31) hc dX0_catchUp_73 (by decide) ?_
    cases h
    exact x_sub (kb (v.1 + (1 : Int32), e4) rfl) [1, 2, 0] rfl

theorem S_Co_catchUp_L31 {C : QC} (hc : OKX C RX0 cX0_catchUp 4 4 none) (hSH : q_SH C = SHK) (x1 : Int32) {n : Nat} {v : Int32 × QM} {e : QM} (h : iter (Co_catchUp_B31 x1) n v = some e) (ke : ∀ x : QM, e = x → WX C 4 76 [(0, .ref 28), (1, .int x1)] [] x) : WX C 4 31 [(0, .ref 28), (1, .int x1), (2, .int v.1)] [] v.2 :=
  iter_W (Wh := fun v => WX C 4 31 [(0, .ref 28), (1, .int x1), (2, .int v.1)] [] v.2) (fun a res hB k1 k2 => S_Co_catchUp_B31 hc hSH x1 a hB (fun x hx => ke x (k1 _ hx).symm) k2) n v h

def Co_catchUp (M : QM) : Option (QM) :=
  Option.bind (Ne_nodes M) (fun q1 => (if (M.1 28 3) < 0 then some M else (if (M.1 28 3) < (if (60 : Int32) < q1 then (60 : Int32) else q1) then Option.bind (iter (Co_catchUp_B31 (if (60 : Int32) < q1 then (60 : Int32) else q1)) FU ((1 : Int32), M)) (fun e5 => some (u_i e5 28 3 (if (60 : Int32) < q1 then (60 : Int32) else q1))) else some M)))

set_option maxRecDepth 20000 in
set_option maxHeartbeats 2000000 in
theorem S_Co_catchUp  {M : QM} {res : QM} (h : Co_catchUp M = some res) : Cn yX0_catchUp cX0_catchUp 4 none 4 SHK [.ref 28] M (none) res := by
  refine q_enter (L := [(0, .ref 28)]) (by decide) (Nat.le_of_ble_eq_true rfl) rfl ?_
  intro C hc hSH hr hM
  have hc : OKX C RX0 cX0_catchUp 4 4 none := hc
  unfold Co_catchUp at h
  refine x_aload_n hc dX0_catchUp_0 rfl 0 rfl ?_
  refine x_getR hc dX0_catchUp_1 fl_RX0_9 (q_s hSH sh_28) rfl ?_
  obtain ⟨q1, h1, h⟩ := bd_some h
  refine x_callVi (As := []) (st := []) (o := 3) hc dX0_catchUp_4 cv_X3_nodes lk_RX0_33 (q_s hSH sh_3) rfl rfl (q_cn hSH (S_Ne_nodes h1)) (by decide) (Nat.le_of_ble_eq_true rfl) ?_
  refine x_bipush hc dX0_catchUp_7 kb_60 ?_
  refine x_mmin hc dX0_catchUp_9 mw_mmin lk_RX0_39 (by decide) (Nat.le_of_ble_eq_true rfl) ?_
  refine x_istore_n (L2 := [(1, .int (if (60 : Int32) < q1 then (60 : Int32) else q1)), (0, .ref 28)]) hc dX0_catchUp_12 rfl (by decide) rfl ?_
  refine x_aload_n hc dX0_catchUp_13 rfl 1 rfl ?_
  refine x_getI hc dX0_catchUp_14 fl_RX0_22 (q_s hSH sh_28) rfl ?_
  refine x_if_lt (tgt := 28) hc dX0_catchUp_17 (by decide) (fun hb => ?_) (fun hb => ?_)
  · have h := ite_t hb h
    cases h
    exact x_vret hc dX0_catchUp_28 hr hM
  · have h := ite_f hb h
    refine x_aload_n hc dX0_catchUp_20 rfl 1 rfl ?_
    refine x_getI hc dX0_catchUp_21 fl_RX0_22 (q_s hSH sh_28) rfl ?_
    refine x_iload_n hc dX0_catchUp_24 rfl 0 rfl ?_
    refine x_icmp_lt (tgt := 29) hc dX0_catchUp_25 (by decide) (fun hb => ?_) (fun hb => ?_)
    · have h := ite_t hb h
      refine x_iconst hc dX0_catchUp_29 kc_1 ?_
      refine x_istore_n (L2 := [(2, .int (1 : Int32)), (1, .int (if (60 : Int32) < q1 then (60 : Int32) else q1)), (0, .ref 28)]) hc dX0_catchUp_30 rfl (by decide) rfl ?_
      obtain ⟨e5, h5, h⟩ := bd_some h
      refine x_sub (S_Co_catchUp_L31 hc hSH (if (60 : Int32) < q1 then (60 : Int32) else q1) (v := ((1 : Int32), M)) h5 (fun x hx => ?_)) [2, 1, 0] rfl
      subst hx
      refine x_aload_n hc dX0_catchUp_76 rfl 0 rfl ?_
      refine x_iload_n hc dX0_catchUp_77 rfl 1 rfl ?_
      refine x_putI hc dX0_catchUp_78 fl_RX0_22 (fw_0_3 _) (q_s hSH sh_28) rfl ?_
      cases h
      exact x_vret hc dX0_catchUp_81 hr hM
    · have h := ite_f hb h
      cases h
      exact x_vret hc dX0_catchUp_28 hr hM

def Co_forget (M : QM) : Option (QM) :=
  some (u_i M 28 3 (0 : Int32))

set_option maxRecDepth 20000 in
set_option maxHeartbeats 2000000 in
theorem S_Co_forget  {M : QM} {res : QM} (h : Co_forget M = some res) : Cn yX0_forget cX0_forget 1 none 0 SHK [.ref 28] M (none) res := by
  refine q_enter (L := [(0, .ref 28)]) (by decide) (Nat.le_of_ble_eq_true rfl) rfl ?_
  intro C hc hSH hr hM
  have hc : OKX C RX0 cX0_forget 1 0 none := hc
  unfold Co_forget at h
  refine x_aload_n hc dX0_forget_0 rfl 0 rfl ?_
  refine x_iconst hc dX0_forget_1 kc_0 ?_
  refine x_putI hc dX0_forget_2 fl_RX0_22 (fw_0_3 _) (q_s hSH sh_28) rfl ?_
  cases h
  exact x_vret hc dX0_forget_5 hr hM

def Co_valuesOf (p1 : Int32) (p2 : Int32) (M : QM) : Option (Int32 × QM) :=
  Option.bind (Co_catchUp M) (fun q1 => Option.bind (Co_foundOf p1 p2 q1) (fun q2 => some (q2.toInt32, q1)))

set_option maxRecDepth 20000 in
set_option maxHeartbeats 2000000 in
theorem S_Co_valuesOf  {p1 : Int32} {p2 : Int32} {M : QM} {res : Int32 × QM} (h : Co_valuesOf p1 p2 M = some res) : Cn yX0_valuesOf cX0_valuesOf 3 (some .int) 5 SHK [.ref 28, .int p1, .int p2] M (some (.int res.1)) res.2 := by
  refine q_enter (L := [(0, .ref 28), (1, .int p1), (2, .int p2)]) (by decide) (Nat.le_of_ble_eq_true rfl) rfl ?_
  intro C hc hSH hr hM
  have hc : OKX C RX0 cX0_valuesOf 3 5 (some .int) := hc
  unfold Co_valuesOf at h
  refine x_aload_n hc dX0_valuesOf_0 rfl 0 rfl ?_
  obtain ⟨q1, h1, h⟩ := bd_some h
  refine x_callVv (As := []) (st := []) (o := 28) hc dX0_valuesOf_1 cv_X0_catchUp lk_RX0_26 (q_s hSH sh_28) rfl rfl (q_cn hSH (S_Co_catchUp h1)) (by decide) (Nat.le_of_ble_eq_true rfl) ?_
  refine x_aload_n hc dX0_valuesOf_4 rfl 0 rfl ?_
  refine x_iload_n hc dX0_valuesOf_5 rfl 1 rfl ?_
  refine x_iload_n hc dX0_valuesOf_6 rfl 2 rfl ?_
  obtain ⟨q2, h2, h⟩ := bd_some h
  refine x_callVl (As := [.int p1, .int p2]) (st := []) (o := 28) hc dX0_valuesOf_7 cv_X0_foundOf lk_RX0_29 (q_s hSH sh_28) rfl rfl (q_cn hSH (S_Co_foundOf h2)) (by decide) (Nat.le_of_ble_eq_true rfl) ?_
  refine x_l2i hc dX0_valuesOf_10 ?_
  cases h
  exact x_iret hc dX0_valuesOf_11 hr hM

