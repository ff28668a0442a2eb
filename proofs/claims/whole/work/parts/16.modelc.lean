def Mo_waitFor (p1 : Int32) (p2 : Int32) (p3 : Int32) (p4 : Int32) (M : QM) : Option (QM) :=
  ck (inb (M.1 0 21) 600) (ck (inb ((u_i M 15 (M.1 0 21).toNatClampNeg (((2 : Int32) * (((60 : Int32) * p1) + p2)) + p3)).1 0 21) 600) (some (u_i (u_i (u_i M 15 (M.1 0 21).toNatClampNeg (((2 : Int32) * (((60 : Int32) * p1) + p2)) + p3)) 16 ((u_i M 15 (M.1 0 21).toNatClampNeg (((2 : Int32) * (((60 : Int32) * p1) + p2)) + p3)).1 0 21).toNatClampNeg p4) 0 21 (((u_i (u_i M 15 (M.1 0 21).toNatClampNeg (((2 : Int32) * (((60 : Int32) * p1) + p2)) + p3)) 16 ((u_i M 15 (M.1 0 21).toNatClampNeg (((2 : Int32) * (((60 : Int32) * p1) + p2)) + p3)).1 0 21).toNatClampNeg p4).1 0 21) + (1 : Int32)))))

set_option maxRecDepth 20000 in
set_option maxHeartbeats 2000000 in
theorem S_Mo_waitFor  {p1 : Int32} {p2 : Int32} {p3 : Int32} {p4 : Int32} {M : QM} {res : QM} (h : Mo_waitFor p1 p2 p3 p4 M = some res) : Cn yX9_waitFor cX9_waitFor 5 none 0 SHM [.ref 0, .int p1, .int p2, .int p3, .int p4] M (none) res := by
  refine q_enter (L := [(0, .ref 0), (1, .int p1), (2, .int p2), (3, .int p3), (4, .int p4)]) (by decide) (Nat.le_of_ble_eq_true rfl) rfl ?_
  intro C hc hSH hr hM
  have hc : OKX C RX9 cX9_waitFor 5 0 none := hc
  unfold Mo_waitFor at h
  refine x_aload_n hc dX9_waitFor_0 rfl 0 rfl ?_
  refine x_getR hc dX9_waitFor_1 fl_RX9_53 (q_s hSH sm_0) rfl ?_
  refine x_aload_n hc dX9_waitFor_4 rfl 0 rfl ?_
  refine x_getI hc dX9_waitFor_5 fl_RX9_157 (q_s hSH sm_0) rfl ?_
  refine x_iconst hc dX9_waitFor_8 kc_2 ?_
  refine x_bipush hc dX9_waitFor_9 kb_60 ?_
  refine x_iload_n hc dX9_waitFor_11 rfl 1 rfl ?_
  refine x_imul hc dX9_waitFor_12 ?_
  refine x_iload_n hc dX9_waitFor_13 rfl 2 rfl ?_
  refine x_iadd hc dX9_waitFor_14 ?_
  refine x_imul hc dX9_waitFor_15 ?_
  refine x_iload_n hc dX9_waitFor_16 rfl 3 rfl ?_
  refine x_iadd hc dX9_waitFor_17 ?_
  obtain ⟨b1, h⟩ := ck_some h
  refine x_iast hc dX9_waitFor_18 (q_s hSH sm_15) (inb_in b1) ?_
  refine x_aload_n hc dX9_waitFor_19 rfl 0 rfl ?_
  refine x_getR hc dX9_waitFor_20 fl_RX9_56 (q_s hSH sm_0) rfl ?_
  refine x_aload_n hc dX9_waitFor_23 rfl 0 rfl ?_
  refine x_getI hc dX9_waitFor_24 fl_RX9_157 (q_s hSH sm_0) rfl ?_
  refine x_iload hc dX9_waitFor_27 4 rfl ?_
  obtain ⟨b2, h⟩ := ck_some h
  refine x_iast hc dX9_waitFor_29 (q_s hSH sm_16) (inb_in b2) ?_
  refine x_aload_n hc dX9_waitFor_30 rfl 0 rfl ?_
  refine x_dup hc dX9_waitFor_31 rfl ?_
  refine x_getI hc dX9_waitFor_32 fl_RX9_157 (q_s hSH sm_0) rfl ?_
  refine x_iconst hc dX9_waitFor_35 kc_1 ?_
  refine x_iadd hc dX9_waitFor_36 ?_
  refine x_putI hc dX9_waitFor_37 fl_RX9_157 (fw_9_21 _) (q_s hSH sm_0) rfl ?_
  cases h
  exact x_vret hc dX9_waitFor_40 hr hM

def Mo_plain_J40 (x1 : Int32) (x2 : Int32) (x3 : Int32) (x4 : Int32) (x5 : Int32) (M : QM) : Option (Int32) :=
  (if x4 = 0 then (if x5 = 0 then some (-6 : Int32) else (if x3 = 0 then some x1 else some x2)) else (if x3 = 0 then some x2 else some x1))

set_option maxRecDepth 20000 in
set_option maxHeartbeats 2000000 in
theorem S_Mo_plain_J40 {C : QC} (hc : OKX C RX9 cX9_plain 6 0 (some .int)) (hSH : q_SH C = SHM) (x1 : Int32) (x2 : Int32) (x3 : Int32) (x4 : Int32) (x5 : Int32) (M : QM) {res : Int32} (h : Mo_plain_J40 x1 x2 x3 x4 x5 M = some res) (hr : q_r C = some (.int res)) (hM : q_M C = M) : WX C 6 40 [(1, .int x1), (2, .int x2), (3, .int x3), (4, .int x4), (5, .int x5)] [] M := by
  unfold Mo_plain_J40 at h
  refine x_iload hc dX9_plain_40 3 rfl ?_
  refine x_if_eq (tgt := 57) hc dX9_plain_42 (by decide) (fun hb => ?_) (fun hb => ?_)
  · have h := ite_t hb h
    refine x_iload hc dX9_plain_57 4 rfl ?_
    refine x_if_eq (tgt := 74) hc dX9_plain_59 (by decide) (fun hb => ?_) (fun hb => ?_)
    · have h := ite_t hb h
      refine x_bipush hc dX9_plain_74 kb_m6 ?_
      cases h
      exact x_iret hc dX9_plain_76 hr hM
    · have h := ite_f hb h
      refine x_iload_n hc dX9_plain_62 rfl 2 rfl ?_
      refine x_if_ne (tgt := 70) hc dX9_plain_63 (by decide) (fun hb => ?_) (fun hb => ?_)
      · have h := ite_f hb h
        refine x_iload_n hc dX9_plain_70 rfl 1 rfl ?_
        refine x_goto (tgt := 76) hc dX9_plain_71 (by decide) ?_
        cases h
        exact x_iret hc dX9_plain_76 hr hM
      · have h := ite_t hb h
        refine x_iload_n hc dX9_plain_66 rfl 0 rfl ?_
        refine x_goto (tgt := 76) hc dX9_plain_67 (by decide) ?_
        cases h
        exact x_iret hc dX9_plain_76 hr hM
  · have h := ite_f hb h
    refine x_iload_n hc dX9_plain_45 rfl 2 rfl ?_
    refine x_if_ne (tgt := 53) hc dX9_plain_46 (by decide) (fun hb => ?_) (fun hb => ?_)
    · have h := ite_f hb h
      refine x_iload_n hc dX9_plain_53 rfl 0 rfl ?_
      refine x_goto (tgt := 76) hc dX9_plain_54 (by decide) ?_
      cases h
      exact x_iret hc dX9_plain_76 hr hM
    · have h := ite_t hb h
      refine x_iload_n hc dX9_plain_49 rfl 1 rfl ?_
      refine x_goto (tgt := 76) hc dX9_plain_50 (by decide) ?_
      cases h
      exact x_iret hc dX9_plain_76 hr hM

def Mo_plain (p1 : Int32) (p2 : Int32) (p3 : Int32) (M : QM) : Option (Int32) :=
  ck (inb (((60 : Int32) * p1) + p2) 3600) (ck (inb (((60 : Int32) * p2) + p1) 3600) ((if (M.1 11 (((60 : Int32) * p1) + p2).toNatClampNeg) = 0 then Mo_plain_J40 p1 p2 p3 (M.1 11 (((60 : Int32) * p1) + p2).toNatClampNeg) (M.1 11 (((60 : Int32) * p2) + p1).toNatClampNeg) M else (if (M.1 11 (((60 : Int32) * p2) + p1).toNatClampNeg) = 0 then Mo_plain_J40 p1 p2 p3 (M.1 11 (((60 : Int32) * p1) + p2).toNatClampNeg) (M.1 11 (((60 : Int32) * p2) + p1).toNatClampNeg) M else some p1))))

set_option maxRecDepth 20000 in
set_option maxHeartbeats 2000000 in
theorem S_Mo_plain  {p1 : Int32} {p2 : Int32} {p3 : Int32} {M : QM} {res : Int32} (h : Mo_plain p1 p2 p3 M = some res) : Cn yX9_plain cX9_plain 6 (some .int) 0 SHM [.ref 0, .int p1, .int p2, .int p3] M (some (.int res)) M := by
  refine q_enter (L := [(0, .ref 0), (1, .int p1), (2, .int p2), (3, .int p3)]) (by decide) (Nat.le_of_ble_eq_true rfl) rfl ?_
  intro C hc hSH hr hM
  have hc : OKX C RX9 cX9_plain 6 0 (some .int) := hc
  unfold Mo_plain at h
  refine x_aload_n hc dX9_plain_0 rfl 0 rfl ?_
  refine x_getR hc dX9_plain_1 fl_RX9_40 (q_s hSH sm_0) rfl ?_
  refine x_bipush hc dX9_plain_4 kb_60 ?_
  refine x_iload_n hc dX9_plain_6 rfl 1 rfl ?_
  refine x_imul hc dX9_plain_7 ?_
  refine x_iload_n hc dX9_plain_8 rfl 2 rfl ?_
  refine x_iadd hc dX9_plain_9 ?_
  obtain ⟨b1, h⟩ := ck_some h
  refine x_zald hc dX9_plain_10 (q_s hSH sm_11) (inb_in b1) ?_
  refine x_istore (L2 := [(4, .int (M.1 11 (((60 : Int32) * p1) + p2).toNatClampNeg)), (0, .ref 0), (1, .int p1), (2, .int p2), (3, .int p3)]) hc dX9_plain_11 (by decide) rfl ?_
  refine x_aload_n hc dX9_plain_13 rfl 1 rfl ?_
  refine x_getR hc dX9_plain_14 fl_RX9_40 (q_s hSH sm_0) rfl ?_
  refine x_bipush hc dX9_plain_17 kb_60 ?_
  refine x_iload_n hc dX9_plain_19 rfl 3 rfl ?_
  refine x_imul hc dX9_plain_20 ?_
  refine x_iload_n hc dX9_plain_21 rfl 2 rfl ?_
  refine x_iadd hc dX9_plain_22 ?_
  obtain ⟨b2, h⟩ := ck_some h
  refine x_zald hc dX9_plain_23 (q_s hSH sm_11) (inb_in b2) ?_
  refine x_istore (L2 := [(5, .int (M.1 11 (((60 : Int32) * p2) + p1).toNatClampNeg)), (4, .int (M.1 11 (((60 : Int32) * p1) + p2).toNatClampNeg)), (0, .ref 0), (1, .int p1), (2, .int p2), (3, .int p3)]) hc dX9_plain_24 (by decide) rfl ?_
  refine x_iload hc dX9_plain_26 1 rfl ?_
  refine x_if_eq (tgt := 40) hc dX9_plain_28 (by decide) (fun hb => ?_) (fun hb => ?_)
  · have h := ite_t hb h
    exact x_sub (S_Mo_plain_J40 hc hSH p1 p2 p3 (M.1 11 (((60 : Int32) * p1) + p2).toNatClampNeg) (M.1 11 (((60 : Int32) * p2) + p1).toNatClampNeg) M h hr hM) [3, 4, 5, 1, 0] rfl
  · have h := ite_f hb h
    refine x_iload hc dX9_plain_31 0 rfl ?_
    refine x_if_eq (tgt := 40) hc dX9_plain_33 (by decide) (fun hb => ?_) (fun hb => ?_)
    · have h := ite_t hb h
      exact x_sub (S_Mo_plain_J40 hc hSH p1 p2 p3 (M.1 11 (((60 : Int32) * p1) + p2).toNatClampNeg) (M.1 11 (((60 : Int32) * p2) + p1).toNatClampNeg) M h hr hM) [3, 4, 5, 1, 0] rfl
    · have h := ite_f hb h
      refine x_iload_n hc dX9_plain_36 rfl 3 rfl ?_
      refine x_goto (tgt := 76) hc dX9_plain_37 (by decide) ?_
      cases h
      exact x_iret hc dX9_plain_76 hr hM

def Mo_shape_B93 (x1 : Int32) (x2 : Int32) (x3 : Int32) (x4 : Int32) (x5 : Int32) (x6 : Int32) (v : Int32 × QM) : Option ((QM) ⊕ (Int32 × QM)) :=
  (if (8 : Int32) ≤ v.1 then some (.inl v.2) else ck (inb (((8 : Int32) * x4) + v.1) 480) (some (.inr (v.1 + (1 : Int32), u_i v.2 3 (((8 : Int32) * x4) + v.1).toNatClampNeg (-6 : Int32)))))

set_option maxRecDepth 20000 in
set_option maxHeartbeats 2000000 in
theorem S_Mo_shape_B93 {C : QC} (hc : OKX C RX9 cX9_shape 11 1 none) (hSH : q_SH C = SHM) (x1 : Int32) (x2 : Int32) (x3 : Int32) (x4 : Int32) (x5 : Int32) (x6 : Int32) (v : Int32 × QM) {res : (QM) ⊕ (Int32 × QM)} (h : Mo_shape_B93 x1 x2 x3 x4 x5 x6 v = some res) (ke : ∀ x : QM, res = .inl x → WX C 11 121 [(0, .ref 0), (1, .int x1), (2, .int x2), (3, .int x3), (4, .int x4), (5, .int x5), (6, .int x6)] [] x) (kb : ∀ x : Int32 × QM, res = .inr x → WX C 11 93 [(0, .ref 0), (1, .int x1), (2, .int x2), (3, .int x3), (4, .int x4), (5, .int x5), (6, .int x6), (7, .int x.1)] [] x.2) : WX C 11 93 [(0, .ref 0), (1, .int x1), (2, .int x2), (3, .int x3), (4, .int x4), (5, .int x5), (6, .int x6), (7, .int v.1)] [] v.2 := by
  unfold Mo_shape_B93 at h
  refine x_iload hc dX9_shape_93 7 rfl ?_
  refine x_bipush hc dX9_shape_95 kb_8 ?_
  refine x_icmp_ge (tgt := 121) hc dX9_shape_97 (by decide) (fun hb => ?_) (fun hb => ?_)
  · have h := ite_t hb h
    cases h
    exact x_sub (ke v.2 rfl) [0, 1, 2, 3, 4, 5, 6] rfl
  · have h := ite_f hb h
    refine x_aload_n hc dX9_shape_100 rfl 0 rfl ?_
    refine x_getR hc dX9_shape_101 fl_RX9_16 (q_s hSH sm_0) rfl ?_
    refine x_bipush hc dX9_shape_104 kb_8 ?_
    refine x_iload hc dX9_shape_106 4 rfl ?_
    refine x_imul hc dX9_shape_108 ?_
    refine x_iload hc dX9_shape_109 7 rfl ?_
    refine x_iadd hc dX9_shape_111 ?_
    refine x_bipush hc dX9_shape_112 kb_m6 ?_
    obtain ⟨b4, h⟩ := ck_some h
    refine x_iast hc dX9_shape_114 (q_s hSH sm_3) (inb_in b4) ?_
    refine x_iinc (v := v.1 + (1 : Int32)) (L2 := [(7, .int (v.1 + (1 : Int32))), (0, .ref 0), (1, .int x1), (2, .int x2), (3, .int x3), (4, .int x4), (5, .int x5), (6, .int x6)]) hc dX9_shape_115 7 rfl (by rw [kc_1]) (by decide) rfl ?_
    refine x_goto (tgt := 93) hc dX9_shape_118 (by decide) ?_
    cases h
    exact x_sub (kb (v.1 + (1 : Int32), u_i v.2 3 (((8 : Int32) * x4) + v.1).toNatClampNeg (-6 : Int32)) rfl) [1, 2, 3, 4, 5, 6, 7, 0] rfl

theorem S_Mo_shape_L93 {C : QC} (hc : OKX C RX9 cX9_shape 11 1 none) (hSH : q_SH C = SHM) (x1 : Int32) (x2 : Int32) (x3 : Int32) (x4 : Int32) (x5 : Int32) (x6 : Int32) {n : Nat} {v : Int32 × QM} {e : QM} (h : iter (Mo_shape_B93 x1 x2 x3 x4 x5 x6) n v = some e) (ke : ∀ x : QM, e = x → WX C 11 121 [(0, .ref 0), (1, .int x1), (2, .int x2), (3, .int x3), (4, .int x4), (5, .int x5), (6, .int x6)] [] x) : WX C 11 93 [(0, .ref 0), (1, .int x1), (2, .int x2), (3, .int x3), (4, .int x4), (5, .int x5), (6, .int x6), (7, .int v.1)] [] v.2 :=
  iter_W (Wh := fun v => WX C 11 93 [(0, .ref 0), (1, .int x1), (2, .int x2), (3, .int x3), (4, .int x4), (5, .int x5), (6, .int x6), (7, .int v.1)] [] v.2) (fun a res hB k1 k2 => S_Mo_shape_B93 hc hSH x1 x2 x3 x4 x5 x6 a hB (fun x hx => ke x (k1 _ hx).symm) k2) n v h

def Mo_shape_L273_J365 (x1 : Int32) (x2 : Int32) (x3 : Int32) (x4 : Int32) (x7 : Int32) (x8 : Int32) (s0 : Int32) (s1 : Int32) (M : QM) : Option ((QM) ⊕ (Int32 × QM)) :=
  ck (inb s1 480) (some (.inr (x8 - (1 : Int32), u_i M 3 s1.toNatClampNeg s0)))

set_option maxRecDepth 20000 in
set_option maxHeartbeats 2000000 in
theorem S_Mo_shape_L273_J365 {C : QC} (hc : OKX C RX9 cX9_shape 11 1 none) (hSH : q_SH C = SHM) (x1 : Int32) (x2 : Int32) (x3 : Int32) (x4 : Int32) (x7 : Int32) (x8 : Int32) (s0 : Int32) (s1 : Int32) (M : QM) {res : (QM) ⊕ (Int32 × QM)} (h : Mo_shape_L273_J365 x1 x2 x3 x4 x7 x8 s0 s1 M = some res) (ke : ∀ x : QM, res = .inl x → WX C 11 372 [] [] x) (kb : ∀ x : Int32 × QM, res = .inr x → WX C 11 273 [(0, .ref 0), (1, .int x1), (2, .int x2), (3, .int x3), (4, .int x4), (7, .int x7), (8, .int x.1)] [] x.2) : WX C 11 365 [(0, .ref 0), (1, .int x1), (2, .int x2), (3, .int x3), (4, .int x4), (7, .int x7), (8, .int x8)] [.int s0, .int s1, .ref 3] M := by
  unfold Mo_shape_L273_J365 at h
  obtain ⟨b8, h⟩ := ck_some h
  refine x_iast hc dX9_shape_365 (q_s hSH sm_3) (inb_in b8) ?_
  refine x_iinc (v := x8 - (1 : Int32)) (L2 := [(8, .int (x8 - (1 : Int32))), (0, .ref 0), (1, .int x1), (2, .int x2), (3, .int x3), (4, .int x4), (7, .int x7)]) hc dX9_shape_366 6 rfl (q_dec _) (by decide) rfl ?_
  refine x_goto (tgt := 273) hc dX9_shape_369 (by decide) ?_
  cases h
  exact x_sub (kb (x8 - (1 : Int32), u_i M 3 s1.toNatClampNeg s0) rfl) [1, 2, 3, 4, 5, 6, 0] rfl

def Mo_shape_L273_J336 (x1 : Int32) (x2 : Int32) (x3 : Int32) (x4 : Int32) (x7 : Int32) (x8 : Int32) (x9 : Int32) (x10 : Int32) (M : QM) : Option ((QM) ⊕ (Int32 × QM)) :=
  (if x7 = 0 then some (.inr (x8 - (1 : Int32), M)) else (if x9 < 0 then Mo_shape_L273_J365 x1 x2 x3 x4 x7 x8 x10 (((8 : Int32) * x4) + x8) M else Mo_shape_L273_J365 x1 x2 x3 x4 x7 x8 x9 (((8 : Int32) * x4) + x8) M))

set_option maxRecDepth 20000 in
set_option maxHeartbeats 2000000 in
theorem S_Mo_shape_L273_J336 {C : QC} (hc : OKX C RX9 cX9_shape 11 1 none) (hSH : q_SH C = SHM) (x1 : Int32) (x2 : Int32) (x3 : Int32) (x4 : Int32) (x7 : Int32) (x8 : Int32) (x9 : Int32) (x10 : Int32) (M : QM) {res : (QM) ⊕ (Int32 × QM)} (h : Mo_shape_L273_J336 x1 x2 x3 x4 x7 x8 x9 x10 M = some res) (ke : ∀ x : QM, res = .inl x → WX C 11 372 [] [] x) (kb : ∀ x : Int32 × QM, res = .inr x → WX C 11 273 [(0, .ref 0), (1, .int x1), (2, .int x2), (3, .int x3), (4, .int x4), (7, .int x7), (8, .int x.1)] [] x.2) : WX C 11 336 [(0, .ref 0), (1, .int x1), (2, .int x2), (3, .int x3), (4, .int x4), (7, .int x7), (8, .int x8), (9, .int x9), (10, .int x10)] [] M := by
  unfold Mo_shape_L273_J336 at h
  refine x_iload hc dX9_shape_336 5 rfl ?_
  refine x_if_eq (tgt := 366) hc dX9_shape_338 (by decide) (fun hb => ?_) (fun hb => ?_)
  · have h := ite_t hb h
    refine x_iinc (v := x8 - (1 : Int32)) (L2 := [(8, .int (x8 - (1 : Int32))), (0, .ref 0), (1, .int x1), (2, .int x2), (3, .int x3), (4, .int x4), (7, .int x7), (9, .int x9), (10, .int x10)]) hc dX9_shape_366 6 rfl (q_dec _) (by decide) rfl ?_
    refine x_goto (tgt := 273) hc dX9_shape_369 (by decide) ?_
    cases h
    exact x_sub (kb (x8 - (1 : Int32), M) rfl) [1, 2, 3, 4, 5, 6, 0] rfl
  · have h := ite_f hb h
    refine x_aload_n hc dX9_shape_341 rfl 0 rfl ?_
    refine x_getR hc dX9_shape_342 fl_RX9_16 (q_s hSH sm_0) rfl ?_
    refine x_bipush hc dX9_shape_345 kb_8 ?_
    refine x_iload hc dX9_shape_347 4 rfl ?_
    refine x_imul hc dX9_shape_349 ?_
    refine x_iload hc dX9_shape_350 6 rfl ?_
    refine x_iadd hc dX9_shape_352 ?_
    refine x_iload hc dX9_shape_353 7 rfl ?_
    refine x_if_lt (tgt := 363) hc dX9_shape_355 (by decide) (fun hb => ?_) (fun hb => ?_)
    · have h := ite_t hb h
      refine x_iload hc dX9_shape_363 8 rfl ?_
      exact x_sub (S_Mo_shape_L273_J365 hc hSH x1 x2 x3 x4 x7 x8 x10 (((8 : Int32) * x4) + x8) M h ke kb) [0, 1, 2, 3, 4, 5, 6] rfl
    · have h := ite_f hb h
      refine x_iload hc dX9_shape_358 7 rfl ?_
      refine x_goto (tgt := 365) hc dX9_shape_360 (by decide) ?_
      exact x_sub (S_Mo_shape_L273_J365 hc hSH x1 x2 x3 x4 x7 x8 x9 (((8 : Int32) * x4) + x8) M h ke kb) [0, 1, 2, 3, 4, 5, 6] rfl

def Mo_shape_B273 (x1 : Int32) (x2 : Int32) (x3 : Int32) (x4 : Int32) (x7 : Int32) (v : Int32 × QM) : Option ((QM) ⊕ (Int32 × QM)) :=
  (if v.1 < 0 then some (.inl v.2) else ck (inb (((8 : Int32) * x1) + v.1) 480) (ck (inb (((8 : Int32) * x2) + v.1) 480) ((if (v.2.1 3 (((8 : Int32) * x1) + v.1).toNatClampNeg) < 0 then Mo_shape_L273_J336 x1 x2 x3 x4 x7 v.1 (v.2.1 3 (((8 : Int32) * x1) + v.1).toNatClampNeg) (v.2.1 3 (((8 : Int32) * x2) + v.1).toNatClampNeg) v.2 else (if (v.2.1 3 (((8 : Int32) * x2) + v.1).toNatClampNeg) < 0 then Mo_shape_L273_J336 x1 x2 x3 x4 x7 v.1 (v.2.1 3 (((8 : Int32) * x1) + v.1).toNatClampNeg) (v.2.1 3 (((8 : Int32) * x2) + v.1).toNatClampNeg) v.2 else Option.bind (Mo_waitFor (v.2.1 3 (((8 : Int32) * x1) + v.1).toNatClampNeg) (v.2.1 3 (((8 : Int32) * x2) + v.1).toNatClampNeg) x3 (((8 : Int32) * x4) + v.1) v.2) (fun q9 => some (.inr (v.1 - (1 : Int32), q9))))))))

set_option maxRecDepth 20000 in
set_option maxHeartbeats 2000000 in
theorem S_Mo_shape_B273 {C : QC} (hc : OKX C RX9 cX9_shape 11 1 none) (hSH : q_SH C = SHM) (x1 : Int32) (x2 : Int32) (x3 : Int32) (x4 : Int32) (x7 : Int32) (v : Int32 × QM) {res : (QM) ⊕ (Int32 × QM)} (h : Mo_shape_B273 x1 x2 x3 x4 x7 v = some res) (ke : ∀ x : QM, res = .inl x → WX C 11 372 [] [] x) (kb : ∀ x : Int32 × QM, res = .inr x → WX C 11 273 [(0, .ref 0), (1, .int x1), (2, .int x2), (3, .int x3), (4, .int x4), (7, .int x7), (8, .int x.1)] [] x.2) : WX C 11 273 [(0, .ref 0), (1, .int x1), (2, .int x2), (3, .int x3), (4, .int x4), (7, .int x7), (8, .int v.1)] [] v.2 := by
  unfold Mo_shape_B273 at h
  refine x_iload hc dX9_shape_273 6 rfl ?_
  refine x_if_lt (tgt := 372) hc dX9_shape_275 (by decide) (fun hb => ?_) (fun hb => ?_)
  · have h := ite_t hb h
    cases h
    exact x_sub (ke v.2 rfl) [] rfl
  · have h := ite_f hb h
    refine x_aload_n hc dX9_shape_278 rfl 0 rfl ?_
    refine x_getR hc dX9_shape_279 fl_RX9_16 (q_s hSH sm_0) rfl ?_
    refine x_bipush hc dX9_shape_282 kb_8 ?_
    refine x_iload_n hc dX9_shape_284 rfl 1 rfl ?_
    refine x_imul hc dX9_shape_285 ?_
    refine x_iload hc dX9_shape_286 6 rfl ?_
    refine x_iadd hc dX9_shape_288 ?_
    obtain ⟨b6, h⟩ := ck_some h
    refine x_iald hc dX9_shape_289 (q_s hSH sm_3) (inb_in b6) ?_
    refine x_istore (L2 := [(9, .int (v.2.1 3 (((8 : Int32) * x1) + v.1).toNatClampNeg)), (0, .ref 0), (1, .int x1), (2, .int x2), (3, .int x3), (4, .int x4), (7, .int x7), (8, .int v.1)]) hc dX9_shape_290 (by decide) rfl ?_
    refine x_aload_n hc dX9_shape_292 rfl 1 rfl ?_
    refine x_getR hc dX9_shape_293 fl_RX9_16 (q_s hSH sm_0) rfl ?_
    refine x_bipush hc dX9_shape_296 kb_8 ?_
    refine x_iload_n hc dX9_shape_298 rfl 3 rfl ?_
    refine x_imul hc dX9_shape_299 ?_
    refine x_iload hc dX9_shape_300 7 rfl ?_
    refine x_iadd hc dX9_shape_302 ?_
    obtain ⟨b7, h⟩ := ck_some h
    refine x_iald hc dX9_shape_303 (q_s hSH sm_3) (inb_in b7) ?_
    refine x_istore (L2 := [(10, .int (v.2.1 3 (((8 : Int32) * x2) + v.1).toNatClampNeg)), (9, .int (v.2.1 3 (((8 : Int32) * x1) + v.1).toNatClampNeg)), (0, .ref 0), (1, .int x1), (2, .int x2), (3, .int x3), (4, .int x4), (7, .int x7), (8, .int v.1)]) hc dX9_shape_304 (by decide) rfl ?_
    refine x_iload hc dX9_shape_306 1 rfl ?_
    refine x_if_lt (tgt := 336) hc dX9_shape_308 (by decide) (fun hb => ?_) (fun hb => ?_)
    · have h := ite_t hb h
      exact x_sub (S_Mo_shape_L273_J336 hc hSH x1 x2 x3 x4 x7 v.1 (v.2.1 3 (((8 : Int32) * x1) + v.1).toNatClampNeg) (v.2.1 3 (((8 : Int32) * x2) + v.1).toNatClampNeg) v.2 h ke kb) [2, 3, 4, 5, 6, 7, 8, 1, 0] rfl
    · have h := ite_f hb h
      refine x_iload hc dX9_shape_311 0 rfl ?_
      refine x_if_lt (tgt := 336) hc dX9_shape_313 (by decide) (fun hb => ?_) (fun hb => ?_)
      · have h := ite_t hb h
        exact x_sub (S_Mo_shape_L273_J336 hc hSH x1 x2 x3 x4 x7 v.1 (v.2.1 3 (((8 : Int32) * x1) + v.1).toNatClampNeg) (v.2.1 3 (((8 : Int32) * x2) + v.1).toNatClampNeg) v.2 h ke kb) [2, 3, 4, 5, 6, 7, 8, 1, 0] rfl
      · have h := ite_f hb h
        refine x_aload_n hc dX9_shape_316 rfl 2 rfl ?_
        refine x_iload hc dX9_shape_317 1 rfl ?_
        refine x_iload hc dX9_shape_319 0 rfl ?_
        refine x_iload_n hc dX9_shape_321 rfl 5 rfl ?_
        refine x_bipush hc dX9_shape_322 kb_8 ?_
        refine x_iload hc dX9_shape_324 6 rfl ?_
        refine x_imul hc dX9_shape_326 ?_
        refine x_iload hc dX9_shape_327 8 rfl ?_
        refine x_iadd hc dX9_shape_329 ?_
        obtain ⟨q9, h9, h⟩ := bd_some h
        refine x_callVv (As := [.int (v.2.1 3 (((8 : Int32) * x1) + v.1).toNatClampNeg), .int (v.2.1 3 (((8 : Int32) * x2) + v.1).toNatClampNeg), .int x3, .int (((8 : Int32) * x4) + v.1)]) (st := []) (o := 0) hc dX9_shape_330 cv_X9_waitFor lk_RX9_160 (q_s hSH sm_0) rfl rfl (q_cn hSH (S_Mo_waitFor h9)) (by decide) (Nat.le_of_ble_eq_true rfl) ?_
        refine x_goto (tgt := 366) hc dX9_shape_333 (by decide) ?_
        refine x_iinc (v := v.1 - (1 : Int32)) (L2 := [(8, .int (v.1 - (1 : Int32))), (10, .int (v.2.1 3 (((8 : Int32) * x2) + v.1).toNatClampNeg)), (9, .int (v.2.1 3 (((8 : Int32) * x1) + v.1).toNatClampNeg)), (0, .ref 0), (1, .int x1), (2, .int x2), (3, .int x3), (4, .int x4), (7, .int x7)]) hc dX9_shape_366 8 rfl (q_dec _) (by decide) rfl ?_
        refine x_goto (tgt := 273) hc dX9_shape_369 (by decide) ?_
        cases h
        exact x_sub (kb (v.1 - (1 : Int32), q9) rfl) [3, 4, 5, 6, 7, 8, 0] rfl

theorem S_Mo_shape_L273 {C : QC} (hc : OKX C RX9 cX9_shape 11 1 none) (hSH : q_SH C = SHM) (x1 : Int32) (x2 : Int32) (x3 : Int32) (x4 : Int32) (x7 : Int32) {n : Nat} {v : Int32 × QM} {e : QM} (h : iter (Mo_shape_B273 x1 x2 x3 x4 x7) n v = some e) (ke : ∀ x : QM, e = x → WX C 11 372 [] [] x) : WX C 11 273 [(0, .ref 0), (1, .int x1), (2, .int x2), (3, .int x3), (4, .int x4), (7, .int x7), (8, .int v.1)] [] v.2 :=
  iter_W (Wh := fun v => WX C 11 273 [(0, .ref 0), (1, .int x1), (2, .int x2), (3, .int x3), (4, .int x4), (7, .int x7), (8, .int v.1)] [] v.2) (fun a res hB k1 k2 => S_Mo_shape_B273 hc hSH x1 x2 x3 x4 x7 a hB (fun x hx => ke x (k1 _ hx).symm) k2) n v h

def Mo_shape_J267 (x1 : Int32) (x2 : Int32) (x3 : Int32) (x4 : Int32) (s0 : Int32) (M : QM) : Option (QM) :=
  Option.bind (iter (Mo_shape_B273 x1 x2 x3 x4 s0) FU ((7 : Int32), M)) (fun e10 => some e10)

set_option maxRecDepth 20000 in
set_option maxHeartbeats 2000000 in
theorem S_Mo_shape_J267 {C : QC} (hc : OKX C RX9 cX9_shape 11 1 none) (hSH : q_SH C = SHM) (x1 : Int32) (x2 : Int32) (x3 : Int32) (x4 : Int32) (s0 : Int32) (M : QM) {res : QM} (h : Mo_shape_J267 x1 x2 x3 x4 s0 M = some res) (hr : q_r C = none) (hM : q_M C = res) : WX C 11 267 [(0, .ref 0), (1, .int x1), (2, .int x2), (3, .int x3), (4, .int x4)] [.int s0] M := by
  unfold Mo_shape_J267 at h
  refine x_istore (L2 := [(7, .int s0), (0, .ref 0), (1, .int x1), (2, .int x2), (3, .int x3), (4, .int x4)]) hc dX9_shape_267 (by decide) rfl ?_
  refine x_bipush hc dX9_shape_269 kb_7 ?_
  refine x_istore (L2 := [(8, .int (7 : Int32)), (7, .int s0), (0, .ref 0), (1, .int x1), (2, .int x2), (3, .int x3), (4, .int x4)]) hc dX9_shape_271 (by decide) rfl ?_
  obtain ⟨e10, h10, h⟩ := bd_some h
  refine x_sub (S_Mo_shape_L273 hc hSH x1 x2 x3 x4 s0 (v := ((7 : Int32), M)) h10 (fun x hx => ?_)) [2, 3, 4, 5, 6, 1, 0] rfl
  subst hx
  cases h
  exact x_vret hc dX9_shape_372 hr hM

def Mo_shape_J259 (x1 : Int32) (x2 : Int32) (x3 : Int32) (x4 : Int32) (s0 : Int32) (s1 : Int32) (M : QM) : Option (QM) :=
  (if s1 = s0 then Mo_shape_J267 x1 x2 x3 x4 (1 : Int32) M else Mo_shape_J267 x1 x2 x3 x4 (0 : Int32) M)

set_option maxRecDepth 20000 in
set_option maxHeartbeats 2000000 in
theorem S_Mo_shape_J259 {C : QC} (hc : OKX C RX9 cX9_shape 11 1 none) (hSH : q_SH C = SHM) (x1 : Int32) (x2 : Int32) (x3 : Int32) (x4 : Int32) (s0 : Int32) (s1 : Int32) (M : QM) {res : QM} (h : Mo_shape_J259 x1 x2 x3 x4 s0 s1 M = some res) (hr : q_r C = none) (hM : q_M C = res) : WX C 11 259 [(0, .ref 0), (1, .int x1), (2, .int x2), (3, .int x3), (4, .int x4)] [.int s0, .int s1] M := by
  unfold Mo_shape_J259 at h
  refine x_icmp_ne (tgt := 266) hc dX9_shape_259 (by decide) (fun hb => ?_) (fun hb => ?_)
  · have h := ite_f hb h
    refine x_iconst hc dX9_shape_266 kc_0 ?_
    exact x_sub (S_Mo_shape_J267 hc hSH x1 x2 x3 x4 (0 : Int32) M h hr hM) [0, 1, 2, 3, 4] rfl
  · have h := ite_t hb h
    refine x_iconst hc dX9_shape_262 kc_1 ?_
    refine x_goto (tgt := 267) hc dX9_shape_263 (by decide) ?_
    exact x_sub (S_Mo_shape_J267 hc hSH x1 x2 x3 x4 (1 : Int32) M h hr hM) [0, 1, 2, 3, 4] rfl

def Mo_shape_J250 (x1 : Int32) (x2 : Int32) (x3 : Int32) (x4 : Int32) (s0 : Int32) (M : QM) : Option (QM) :=
  (if x3 = 0 then Mo_shape_J259 x1 x2 x3 x4 (1 : Int32) s0 M else Mo_shape_J259 x1 x2 x3 x4 (0 : Int32) s0 M)

set_option maxRecDepth 20000 in
set_option maxHeartbeats 2000000 in
theorem S_Mo_shape_J250 {C : QC} (hc : OKX C RX9 cX9_shape 11 1 none) (hSH : q_SH C = SHM) (x1 : Int32) (x2 : Int32) (x3 : Int32) (x4 : Int32) (s0 : Int32) (M : QM) {res : QM} (h : Mo_shape_J250 x1 x2 x3 x4 s0 M = some res) (hr : q_r C = none) (hM : q_M C = res) : WX C 11 250 [(0, .ref 0), (1, .int x1), (2, .int x2), (3, .int x3), (4, .int x4)] [.int s0] M := by
  unfold Mo_shape_J250 at h
  refine x_iload_n hc dX9_shape_250 rfl 3 rfl ?_
  refine x_if_ne (tgt := 258) hc dX9_shape_251 (by decide) (fun hb => ?_) (fun hb => ?_)
  · have h := ite_f hb h
    refine x_iconst hc dX9_shape_258 kc_0 ?_
    exact x_sub (S_Mo_shape_J259 hc hSH x1 x2 x3 x4 (0 : Int32) s0 M h hr hM) [0, 1, 2, 3, 4] rfl
  · have h := ite_t hb h
    refine x_iconst hc dX9_shape_254 kc_1 ?_
    refine x_goto (tgt := 259) hc dX9_shape_255 (by decide) ?_
    exact x_sub (S_Mo_shape_J259 hc hSH x1 x2 x3 x4 (1 : Int32) s0 M h hr hM) [0, 1, 2, 3, 4] rfl

def Mo_shape_J89 (x1 : Int32) (x2 : Int32) (x3 : Int32) (x4 : Int32) (x5 : Int32) (x6 : Int32) (s0 : Int32) (s1 : Int32) (M : QM) : Option (QM) :=
  ck (inb s1 60) (Option.bind (iter (Mo_shape_B93 x1 x2 x3 x4 x5 x6) FU ((0 : Int32), u_i M 2 s1.toNatClampNeg s0)) (fun e5 => (if x5 = (42 : Int32) then ck (inb ((8 : Int32) * x1) 480) (ck (inb ((8 : Int32) * x2) 480) (Option.bind (Mo_waitFor (e5.1 3 ((8 : Int32) * x1).toNatClampNeg) (e5.1 3 ((8 : Int32) * x2).toNatClampNeg) x3 ((8 : Int32) * x4) e5) (fun q19 => some q19))) else (if x5 = (62 : Int32) then ck (inb (((8 : Int32) * x1) + (1 : Int32)) 480) (ck (inb (((8 : Int32) * x2) + (1 : Int32)) 480) (Option.bind (Mo_waitFor (e5.1 3 (((8 : Int32) * x1) + (1 : Int32)).toNatClampNeg) (e5.1 3 (((8 : Int32) * x2) + (1 : Int32)).toNatClampNeg) x3 (((8 : Int32) * x4) + (1 : Int32)) e5) (fun q13 => ck (inb ((8 : Int32) * x1) 480) (ck (inb ((8 : Int32) * x2) 480) (Option.bind (Mo_waitFor (q13.1 3 ((8 : Int32) * x1).toNatClampNeg) (q13.1 3 ((8 : Int32) * x2).toNatClampNeg) ((1 : Int32) - x3) ((8 : Int32) * x4) q13) (fun q16 => some q16)))))) else (if x6 = 0 then some e5 else (if x5 = (91 : Int32) then Mo_shape_J250 x1 x2 x3 x4 (1 : Int32) e5 else Mo_shape_J250 x1 x2 x3 x4 (0 : Int32) e5))))))

set_option maxRecDepth 20000 in
set_option maxHeartbeats 2000000 in
theorem S_Mo_shape_J89 {C : QC} (hc : OKX C RX9 cX9_shape 11 1 none) (hSH : q_SH C = SHM) (x1 : Int32) (x2 : Int32) (x3 : Int32) (x4 : Int32) (x5 : Int32) (x6 : Int32) (s0 : Int32) (s1 : Int32) (M : QM) {res : QM} (h : Mo_shape_J89 x1 x2 x3 x4 x5 x6 s0 s1 M = some res) (hr : q_r C = none) (hM : q_M C = res) : WX C 11 89 [(0, .ref 0), (1, .int x1), (2, .int x2), (3, .int x3), (4, .int x4), (5, .int x5), (6, .int x6)] [.int s0, .int s1, .ref 2] M := by
  unfold Mo_shape_J89 at h
  obtain ⟨b3, h⟩ := ck_some h
  refine x_iast hc dX9_shape_89 (q_s hSH sm_2) (inb_in b3) ?_
  refine x_iconst hc dX9_shape_90 kc_0 ?_
  refine x_istore (L2 := [(7, .int (0 : Int32)), (0, .ref 0), (1, .int x1), (2, .int x2), (3, .int x3), (4, .int x4), (5, .int x5), (6, .int x6)]) hc dX9_shape_91 (by decide) rfl ?_
  obtain ⟨e5, h5, h⟩ := bd_some h
  refine x_sub (S_Mo_shape_L93 hc hSH x1 x2 x3 x4 x5 x6 (v := ((0 : Int32), u_i M 2 s1.toNatClampNeg s0)) h5 (fun x hx => ?_)) [1, 2, 3, 4, 5, 6, 7, 0] rfl
  subst hx
  refine x_iload hc dX9_shape_121 5 rfl ?_
  refine x_bipush hc dX9_shape_123 kb_42 ?_
  refine x_icmp_ne (tgt := 159) hc dX9_shape_125 (by decide) (fun hb => ?_) (fun hb => ?_)
  · have h := ite_f hb h
    refine x_iload hc dX9_shape_159 5 rfl ?_
    refine x_bipush hc dX9_shape_161 kb_62 ?_
    refine x_icmp_ne (tgt := 233) hc dX9_shape_163 (by decide) (fun hb => ?_) (fun hb => ?_)
    · have h := ite_f hb h
      refine x_iload hc dX9_shape_233 6 rfl ?_
      refine x_if_eq (tgt := 372) hc dX9_shape_235 (by decide) (fun hb => ?_) (fun hb => ?_)
      · have h := ite_t hb h
        cases h
        exact x_vret hc dX9_shape_372 hr hM
      · have h := ite_f hb h
        refine x_iload hc dX9_shape_238 5 rfl ?_
        refine x_bipush hc dX9_shape_240 kb_91 ?_
        refine x_icmp_ne (tgt := 249) hc dX9_shape_242 (by decide) (fun hb => ?_) (fun hb => ?_)
        · have h := ite_f hb h
          refine x_iconst hc dX9_shape_249 kc_0 ?_
          exact x_sub (S_Mo_shape_J250 hc hSH x1 x2 x3 x4 (0 : Int32) e5 h hr hM) [0, 1, 2, 3, 4] rfl
        · have h := ite_t hb h
          refine x_iconst hc dX9_shape_245 kc_1 ?_
          refine x_goto (tgt := 250) hc dX9_shape_246 (by decide) ?_
          exact x_sub (S_Mo_shape_J250 hc hSH x1 x2 x3 x4 (1 : Int32) e5 h hr hM) [0, 1, 2, 3, 4] rfl
    · have h := ite_t hb h
      refine x_aload_n hc dX9_shape_166 rfl 0 rfl ?_
      refine x_aload_n hc dX9_shape_167 rfl 0 rfl ?_
      refine x_getR hc dX9_shape_168 fl_RX9_16 (q_s hSH sm_0) rfl ?_
      refine x_bipush hc dX9_shape_171 kb_8 ?_
      refine x_iload_n hc dX9_shape_173 rfl 1 rfl ?_
      refine x_imul hc dX9_shape_174 ?_
      refine x_iconst hc dX9_shape_175 kc_1 ?_
      refine x_iadd hc dX9_shape_176 ?_
      obtain ⟨b11, h⟩ := ck_some h
      refine x_iald hc dX9_shape_177 (q_s hSH sm_3) (inb_in b11) ?_
      refine x_aload_n hc dX9_shape_178 rfl 0 rfl ?_
      refine x_getR hc dX9_shape_179 fl_RX9_16 (q_s hSH sm_0) rfl ?_
      refine x_bipush hc dX9_shape_182 kb_8 ?_
      refine x_iload_n hc dX9_shape_184 rfl 2 rfl ?_
      refine x_imul hc dX9_shape_185 ?_
      refine x_iconst hc dX9_shape_186 kc_1 ?_
      refine x_iadd hc dX9_shape_187 ?_
      obtain ⟨b12, h⟩ := ck_some h
      refine x_iald hc dX9_shape_188 (q_s hSH sm_3) (inb_in b12) ?_
      refine x_iload_n hc dX9_shape_189 rfl 3 rfl ?_
      refine x_bipush hc dX9_shape_190 kb_8 ?_
      refine x_iload hc dX9_shape_192 4 rfl ?_
      refine x_imul hc dX9_shape_194 ?_
      refine x_iconst hc dX9_shape_195 kc_1 ?_
      refine x_iadd hc dX9_shape_196 ?_
      obtain ⟨q13, h13, h⟩ := bd_some h
      refine x_callVv (As := [.int (e5.1 3 (((8 : Int32) * x1) + (1 : Int32)).toNatClampNeg), .int (e5.1 3 (((8 : Int32) * x2) + (1 : Int32)).toNatClampNeg), .int x3, .int (((8 : Int32) * x4) + (1 : Int32))]) (st := []) (o := 0) hc dX9_shape_197 cv_X9_waitFor lk_RX9_160 (q_s hSH sm_0) rfl rfl (q_cn hSH (S_Mo_waitFor h13)) (by decide) (Nat.le_of_ble_eq_true rfl) ?_
      refine x_aload_n hc dX9_shape_200 rfl 0 rfl ?_
      refine x_aload_n hc dX9_shape_201 rfl 0 rfl ?_
      refine x_getR hc dX9_shape_202 fl_RX9_16 (q_s hSH sm_0) rfl ?_
      refine x_bipush hc dX9_shape_205 kb_8 ?_
      refine x_iload_n hc dX9_shape_207 rfl 1 rfl ?_
      refine x_imul hc dX9_shape_208 ?_
      obtain ⟨b14, h⟩ := ck_some h
      refine x_iald hc dX9_shape_209 (q_s hSH sm_3) (inb_in b14) ?_
      refine x_aload_n hc dX9_shape_210 rfl 0 rfl ?_
      refine x_getR hc dX9_shape_211 fl_RX9_16 (q_s hSH sm_0) rfl ?_
      refine x_bipush hc dX9_shape_214 kb_8 ?_
      refine x_iload_n hc dX9_shape_216 rfl 2 rfl ?_
      refine x_imul hc dX9_shape_217 ?_
      obtain ⟨b15, h⟩ := ck_some h
      refine x_iald hc dX9_shape_218 (q_s hSH sm_3) (inb_in b15) ?_
      refine x_iconst hc dX9_shape_219 kc_1 ?_
      refine x_iload_n hc dX9_shape_220 rfl 3 rfl ?_
      refine x_isub hc dX9_shape_221 ?_
      refine x_bipush hc dX9_shape_222 kb_8 ?_
      refine x_iload hc dX9_shape_224 4 rfl ?_
      refine x_imul hc dX9_shape_226 ?_
      obtain ⟨q16, h16, h⟩ := bd_some h
      refine x_callVv (As := [.int (q13.1 3 ((8 : Int32) * x1).toNatClampNeg), .int (q13.1 3 ((8 : Int32) * x2).toNatClampNeg), .int ((1 : Int32) - x3), .int ((8 : Int32) * x4)]) (st := []) (o := 0) hc dX9_shape_227 cv_X9_waitFor lk_RX9_160 (q_s hSH sm_0) rfl rfl (q_cn hSH (S_Mo_waitFor h16)) (by decide) (Nat.le_of_ble_eq_true rfl) ?_
      refine x_goto (tgt := 372) hc dX9_shape_230 (by decide) ?_
      cases h
      exact x_vret hc dX9_shape_372 hr hM
  · have h := ite_t hb h
    refine x_aload_n hc dX9_shape_128 rfl 0 rfl ?_
    refine x_aload_n hc dX9_shape_129 rfl 0 rfl ?_
    refine x_getR hc dX9_shape_130 fl_RX9_16 (q_s hSH sm_0) rfl ?_
    refine x_bipush hc dX9_shape_133 kb_8 ?_
    refine x_iload_n hc dX9_shape_135 rfl 1 rfl ?_
    refine x_imul hc dX9_shape_136 ?_
    obtain ⟨b17, h⟩ := ck_some h
    refine x_iald hc dX9_shape_137 (q_s hSH sm_3) (inb_in b17) ?_
    refine x_aload_n hc dX9_shape_138 rfl 0 rfl ?_
    refine x_getR hc dX9_shape_139 fl_RX9_16 (q_s hSH sm_0) rfl ?_
    refine x_bipush hc dX9_shape_142 kb_8 ?_
    refine x_iload_n hc dX9_shape_144 rfl 2 rfl ?_
    refine x_imul hc dX9_shape_145 ?_
    obtain ⟨b18, h⟩ := ck_some h
    refine x_iald hc dX9_shape_146 (q_s hSH sm_3) (inb_in b18) ?_
    refine x_iload_n hc dX9_shape_147 rfl 3 rfl ?_
    refine x_bipush hc dX9_shape_148 kb_8 ?_
    refine x_iload hc dX9_shape_150 4 rfl ?_
    refine x_imul hc dX9_shape_152 ?_
    obtain ⟨q19, h19, h⟩ := bd_some h
    refine x_callVv (As := [.int (e5.1 3 ((8 : Int32) * x1).toNatClampNeg), .int (e5.1 3 ((8 : Int32) * x2).toNatClampNeg), .int x3, .int ((8 : Int32) * x4)]) (st := []) (o := 0) hc dX9_shape_153 cv_X9_waitFor lk_RX9_160 (q_s hSH sm_0) rfl rfl (q_cn hSH (S_Mo_waitFor h19)) (by decide) (Nat.le_of_ble_eq_true rfl) ?_
    refine x_goto (tgt := 372) hc dX9_shape_156 (by decide) ?_
    cases h
    exact x_vret hc dX9_shape_372 hr hM

def Mo_shape_J60 (x1 : Int32) (x2 : Int32) (x3 : Int32) (x4 : Int32) (x5 : Int32) (s0 : Int32) (M : QM) : Option (QM) :=
  (if s0 = 0 then (if x3 = 0 then Mo_shape_J89 x1 x2 x3 x4 x5 s0 (46 : Int32) x4 M else Mo_shape_J89 x1 x2 x3 x4 x5 s0 (33 : Int32) x4 M) else Mo_shape_J89 x1 x2 x3 x4 x5 s0 x5 x4 M)

set_option maxRecDepth 20000 in
set_option maxHeartbeats 2000000 in
theorem S_Mo_shape_J60 {C : QC} (hc : OKX C RX9 cX9_shape 11 1 none) (hSH : q_SH C = SHM) (x1 : Int32) (x2 : Int32) (x3 : Int32) (x4 : Int32) (x5 : Int32) (s0 : Int32) (M : QM) {res : QM} (h : Mo_shape_J60 x1 x2 x3 x4 x5 s0 M = some res) (hr : q_r C = none) (hM : q_M C = res) : WX C 11 60 [(0, .ref 0), (1, .int x1), (2, .int x2), (3, .int x3), (4, .int x4), (5, .int x5)] [.int s0] M := by
  unfold Mo_shape_J60 at h
  refine x_istore (L2 := [(6, .int s0), (0, .ref 0), (1, .int x1), (2, .int x2), (3, .int x3), (4, .int x4), (5, .int x5)]) hc dX9_shape_60 (by decide) rfl ?_
  refine x_aload_n hc dX9_shape_62 rfl 1 rfl ?_
  refine x_getR hc dX9_shape_63 fl_RX9_13 (q_s hSH sm_0) rfl ?_
  refine x_iload hc dX9_shape_66 5 rfl ?_
  refine x_iload hc dX9_shape_68 0 rfl ?_
  refine x_if_eq (tgt := 78) hc dX9_shape_70 (by decide) (fun hb => ?_) (fun hb => ?_)
  · have h := ite_t hb h
    refine x_iload_n hc dX9_shape_78 rfl 4 rfl ?_
    refine x_if_ne (tgt := 87) hc dX9_shape_79 (by decide) (fun hb => ?_) (fun hb => ?_)
    · have h := ite_f hb h
      refine x_bipush hc dX9_shape_87 kb_33 ?_
      exact x_sub (S_Mo_shape_J89 hc hSH x1 x2 x3 x4 x5 s0 (33 : Int32) x4 M h hr hM) [1, 2, 3, 4, 5, 6, 0] rfl
    · have h := ite_t hb h
      refine x_bipush hc dX9_shape_82 kb_46 ?_
      refine x_goto (tgt := 89) hc dX9_shape_84 (by decide) ?_
      exact x_sub (S_Mo_shape_J89 hc hSH x1 x2 x3 x4 x5 s0 (46 : Int32) x4 M h hr hM) [1, 2, 3, 4, 5, 6, 0] rfl
  · have h := ite_f hb h
    refine x_iload hc dX9_shape_73 6 rfl ?_
    refine x_goto (tgt := 89) hc dX9_shape_75 (by decide) ?_
    exact x_sub (S_Mo_shape_J89 hc hSH x1 x2 x3 x4 x5 s0 x5 x4 M h hr hM) [1, 2, 3, 4, 5, 6, 0] rfl

def Mo_shape_J55 (x1 : Int32) (x2 : Int32) (x3 : Int32) (x4 : Int32) (x5 : Int32) (M : QM) : Option (QM) :=
  Mo_shape_J60 x1 x2 x3 x4 x5 (1 : Int32) M

set_option maxRecDepth 20000 in
set_option maxHeartbeats 2000000 in
theorem S_Mo_shape_J55 {C : QC} (hc : OKX C RX9 cX9_shape 11 1 none) (hSH : q_SH C = SHM) (x1 : Int32) (x2 : Int32) (x3 : Int32) (x4 : Int32) (x5 : Int32) (M : QM) {res : QM} (h : Mo_shape_J55 x1 x2 x3 x4 x5 M = some res) (hr : q_r C = none) (hM : q_M C = res) : WX C 11 55 [(0, .ref 0), (1, .int x1), (2, .int x2), (3, .int x3), (4, .int x4), (5, .int x5)] [] M := by
  unfold Mo_shape_J55 at h
  refine x_iconst hc dX9_shape_55 kc_1 ?_
  refine x_goto (tgt := 60) hc dX9_shape_56 (by decide) ?_
  exact x_sub (S_Mo_shape_J60 hc hSH x1 x2 x3 x4 x5 (1 : Int32) M h hr hM) [0, 1, 2, 3, 4, 5] rfl

def Mo_shape_J25 (x1 : Int32) (x2 : Int32) (x3 : Int32) (x4 : Int32) (s0 : Int32) (M : QM) : Option (QM) :=
  (if s0 = (123 : Int32) then Mo_shape_J55 x1 x2 x3 x4 s0 M else (if s0 = (91 : Int32) then Mo_shape_J55 x1 x2 x3 x4 s0 M else (if s0 = (42 : Int32) then Mo_shape_J55 x1 x2 x3 x4 s0 M else (if s0 = (62 : Int32) then Mo_shape_J55 x1 x2 x3 x4 s0 M else Mo_shape_J60 x1 x2 x3 x4 s0 (0 : Int32) M))))

set_option maxRecDepth 20000 in
set_option maxHeartbeats 2000000 in
theorem S_Mo_shape_J25 {C : QC} (hc : OKX C RX9 cX9_shape 11 1 none) (hSH : q_SH C = SHM) (x1 : Int32) (x2 : Int32) (x3 : Int32) (x4 : Int32) (s0 : Int32) (M : QM) {res : QM} (h : Mo_shape_J25 x1 x2 x3 x4 s0 M = some res) (hr : q_r C = none) (hM : q_M C = res) : WX C 11 25 [(0, .ref 0), (1, .int x1), (2, .int x2), (3, .int x3), (4, .int x4)] [.int s0] M := by
  unfold Mo_shape_J25 at h
  refine x_istore (L2 := [(5, .int s0), (0, .ref 0), (1, .int x1), (2, .int x2), (3, .int x3), (4, .int x4)]) hc dX9_shape_25 (by decide) rfl ?_
  refine x_iload hc dX9_shape_27 0 rfl ?_
  refine x_bipush hc dX9_shape_29 kb_123 ?_
  refine x_icmp_eq (tgt := 55) hc dX9_shape_31 (by decide) (fun hb => ?_) (fun hb => ?_)
  · have h := ite_t hb h
    exact x_sub (S_Mo_shape_J55 hc hSH x1 x2 x3 x4 s0 M h hr hM) [1, 2, 3, 4, 5, 0] rfl
  · have h := ite_f hb h
    refine x_iload hc dX9_shape_34 0 rfl ?_
    refine x_bipush hc dX9_shape_36 kb_91 ?_
    refine x_icmp_eq (tgt := 55) hc dX9_shape_38 (by decide) (fun hb => ?_) (fun hb => ?_)
    · have h := ite_t hb h
      exact x_sub (S_Mo_shape_J55 hc hSH x1 x2 x3 x4 s0 M h hr hM) [1, 2, 3, 4, 5, 0] rfl
    · have h := ite_f hb h
      refine x_iload hc dX9_shape_41 0 rfl ?_
      refine x_bipush hc dX9_shape_43 kb_42 ?_
      refine x_icmp_eq (tgt := 55) hc dX9_shape_45 (by decide) (fun hb => ?_) (fun hb => ?_)
      · have h := ite_t hb h
        exact x_sub (S_Mo_shape_J55 hc hSH x1 x2 x3 x4 s0 M h hr hM) [1, 2, 3, 4, 5, 0] rfl
      · have h := ite_f hb h
        refine x_iload hc dX9_shape_48 0 rfl ?_
        refine x_bipush hc dX9_shape_50 kb_62 ?_
        refine x_icmp_ne (tgt := 59) hc dX9_shape_52 (by decide) (fun hb => ?_) (fun hb => ?_)
        · have h := ite_f hb h
          refine x_iconst hc dX9_shape_59 kc_0 ?_
          exact x_sub (S_Mo_shape_J60 hc hSH x1 x2 x3 x4 s0 (0 : Int32) M h hr hM) [1, 2, 3, 4, 5, 0] rfl
        · have h := ite_t hb h
          exact x_sub (S_Mo_shape_J55 hc hSH x1 x2 x3 x4 s0 M h hr hM) [1, 2, 3, 4, 5, 0] rfl

def Mo_shape (p1 : Int32) (p2 : Int32) (p3 : Int32) (p4 : Int32) (M : QM) : Option (QM) :=
  ck (inb p1 60) (ck (inb p2 60) ((if (M.1 2 p1.toNatClampNeg) = (M.1 2 p2.toNatClampNeg) then ck (inb p1 60) (Mo_shape_J25 p1 p2 p3 p4 (M.1 2 p1.toNatClampNeg) M) else Mo_shape_J25 p1 p2 p3 p4 (0 : Int32) M)))

set_option maxRecDepth 20000 in
set_option maxHeartbeats 2000000 in
theorem S_Mo_shape  {p1 : Int32} {p2 : Int32} {p3 : Int32} {p4 : Int32} {M : QM} {res : QM} (h : Mo_shape p1 p2 p3 p4 M = some res) : Cn yX9_shape cX9_shape 11 none 1 SHM [.ref 0, .int p1, .int p2, .int p3, .int p4] M (none) res := by
  refine q_enter (L := [(0, .ref 0), (1, .int p1), (2, .int p2), (3, .int p3), (4, .int p4)]) (by decide) (Nat.le_of_ble_eq_true rfl) rfl ?_
  intro C hc hSH hr hM
  have hc : OKX C RX9 cX9_shape 11 1 none := hc
  unfold Mo_shape at h
  refine x_aload_n hc dX9_shape_0 rfl 0 rfl ?_
  refine x_getR hc dX9_shape_1 fl_RX9_13 (q_s hSH sm_0) rfl ?_
  refine x_iload_n hc dX9_shape_4 rfl 1 rfl ?_
  obtain ⟨b1, h⟩ := ck_some h
  refine x_iald hc dX9_shape_5 (q_s hSH sm_2) (inb_in b1) ?_
  refine x_aload_n hc dX9_shape_6 rfl 0 rfl ?_
  refine x_getR hc dX9_shape_7 fl_RX9_13 (q_s hSH sm_0) rfl ?_
  refine x_iload_n hc dX9_shape_10 rfl 2 rfl ?_
  obtain ⟨b2, h⟩ := ck_some h
  refine x_iald hc dX9_shape_11 (q_s hSH sm_2) (inb_in b2) ?_
  refine x_icmp_ne (tgt := 24) hc dX9_shape_12 (by decide) (fun hb => ?_) (fun hb => ?_)
  · have h := ite_f hb h
    refine x_iconst hc dX9_shape_24 kc_0 ?_
    exact x_sub (S_Mo_shape_J25 hc hSH p1 p2 p3 p4 (0 : Int32) M h hr hM) [0, 1, 2, 3, 4] rfl
  · have h := ite_t hb h
    refine x_aload_n hc dX9_shape_15 rfl 0 rfl ?_
    refine x_getR hc dX9_shape_16 fl_RX9_13 (q_s hSH sm_0) rfl ?_
    refine x_iload_n hc dX9_shape_19 rfl 1 rfl ?_
    obtain ⟨b20, h⟩ := ck_some h
    refine x_iald hc dX9_shape_20 (q_s hSH sm_2) (inb_in b20) ?_
    refine x_goto (tgt := 25) hc dX9_shape_21 (by decide) ?_
    exact x_sub (S_Mo_shape_J25 hc hSH p1 p2 p3 p4 (M.1 2 p1.toNatClampNeg) M h hr hM) [0, 1, 2, 3, 4] rfl

def Mo_join_B36 (x1 : Int32) (x2 : Int32) (x3 : Int32) (x4 : Int32) (v : Int32 × QM) : Option ((QM) ⊕ (Int32 × QM)) :=
  (if (7200 : Int32) ≤ v.1 then some (.inl v.2) else ck (inb v.1 7200) (some (.inr (v.1 + (1 : Int32), u_i v.2 14 v.1.toNatClampNeg (-6 : Int32)))))

set_option maxRecDepth 20000 in
set_option maxHeartbeats 2000000 in
theorem S_Mo_join_B36 {C : QC} (hc : OKX C RX9 cX9_join 11 3 (some .int)) (hSH : q_SH C = SHM) (x1 : Int32) (x2 : Int32) (x3 : Int32) (x4 : Int32) (v : Int32 × QM) {res : (QM) ⊕ (Int32 × QM)} (h : Mo_join_B36 x1 x2 x3 x4 v = some res) (ke : ∀ x : QM, res = .inl x → WX C 11 59 [(0, .ref 0), (1, .int x1), (2, .int x2), (3, .int x3), (4, .int x4)] [] x) (kb : ∀ x : Int32 × QM, res = .inr x → WX C 11 36 [(0, .ref 0), (1, .int x1), (2, .int x2), (3, .int x3), (4, .int x4), (5, .int x.1)] [] x.2) : WX C 11 36 [(0, .ref 0), (1, .int x1), (2, .int x2), (3, .int x3), (4, .int x4), (5, .int v.1)] [] v.2 := by
  unfold Mo_join_B36 at h
  refine x_iload hc dX9_join_36 5 rfl ?_
  refine x_sipush hc dX9_join_38 ks_7200 ?_
  refine x_icmp_ge (tgt := 59) hc dX9_join_41 (by decide) (fun hb => ?_) (fun hb => ?_)
  · have h := ite_t hb h
    cases h
    exact x_sub (ke v.2 rfl) [0, 1, 2, 3, 4] rfl
  · have h := ite_f hb h
    refine x_aload_n hc dX9_join_44 rfl 0 rfl ?_
    refine x_getR hc dX9_join_45 fl_RX9_50 (q_s hSH sm_0) rfl ?_
    refine x_iload hc dX9_join_48 5 rfl ?_
    refine x_bipush hc dX9_join_50 kb_m6 ?_
    obtain ⟨b4, h⟩ := ck_some h
    refine x_iast hc dX9_join_52 (q_s hSH sm_14) (inb_in b4) ?_
    refine x_iinc (v := v.1 + (1 : Int32)) (L2 := [(5, .int (v.1 + (1 : Int32))), (0, .ref 0), (1, .int x1), (2, .int x2), (3, .int x3), (4, .int x4)]) hc dX9_join_53 5 rfl (by rw [kc_1]) (by decide) rfl ?_
    refine x_goto (tgt := 36) hc dX9_join_56 (by decide) ?_
    cases h
    exact x_sub (kb (v.1 + (1 : Int32), u_i v.2 14 v.1.toNatClampNeg (-6 : Int32)) rfl) [1, 2, 3, 4, 5, 0] rfl

theorem S_Mo_join_L36 {C : QC} (hc : OKX C RX9 cX9_join 11 3 (some .int)) (hSH : q_SH C = SHM) (x1 : Int32) (x2 : Int32) (x3 : Int32) (x4 : Int32) {n : Nat} {v : Int32 × QM} {e : QM} (h : iter (Mo_join_B36 x1 x2 x3 x4) n v = some e) (ke : ∀ x : QM, e = x → WX C 11 59 [(0, .ref 0), (1, .int x1), (2, .int x2), (3, .int x3), (4, .int x4)] [] x) : WX C 11 36 [(0, .ref 0), (1, .int x1), (2, .int x2), (3, .int x3), (4, .int x4), (5, .int v.1)] [] v.2 :=
  iter_W (Wh := fun v => WX C 11 36 [(0, .ref 0), (1, .int x1), (2, .int x2), (3, .int x3), (4, .int x4), (5, .int v.1)] [] v.2) (fun a res hB k1 k2 => S_Mo_join_B36 hc hSH x1 x2 x3 x4 a hB (fun x hx => ke x (k1 _ hx).symm) k2) n v h

def Mo_join_L76_J204 (x4 : Int32) (x5 : Int32) (x7 : Int32) (x10 : Int32) (M : QM) : Option (((Int32 × QM) ⊕ (Int32 × Int32 × QM)) ⊕ (Int32 × Int32 × QM)) :=
  (if 0 ≤ x7 then ck (inb x7 480) (some (.inr (x4, x5, u_i M 3 x7.toNatClampNeg x10))) else some (.inr (x4, x10, M)))

set_option maxRecDepth 20000 in
set_option maxHeartbeats 2000000 in
theorem S_Mo_join_L76_J204 {C : QC} (hc : OKX C RX9 cX9_join 11 3 (some .int)) (hSH : q_SH C = SHM) (x4 : Int32) (x5 : Int32) (x7 : Int32) (x10 : Int32) (M : QM) {res : ((Int32 × QM) ⊕ (Int32 × Int32 × QM)) ⊕ (Int32 × Int32 × QM)} (h : Mo_join_L76_J204 x4 x5 x7 x10 M = some res) (kr : ∀ x : Int32 × QM, res = .inl (.inl x) → q_r C = some (.int x.1) ∧ q_M C = x.2) (ke : ∀ x : Int32 × Int32 × QM, res = .inl (.inr x) → WX C 11 228 [(0, .ref 0), (4, .int x.1), (5, .int x.2.1)] [] x.2.2) (kb : ∀ x : Int32 × Int32 × QM, res = .inr x → WX C 11 76 [(0, .ref 0), (4, .int x.1), (5, .int x.2.1)] [] x.2.2) : WX C 11 204 [(0, .ref 0), (4, .int x4), (5, .int x5), (7, .int x7), (10, .int x10)] [] M := by
  unfold Mo_join_L76_J204 at h
  refine x_iload hc dX9_join_204 3 rfl ?_
  refine x_if_ge (tgt := 216) hc dX9_join_206 (by decide) (fun hb => ?_) (fun hb => ?_)
  · have h := ite_t hb h
    refine x_aload_n hc dX9_join_216 rfl 0 rfl ?_
    refine x_getR hc dX9_join_217 fl_RX9_16 (q_s hSH sm_0) rfl ?_
    refine x_iload hc dX9_join_220 3 rfl ?_
    refine x_iload hc dX9_join_222 4 rfl ?_
    obtain ⟨b10, h⟩ := ck_some h
    refine x_iast hc dX9_join_224 (q_s hSH sm_3) (inb_in b10) ?_
    refine x_goto (tgt := 76) hc dX9_join_225 (by decide) ?_
    cases h
    exact x_sub (kb (x4, x5, u_i M 3 x7.toNatClampNeg x10) rfl) [0, 1, 2] rfl
  · have h := ite_f hb h
    refine x_iload hc dX9_join_209 4 rfl ?_
    refine x_istore (L2 := [(5, .int x10), (0, .ref 0), (4, .int x4), (7, .int x7), (10, .int x10)]) hc dX9_join_211 (by decide) rfl ?_
    refine x_goto (tgt := 225) hc dX9_join_213 (by decide) ?_
    refine x_goto (tgt := 76) hc dX9_join_225 (by decide) ?_
    cases h
    exact x_sub (kb (x4, x10, M) rfl) [1, 2, 0] rfl

def Mo_join_L76_J159 (x4 : Int32) (x5 : Int32) (x6 : Int32) (x7 : Int32) (x8 : Int32) (x9 : Int32) (x10 : Int32) (M : QM) : Option (((Int32 × QM) ⊕ (Int32 × Int32 × QM)) ⊕ (Int32 × Int32 × QM)) :=
  (if 0 ≤ x10 then Mo_join_L76_J204 x4 x5 x7 x10 M else (if x4 = (60 : Int32) then some (.inl (.inl ((-4 : Int32), M))) else ck (inb x6 7200) (Option.bind (Mo_shape x8 x9 (x6 - x6 / (2 : Int32) * (2 : Int32)) x4 (u_i M 14 x6.toNatClampNeg x4)) (fun q12 => Mo_join_L76_J204 (x4 + (1 : Int32)) x5 x7 x4 q12))))

set_option maxRecDepth 20000 in
set_option maxHeartbeats 2000000 in
theorem S_Mo_join_L76_J159 {C : QC} (hc : OKX C RX9 cX9_join 11 3 (some .int)) (hSH : q_SH C = SHM) (x4 : Int32) (x5 : Int32) (x6 : Int32) (x7 : Int32) (x8 : Int32) (x9 : Int32) (x10 : Int32) (M : QM) {res : ((Int32 × QM) ⊕ (Int32 × Int32 × QM)) ⊕ (Int32 × Int32 × QM)} (h : Mo_join_L76_J159 x4 x5 x6 x7 x8 x9 x10 M = some res) (kr : ∀ x : Int32 × QM, res = .inl (.inl x) → q_r C = some (.int x.1) ∧ q_M C = x.2) (ke : ∀ x : Int32 × Int32 × QM, res = .inl (.inr x) → WX C 11 228 [(0, .ref 0), (4, .int x.1), (5, .int x.2.1)] [] x.2.2) (kb : ∀ x : Int32 × Int32 × QM, res = .inr x → WX C 11 76 [(0, .ref 0), (4, .int x.1), (5, .int x.2.1)] [] x.2.2) : WX C 11 159 [(0, .ref 0), (4, .int x4), (5, .int x5), (6, .int x6), (7, .int x7), (8, .int x8), (9, .int x9), (10, .int x10)] [] M := by
  unfold Mo_join_L76_J159 at h
  refine x_iload hc dX9_join_159 7 rfl ?_
  refine x_if_ge (tgt := 204) hc dX9_join_161 (by decide) (fun hb => ?_) (fun hb => ?_)
  · have h := ite_t hb h
    exact x_sub (S_Mo_join_L76_J204 hc hSH x4 x5 x7 x10 M h kr ke kb) [0, 1, 2, 4, 7] rfl
  · have h := ite_f hb h
    refine x_iload hc dX9_join_164 1 rfl ?_
    refine x_bipush hc dX9_join_166 kb_60 ?_
    refine x_icmp_ne (tgt := 174) hc dX9_join_168 (by decide) (fun hb => ?_) (fun hb => ?_)
    · have h := ite_f hb h
      refine x_iload hc dX9_join_174 1 rfl ?_
      refine x_istore (L2 := [(10, .int x4), (0, .ref 0), (4, .int x4), (5, .int x5), (6, .int x6), (7, .int x7), (8, .int x8), (9, .int x9)]) hc dX9_join_176 (by decide) rfl ?_
      refine x_aload_n hc dX9_join_178 rfl 1 rfl ?_
      refine x_getR hc dX9_join_179 fl_RX9_50 (q_s hSH sm_0) rfl ?_
      refine x_iload hc dX9_join_182 4 rfl ?_
      refine x_iload hc dX9_join_184 0 rfl ?_
      obtain ⟨b11, h⟩ := ck_some h
      refine x_iast hc dX9_join_186 (q_s hSH sm_14) (inb_in b11) ?_
      refine x_iinc (v := x4 + (1 : Int32)) (L2 := [(4, .int (x4 + (1 : Int32))), (10, .int x4), (0, .ref 0), (5, .int x5), (6, .int x6), (7, .int x7), (8, .int x8), (9, .int x9)]) hc dX9_join_187 2 rfl (by rw [kc_1]) (by decide) rfl ?_
      refine x_aload_n hc dX9_join_190 rfl 2 rfl ?_
      refine x_iload hc dX9_join_191 6 rfl ?_
      refine x_iload hc dX9_join_193 7 rfl ?_
      refine x_iload hc dX9_join_195 4 rfl ?_
      refine x_iconst hc dX9_join_197 kc_2 ?_
      refine x_irem hc dX9_join_198 (by decide) ?_
      refine x_iload hc dX9_join_199 1 rfl ?_
      obtain ⟨q12, h12, h⟩ := bd_some h
      refine x_callVv (As := [.int x8, .int x9, .int (x6 - x6 / (2 : Int32) * (2 : Int32)), .int x4]) (st := []) (o := 0) hc dX9_join_201 cv_X9_shape lk_RX9_166 (q_s hSH sm_0) rfl rfl (q_cn hSH (S_Mo_shape h12)) (by decide) (Nat.le_of_ble_eq_true rfl) ?_
      exact x_sub (S_Mo_join_L76_J204 hc hSH (x4 + (1 : Int32)) x5 x7 x4 q12 h kr ke kb) [2, 0, 3, 5, 1] rfl
    · have h := ite_t hb h
      refine x_bipush hc dX9_join_171 kb_m4 ?_
      cases h
      exact x_iret hc dX9_join_173 (kr _ rfl).1 (kr _ rfl).2

def Mo_join_B76 (v : Int32 × Int32 × QM) : Option (((Int32 × QM) ⊕ (Int32 × Int32 × QM)) ⊕ (Int32 × Int32 × QM)) :=
  (if (v.2.2.1 0 21) ≤ 0 then some (.inl (.inr (v.1, v.2.1, v.2.2))) else ck (inb ((u_i v.2.2 0 21 ((v.2.2.1 0 21) - (1 : Int32))).1 0 21) 600) (ck (inb ((u_i v.2.2 0 21 ((v.2.2.1 0 21) - (1 : Int32))).1 0 21) 600) (Option.bind (Mo_plain (((u_i v.2.2 0 21 ((v.2.2.1 0 21) - (1 : Int32))).1 15 ((u_i v.2.2 0 21 ((v.2.2.1 0 21) - (1 : Int32))).1 0 21).toNatClampNeg) / (120 : Int32)) ((((u_i v.2.2 0 21 ((v.2.2.1 0 21) - (1 : Int32))).1 15 ((u_i v.2.2 0 21 ((v.2.2.1 0 21) - (1 : Int32))).1 0 21).toNatClampNeg) / (2 : Int32)) - (((u_i v.2.2 0 21 ((v.2.2.1 0 21) - (1 : Int32))).1 15 ((u_i v.2.2 0 21 ((v.2.2.1 0 21) - (1 : Int32))).1 0 21).toNatClampNeg) / (2 : Int32)) / (60 : Int32) * (60 : Int32)) (((u_i v.2.2 0 21 ((v.2.2.1 0 21) - (1 : Int32))).1 15 ((u_i v.2.2 0 21 ((v.2.2.1 0 21) - (1 : Int32))).1 0 21).toNatClampNeg) - ((u_i v.2.2 0 21 ((v.2.2.1 0 21) - (1 : Int32))).1 15 ((u_i v.2.2 0 21 ((v.2.2.1 0 21) - (1 : Int32))).1 0 21).toNatClampNeg) / (2 : Int32) * (2 : Int32)) (u_i v.2.2 0 21 ((v.2.2.1 0 21) - (1 : Int32)))) (fun q9 => (if 0 ≤ q9 then Mo_join_L76_J159 v.1 v.2.1 ((u_i v.2.2 0 21 ((v.2.2.1 0 21) - (1 : Int32))).1 15 ((u_i v.2.2 0 21 ((v.2.2.1 0 21) - (1 : Int32))).1 0 21).toNatClampNeg) ((u_i v.2.2 0 21 ((v.2.2.1 0 21) - (1 : Int32))).1 16 ((u_i v.2.2 0 21 ((v.2.2.1 0 21) - (1 : Int32))).1 0 21).toNatClampNeg) (((u_i v.2.2 0 21 ((v.2.2.1 0 21) - (1 : Int32))).1 15 ((u_i v.2.2 0 21 ((v.2.2.1 0 21) - (1 : Int32))).1 0 21).toNatClampNeg) / (120 : Int32)) ((((u_i v.2.2 0 21 ((v.2.2.1 0 21) - (1 : Int32))).1 15 ((u_i v.2.2 0 21 ((v.2.2.1 0 21) - (1 : Int32))).1 0 21).toNatClampNeg) / (2 : Int32)) - (((u_i v.2.2 0 21 ((v.2.2.1 0 21) - (1 : Int32))).1 15 ((u_i v.2.2 0 21 ((v.2.2.1 0 21) - (1 : Int32))).1 0 21).toNatClampNeg) / (2 : Int32)) / (60 : Int32) * (60 : Int32)) q9 (u_i v.2.2 0 21 ((v.2.2.1 0 21) - (1 : Int32))) else ck (inb ((u_i v.2.2 0 21 ((v.2.2.1 0 21) - (1 : Int32))).1 15 ((u_i v.2.2 0 21 ((v.2.2.1 0 21) - (1 : Int32))).1 0 21).toNatClampNeg) 7200) (Mo_join_L76_J159 v.1 v.2.1 ((u_i v.2.2 0 21 ((v.2.2.1 0 21) - (1 : Int32))).1 15 ((u_i v.2.2 0 21 ((v.2.2.1 0 21) - (1 : Int32))).1 0 21).toNatClampNeg) ((u_i v.2.2 0 21 ((v.2.2.1 0 21) - (1 : Int32))).1 16 ((u_i v.2.2 0 21 ((v.2.2.1 0 21) - (1 : Int32))).1 0 21).toNatClampNeg) (((u_i v.2.2 0 21 ((v.2.2.1 0 21) - (1 : Int32))).1 15 ((u_i v.2.2 0 21 ((v.2.2.1 0 21) - (1 : Int32))).1 0 21).toNatClampNeg) / (120 : Int32)) ((((u_i v.2.2 0 21 ((v.2.2.1 0 21) - (1 : Int32))).1 15 ((u_i v.2.2 0 21 ((v.2.2.1 0 21) - (1 : Int32))).1 0 21).toNatClampNeg) / (2 : Int32)) - (((u_i v.2.2 0 21 ((v.2.2.1 0 21) - (1 : Int32))).1 15 ((u_i v.2.2 0 21 ((v.2.2.1 0 21) - (1 : Int32))).1 0 21).toNatClampNeg) / (2 : Int32)) / (60 : Int32) * (60 : Int32)) ((u_i v.2.2 0 21 ((v.2.2.1 0 21) - (1 : Int32))).1 14 ((u_i v.2.2 0 21 ((v.2.2.1 0 21) - (1 : Int32))).1 15 ((u_i v.2.2 0 21 ((v.2.2.1 0 21) - (1 : Int32))).1 0 21).toNatClampNeg).toNatClampNeg) (u_i v.2.2 0 21 ((v.2.2.1 0 21) - (1 : Int32)))))))))

set_option maxRecDepth 20000 in
set_option maxHeartbeats 2000000 in
theorem S_Mo_join_B76 {C : QC} (hc : OKX C RX9 cX9_join 11 3 (some .int)) (hSH : q_SH C = SHM) (v : Int32 × Int32 × QM) {res : ((Int32 × QM) ⊕ (Int32 × Int32 × QM)) ⊕ (Int32 × Int32 × QM)} (h : Mo_join_B76 v = some res) (kr : ∀ x : Int32 × QM, res = .inl (.inl x) → q_r C = some (.int x.1) ∧ q_M C = x.2) (ke : ∀ x : Int32 × Int32 × QM, res = .inl (.inr x) → WX C 11 228 [(0, .ref 0), (4, .int x.1), (5, .int x.2.1)] [] x.2.2) (kb : ∀ x : Int32 × Int32 × QM, res = .inr x → WX C 11 76 [(0, .ref 0), (4, .int x.1), (5, .int x.2.1)] [] x.2.2) : WX C 11 76 [(0, .ref 0), (4, .int v.1), (5, .int v.2.1)] [] v.2.2 := by
  unfold Mo_join_B76 at h
  refine x_aload_n hc dX9_join_76 rfl 0 rfl ?_
  refine x_getI hc dX9_join_77 fl_RX9_157 (q_s hSH sm_0) rfl ?_
  refine x_if_le (tgt := 228) hc dX9_join_80 (by decide) (fun hb => ?_) (fun hb => ?_)
  · have h := ite_t hb h
    cases h
    exact x_sub (ke (v.1, v.2.1, v.2.2) rfl) [0, 1, 2] rfl
  · have h := ite_f hb h
    refine x_aload_n hc dX9_join_83 rfl 0 rfl ?_
    refine x_dup hc dX9_join_84 rfl ?_
    refine x_getI hc dX9_join_85 fl_RX9_157 (q_s hSH sm_0) rfl ?_
    refine x_iconst hc dX9_join_88 kc_1 ?_
    refine x_isub hc dX9_join_89 ?_
    refine x_putI hc dX9_join_90 fl_RX9_157 (fw_9_21 _) (q_s hSH sm_0) rfl ?_
    refine x_aload_n hc dX9_join_93 rfl 0 rfl ?_
    refine x_getR hc dX9_join_94 fl_RX9_53 (q_s hSH sm_0) rfl ?_
    refine x_aload_n hc dX9_join_97 rfl 0 rfl ?_
    refine x_getI hc dX9_join_98 fl_RX9_157 (q_s hSH sm_0) rfl ?_
    obtain ⟨b7, h⟩ := ck_some h
    refine x_iald hc dX9_join_101 (q_s hSH sm_15) (inb_in b7) ?_
    refine x_istore (L2 := [(6, .int ((u_i v.2.2 0 21 ((v.2.2.1 0 21) - (1 : Int32))).1 15 ((u_i v.2.2 0 21 ((v.2.2.1 0 21) - (1 : Int32))).1 0 21).toNatClampNeg)), (0, .ref 0), (4, .int v.1), (5, .int v.2.1)]) hc dX9_join_102 (by decide) rfl ?_
    refine x_aload_n hc dX9_join_104 rfl 1 rfl ?_
    refine x_getR hc dX9_join_105 fl_RX9_56 (q_s hSH sm_0) rfl ?_
    refine x_aload_n hc dX9_join_108 rfl 1 rfl ?_
    refine x_getI hc dX9_join_109 fl_RX9_157 (q_s hSH sm_0) rfl ?_
    obtain ⟨b8, h⟩ := ck_some h
    refine x_iald hc dX9_join_112 (q_s hSH sm_16) (inb_in b8) ?_
    refine x_istore (L2 := [(7, .int ((u_i v.2.2 0 21 ((v.2.2.1 0 21) - (1 : Int32))).1 16 ((u_i v.2.2 0 21 ((v.2.2.1 0 21) - (1 : Int32))).1 0 21).toNatClampNeg)), (6, .int ((u_i v.2.2 0 21 ((v.2.2.1 0 21) - (1 : Int32))).1 15 ((u_i v.2.2 0 21 ((v.2.2.1 0 21) - (1 : Int32))).1 0 21).toNatClampNeg)), (0, .ref 0), (4, .int v.1), (5, .int v.2.1)]) hc dX9_join_113 (by decide) rfl ?_
    refine x_iload hc dX9_join_115 1 rfl ?_
    refine x_bipush hc dX9_join_117 kb_120 ?_
    refine x_idiv hc dX9_join_119 (by decide) ?_
    refine x_istore (L2 := [(8, .int (((u_i v.2.2 0 21 ((v.2.2.1 0 21) - (1 : Int32))).1 15 ((u_i v.2.2 0 21 ((v.2.2.1 0 21) - (1 : Int32))).1 0 21).toNatClampNeg) / (120 : Int32))), (7, .int ((u_i v.2.2 0 21 ((v.2.2.1 0 21) - (1 : Int32))).1 16 ((u_i v.2.2 0 21 ((v.2.2.1 0 21) - (1 : Int32))).1 0 21).toNatClampNeg)), (6, .int ((u_i v.2.2 0 21 ((v.2.2.1 0 21) - (1 : Int32))).1 15 ((u_i v.2.2 0 21 ((v.2.2.1 0 21) - (1 : Int32))).1 0 21).toNatClampNeg)), (0, .ref 0), (4, .int v.1), (5, .int v.2.1)]) hc dX9_join_120 (by decide) rfl ?_
    refine x_iload hc dX9_join_122 2 rfl ?_
    refine x_iconst hc dX9_join_124 kc_2 ?_
    refine x_idiv hc dX9_join_125 (by decide) ?_
    refine x_bipush hc dX9_join_126 kb_60 ?_
    refine x_irem hc dX9_join_128 (by decide) ?_
    refine x_istore (L2 := [(9, .int ((((u_i v.2.2 0 21 ((v.2.2.1 0 21) - (1 : Int32))).1 15 ((u_i v.2.2 0 21 ((v.2.2.1 0 21) - (1 : Int32))).1 0 21).toNatClampNeg) / (2 : Int32)) - (((u_i v.2.2 0 21 ((v.2.2.1 0 21) - (1 : Int32))).1 15 ((u_i v.2.2 0 21 ((v.2.2.1 0 21) - (1 : Int32))).1 0 21).toNatClampNeg) / (2 : Int32)) / (60 : Int32) * (60 : Int32))), (8, .int (((u_i v.2.2 0 21 ((v.2.2.1 0 21) - (1 : Int32))).1 15 ((u_i v.2.2 0 21 ((v.2.2.1 0 21) - (1 : Int32))).1 0 21).toNatClampNeg) / (120 : Int32))), (7, .int ((u_i v.2.2 0 21 ((v.2.2.1 0 21) - (1 : Int32))).1 16 ((u_i v.2.2 0 21 ((v.2.2.1 0 21) - (1 : Int32))).1 0 21).toNatClampNeg)), (6, .int ((u_i v.2.2 0 21 ((v.2.2.1 0 21) - (1 : Int32))).1 15 ((u_i v.2.2 0 21 ((v.2.2.1 0 21) - (1 : Int32))).1 0 21).toNatClampNeg)), (0, .ref 0), (4, .int v.1), (5, .int v.2.1)]) hc dX9_join_129 (by decide) rfl ?_
    refine x_aload_n hc dX9_join_131 rfl 4 rfl ?_
    refine x_iload hc dX9_join_132 1 rfl ?_
    refine x_iload hc dX9_join_134 0 rfl ?_
    refine x_iload hc dX9_join_136 3 rfl ?_
    refine x_iconst hc dX9_join_138 kc_2 ?_
    refine x_irem hc dX9_join_139 (by decide) ?_
    obtain ⟨q9, h9, h⟩ := bd_some h
    refine x_callVi (As := [.int (((u_i v.2.2 0 21 ((v.2.2.1 0 21) - (1 : Int32))).1 15 ((u_i v.2.2 0 21 ((v.2.2.1 0 21) - (1 : Int32))).1 0 21).toNatClampNeg) / (120 : Int32)), .int ((((u_i v.2.2 0 21 ((v.2.2.1 0 21) - (1 : Int32))).1 15 ((u_i v.2.2 0 21 ((v.2.2.1 0 21) - (1 : Int32))).1 0 21).toNatClampNeg) / (2 : Int32)) - (((u_i v.2.2 0 21 ((v.2.2.1 0 21) - (1 : Int32))).1 15 ((u_i v.2.2 0 21 ((v.2.2.1 0 21) - (1 : Int32))).1 0 21).toNatClampNeg) / (2 : Int32)) / (60 : Int32) * (60 : Int32)), .int (((u_i v.2.2 0 21 ((v.2.2.1 0 21) - (1 : Int32))).1 15 ((u_i v.2.2 0 21 ((v.2.2.1 0 21) - (1 : Int32))).1 0 21).toNatClampNeg) - ((u_i v.2.2 0 21 ((v.2.2.1 0 21) - (1 : Int32))).1 15 ((u_i v.2.2 0 21 ((v.2.2.1 0 21) - (1 : Int32))).1 0 21).toNatClampNeg) / (2 : Int32) * (2 : Int32))]) (st := []) (o := 0) hc dX9_join_140 cv_X9_plain lk_RX9_163 (q_s hSH sm_0) rfl rfl (q_cn hSH (S_Mo_plain h9)) (by decide) (Nat.le_of_ble_eq_true rfl) ?_
    refine x_istore (L2 := [(10, .int q9), (9, .int ((((u_i v.2.2 0 21 ((v.2.2.1 0 21) - (1 : Int32))).1 15 ((u_i v.2.2 0 21 ((v.2.2.1 0 21) - (1 : Int32))).1 0 21).toNatClampNeg) / (2 : Int32)) - (((u_i v.2.2 0 21 ((v.2.2.1 0 21) - (1 : Int32))).1 15 ((u_i v.2.2 0 21 ((v.2.2.1 0 21) - (1 : Int32))).1 0 21).toNatClampNeg) / (2 : Int32)) / (60 : Int32) * (60 : Int32))), (8, .int (((u_i v.2.2 0 21 ((v.2.2.1 0 21) - (1 : Int32))).1 15 ((u_i v.2.2 0 21 ((v.2.2.1 0 21) - (1 : Int32))).1 0 21).toNatClampNeg) / (120 : Int32))), (7, .int ((u_i v.2.2 0 21 ((v.2.2.1 0 21) - (1 : Int32))).1 16 ((u_i v.2.2 0 21 ((v.2.2.1 0 21) - (1 : Int32))).1 0 21).toNatClampNeg)), (6, .int ((u_i v.2.2 0 21 ((v.2.2.1 0 21) - (1 : Int32))).1 15 ((u_i v.2.2 0 21 ((v.2.2.1 0 21) - (1 : Int32))).1 0 21).toNatClampNeg)), (0, .ref 0), (4, .int v.1), (5, .int v.2.1)]) hc dX9_join_143 (by decide) rfl ?_
    refine x_iload hc dX9_join_145 0 rfl ?_
    refine x_if_ge (tgt := 159) hc dX9_join_147 (by decide) (fun hb => ?_) (fun hb => ?_)
    · have h := ite_t hb h
      exact x_sub (S_Mo_join_L76_J159 hc hSH v.1 v.2.1 ((u_i v.2.2 0 21 ((v.2.2.1 0 21) - (1 : Int32))).1 15 ((u_i v.2.2 0 21 ((v.2.2.1 0 21) - (1 : Int32))).1 0 21).toNatClampNeg) ((u_i v.2.2 0 21 ((v.2.2.1 0 21) - (1 : Int32))).1 16 ((u_i v.2.2 0 21 ((v.2.2.1 0 21) - (1 : Int32))).1 0 21).toNatClampNeg) (((u_i v.2.2 0 21 ((v.2.2.1 0 21) - (1 : Int32))).1 15 ((u_i v.2.2 0 21 ((v.2.2.1 0 21) - (1 : Int32))).1 0 21).toNatClampNeg) / (120 : Int32)) ((((u_i v.2.2 0 21 ((v.2.2.1 0 21) - (1 : Int32))).1 15 ((u_i v.2.2 0 21 ((v.2.2.1 0 21) - (1 : Int32))).1 0 21).toNatClampNeg) / (2 : Int32)) - (((u_i v.2.2 0 21 ((v.2.2.1 0 21) - (1 : Int32))).1 15 ((u_i v.2.2 0 21 ((v.2.2.1 0 21) - (1 : Int32))).1 0 21).toNatClampNeg) / (2 : Int32)) / (60 : Int32) * (60 : Int32)) q9 (u_i v.2.2 0 21 ((v.2.2.1 0 21) - (1 : Int32))) h kr ke kb) [5, 6, 7, 4, 3, 2, 1, 0] rfl
    · have h := ite_f hb h
      refine x_aload_n hc dX9_join_150 rfl 5 rfl ?_
      refine x_getR hc dX9_join_151 fl_RX9_50 (q_s hSH sm_0) rfl ?_
      refine x_iload hc dX9_join_154 4 rfl ?_
      obtain ⟨b13, h⟩ := ck_some h
      refine x_iald hc dX9_join_156 (q_s hSH sm_14) (inb_in b13) ?_
      refine x_istore (L2 := [(10, .int ((u_i v.2.2 0 21 ((v.2.2.1 0 21) - (1 : Int32))).1 14 ((u_i v.2.2 0 21 ((v.2.2.1 0 21) - (1 : Int32))).1 15 ((u_i v.2.2 0 21 ((v.2.2.1 0 21) - (1 : Int32))).1 0 21).toNatClampNeg).toNatClampNeg)), (9, .int ((((u_i v.2.2 0 21 ((v.2.2.1 0 21) - (1 : Int32))).1 15 ((u_i v.2.2 0 21 ((v.2.2.1 0 21) - (1 : Int32))).1 0 21).toNatClampNeg) / (2 : Int32)) - (((u_i v.2.2 0 21 ((v.2.2.1 0 21) - (1 : Int32))).1 15 ((u_i v.2.2 0 21 ((v.2.2.1 0 21) - (1 : Int32))).1 0 21).toNatClampNeg) / (2 : Int32)) / (60 : Int32) * (60 : Int32))), (8, .int (((u_i v.2.2 0 21 ((v.2.2.1 0 21) - (1 : Int32))).1 15 ((u_i v.2.2 0 21 ((v.2.2.1 0 21) - (1 : Int32))).1 0 21).toNatClampNeg) / (120 : Int32))), (7, .int ((u_i v.2.2 0 21 ((v.2.2.1 0 21) - (1 : Int32))).1 16 ((u_i v.2.2 0 21 ((v.2.2.1 0 21) - (1 : Int32))).1 0 21).toNatClampNeg)), (6, .int ((u_i v.2.2 0 21 ((v.2.2.1 0 21) - (1 : Int32))).1 15 ((u_i v.2.2 0 21 ((v.2.2.1 0 21) - (1 : Int32))).1 0 21).toNatClampNeg)), (0, .ref 0), (4, .int v.1), (5, .int v.2.1)]) hc dX9_join_157 (by decide) rfl ?_
      exact x_sub (S_Mo_join_L76_J159 hc hSH v.1 v.2.1 ((u_i v.2.2 0 21 ((v.2.2.1 0 21) - (1 : Int32))).1 15 ((u_i v.2.2 0 21 ((v.2.2.1 0 21) - (1 : Int32))).1 0 21).toNatClampNeg) ((u_i v.2.2 0 21 ((v.2.2.1 0 21) - (1 : Int32))).1 16 ((u_i v.2.2 0 21 ((v.2.2.1 0 21) - (1 : Int32))).1 0 21).toNatClampNeg) (((u_i v.2.2 0 21 ((v.2.2.1 0 21) - (1 : Int32))).1 15 ((u_i v.2.2 0 21 ((v.2.2.1 0 21) - (1 : Int32))).1 0 21).toNatClampNeg) / (120 : Int32)) ((((u_i v.2.2 0 21 ((v.2.2.1 0 21) - (1 : Int32))).1 15 ((u_i v.2.2 0 21 ((v.2.2.1 0 21) - (1 : Int32))).1 0 21).toNatClampNeg) / (2 : Int32)) - (((u_i v.2.2 0 21 ((v.2.2.1 0 21) - (1 : Int32))).1 15 ((u_i v.2.2 0 21 ((v.2.2.1 0 21) - (1 : Int32))).1 0 21).toNatClampNeg) / (2 : Int32)) / (60 : Int32) * (60 : Int32)) ((u_i v.2.2 0 21 ((v.2.2.1 0 21) - (1 : Int32))).1 14 ((u_i v.2.2 0 21 ((v.2.2.1 0 21) - (1 : Int32))).1 15 ((u_i v.2.2 0 21 ((v.2.2.1 0 21) - (1 : Int32))).1 0 21).toNatClampNeg).toNatClampNeg) (u_i v.2.2 0 21 ((v.2.2.1 0 21) - (1 : Int32))) h kr ke kb) [5, 6, 7, 4, 3, 2, 1, 0] rfl

theorem S_Mo_join_L76 {C : QC} (hc : OKX C RX9 cX9_join 11 3 (some .int)) (hSH : q_SH C = SHM) {n : Nat} {v : Int32 × Int32 × QM} {e : (Int32 × QM) ⊕ (Int32 × Int32 × QM)} (h : iter (Mo_join_B76) n v = some e) (kr : ∀ x : Int32 × QM, e = .inl x → q_r C = some (.int x.1) ∧ q_M C = x.2) (ke : ∀ x : Int32 × Int32 × QM, e = .inr x → WX C 11 228 [(0, .ref 0), (4, .int x.1), (5, .int x.2.1)] [] x.2.2) : WX C 11 76 [(0, .ref 0), (4, .int v.1), (5, .int v.2.1)] [] v.2.2 :=
  iter_W (Wh := fun v => WX C 11 76 [(0, .ref 0), (4, .int v.1), (5, .int v.2.1)] [] v.2.2) (fun a res hB k1 k2 => S_Mo_join_B76 hc hSH a hB (fun x hx => kr x (k1 _ hx).symm) (fun x hx => ke x (k1 _ hx).symm) k2) n v h

def Mo_join (p1 : Int32) (p2 : Int32) (p3 : Int32) (M : QM) : Option (Int32 × QM) :=
  Option.bind (Mo_areNodes p1 p2 M) (fun q1 => (if q1 = 0 then some ((-1 : Int32), M) else Option.bind (Mo_in p3 (0 : Int32) (1 : Int32) M) (fun q2 => (if q2 = 0 then some ((-2 : Int32), M) else Option.bind (Mo_lay M) (fun q3 => Option.bind (iter (Mo_join_B36 p1 p2 p3 (q3.1 0 2)) FU ((0 : Int32), q3)) (fun e5 => Option.bind (Mo_waitFor p1 p2 p3 (-1 : Int32) (u_i e5 0 21 (0 : Int32))) (fun q6 => Option.bind (iter (Mo_join_B76) FU (q3.1 0 2, (-6 : Int32), q6)) (fun e14 => Sum.elim (fun r14 => some r14) (fun y14 => (if y14.1 ≤ (y14.2.2.1 0 2) then some (y14.2.1, y14.2.2) else some (y14.2.1, u_i (u_i y14.2.2 0 2 y14.1) 0 15 (0 : Int32)))) e14))))))))

set_option maxRecDepth 20000 in
set_option maxHeartbeats 2000000 in
theorem S_Mo_join  {p1 : Int32} {p2 : Int32} {p3 : Int32} {M : QM} {res : Int32 × QM} (h : Mo_join p1 p2 p3 M = some res) : Cn yX9_join cX9_join 11 (some .int) 3 SHM [.ref 0, .int p1, .int p2, .int p3] M (some (.int res.1)) res.2 := by
  refine q_enter (L := [(0, .ref 0), (1, .int p1), (2, .int p2), (3, .int p3)]) (by decide) (Nat.le_of_ble_eq_true rfl) rfl ?_
  intro C hc hSH hr hM
  have hc : OKX C RX9 cX9_join 11 3 (some .int) := hc
  unfold Mo_join at h
  refine x_aload_n hc dX9_join_0 rfl 0 rfl ?_
  refine x_iload_n hc dX9_join_1 rfl 1 rfl ?_
  refine x_iload_n hc dX9_join_2 rfl 2 rfl ?_
  obtain ⟨q1, h1, h⟩ := bd_some h
  refine x_callVi (As := [.int p1, .int p2]) (st := []) (o := 0) hc dX9_join_3 cv_X9_areNodes lk_RX9_142 (q_s hSH sm_0) rfl rfl (q_cn hSH (S_Mo_areNodes h1)) (by decide) (Nat.le_of_ble_eq_true rfl) ?_
  refine x_if_ne (tgt := 11) hc dX9_join_6 (by decide) (fun hb => ?_) (fun hb => ?_)
  · have h := ite_f hb h
    refine x_iload_n hc dX9_join_11 rfl 3 rfl ?_
    refine x_iconst hc dX9_join_12 kc_0 ?_
    refine x_iconst hc dX9_join_13 kc_1 ?_
    obtain ⟨q2, h2, h⟩ := bd_some h
    refine x_callSi (As := [.int p3, .int (0 : Int32), .int (1 : Int32)]) (st := []) hc dX9_join_14 cs_X9_in lk_RX9_84 rfl (q_cn hSH (S_Mo_in h2)) (by decide) (Nat.le_of_ble_eq_true rfl) ?_
    refine x_if_ne (tgt := 23) hc dX9_join_17 (by decide) (fun hb => ?_) (fun hb => ?_)
    · have h := ite_f hb h
      refine x_aload_n hc dX9_join_23 rfl 0 rfl ?_
      obtain ⟨q3, h3, h⟩ := bd_some h
      refine x_callVv (As := []) (st := []) (o := 0) hc dX9_join_24 cv_X9_lay lk_RX9_145 (q_s hSH sm_0) rfl rfl (q_cn hSH (S_Mo_lay h3)) (by decide) (Nat.le_of_ble_eq_true rfl) ?_
      refine x_aload_n hc dX9_join_27 rfl 0 rfl ?_
      refine x_getI hc dX9_join_28 fl_RX9_116 (q_s hSH sm_0) rfl ?_
      refine x_istore (L2 := [(4, .int (q3.1 0 2)), (0, .ref 0), (1, .int p1), (2, .int p2), (3, .int p3)]) hc dX9_join_31 (by decide) rfl ?_
      refine x_iconst hc dX9_join_33 kc_0 ?_
      refine x_istore (L2 := [(5, .int (0 : Int32)), (4, .int (q3.1 0 2)), (0, .ref 0), (1, .int p1), (2, .int p2), (3, .int p3)]) hc dX9_join_34 (by decide) rfl ?_
      obtain ⟨e5, h5, h⟩ := bd_some h
      refine x_sub (S_Mo_join_L36 hc hSH p1 p2 p3 (q3.1 0 2) (v := ((0 : Int32), q3)) h5 (fun x hx => ?_)) [2, 3, 4, 5, 1, 0] rfl
      subst hx
      refine x_aload_n hc dX9_join_59 rfl 0 rfl ?_
      refine x_iconst hc dX9_join_60 kc_0 ?_
      refine x_putI hc dX9_join_61 fl_RX9_157 (fw_9_21 _) (q_s hSH sm_0) rfl ?_
      refine x_aload_n hc dX9_join_64 rfl 0 rfl ?_
      refine x_iload_n hc dX9_join_65 rfl 1 rfl ?_
      refine x_iload_n hc dX9_join_66 rfl 2 rfl ?_
      refine x_iload_n hc dX9_join_67 rfl 3 rfl ?_
      refine x_iconst hc dX9_join_68 kc_m1 ?_
      obtain ⟨q6, h6, h⟩ := bd_some h
      refine x_callVv (As := [.int p1, .int p2, .int p3, .int (-1 : Int32)]) (st := []) (o := 0) hc dX9_join_69 cv_X9_waitFor lk_RX9_160 (q_s hSH sm_0) rfl rfl (q_cn hSH (S_Mo_waitFor h6)) (by decide) (Nat.le_of_ble_eq_true rfl) ?_
      refine x_bipush hc dX9_join_72 kb_m6 ?_
      refine x_istore (L2 := [(5, .int (-6 : Int32)), (0, .ref 0), (1, .int p1), (2, .int p2), (3, .int p3), (4, .int (q3.1 0 2))]) hc dX9_join_74 (by decide) rfl ?_
      obtain ⟨e14, h14, h⟩ := bd_some h
      refine x_sub (S_Mo_join_L76 hc hSH (v := (q3.1 0 2, (-6 : Int32), q6)) h14 (fun r14 hx => ?_) (fun y14 hx => ?_)) [1, 5, 0] rfl
      · subst hx
        have h := sum_l h
        cases h
        exact ⟨hr, hM⟩
      · subst hx
        have h := sum_r h
        refine x_iload hc dX9_join_228 1 rfl ?_
        refine x_aload_n hc dX9_join_230 rfl 0 rfl ?_
        refine x_getI hc dX9_join_231 fl_RX9_116 (q_s hSH sm_0) rfl ?_
        refine x_icmp_le (tgt := 248) hc dX9_join_234 (by decide) (fun hb => ?_) (fun hb => ?_)
        · have h := ite_t hb h
          refine x_iload hc dX9_join_248 2 rfl ?_
          cases h
          exact x_iret hc dX9_join_250 hr hM
        · have h := ite_f hb h
          refine x_aload_n hc dX9_join_237 rfl 0 rfl ?_
          refine x_iload hc dX9_join_238 1 rfl ?_
          refine x_putI hc dX9_join_240 fl_RX9_116 (fw_9_2 _) (q_s hSH sm_0) rfl ?_
          refine x_aload_n hc dX9_join_243 rfl 0 rfl ?_
          refine x_iconst hc dX9_join_244 kc_0 ?_
          refine x_putI hc dX9_join_245 fl_RX9_119 (fw_9_15 _ (Or.inl rfl)) (q_s hSH sm_0) rfl ?_
          refine x_iload hc dX9_join_248 2 rfl ?_
          cases h
          exact x_iret hc dX9_join_250 hr hM
    · have h := ite_t hb h
      refine x_bipush hc dX9_join_20 kb_m2 ?_
      cases h
      exact x_iret hc dX9_join_22 hr hM
  · have h := ite_t hb h
    refine x_iconst hc dX9_join_9 kc_m1 ?_
    cases h
    exact x_iret hc dX9_join_10 hr hM

def Mo_layLeast_B2 (v : Int32 × QM) : Option ((QM) ⊕ (Int32 × QM)) :=
  (if (v.2.1 0 2) ≤ v.1 then some (.inl v.2) else ck (inb v.1 60) (some (.inr (v.1 + (1 : Int32), u_i v.2 24 v.1.toNatClampNeg (100000 : Int32)))))

set_option maxRecDepth 20000 in
set_option maxHeartbeats 2000000 in
theorem S_Mo_layLeast_B2 {C : QC} (hc : OKX C RX9 cX9_layLeast 8 0 none) (hSH : q_SH C = SHM) (v : Int32 × QM) {res : (QM) ⊕ (Int32 × QM)} (h : Mo_layLeast_B2 v = some res) (ke : ∀ x : QM, res = .inl x → WX C 8 24 [(0, .ref 0)] [] x) (kb : ∀ x : Int32 × QM, res = .inr x → WX C 8 2 [(0, .ref 0), (1, .int x.1)] [] x.2) : WX C 8 2 [(0, .ref 0), (1, .int v.1)] [] v.2 := by
  unfold Mo_layLeast_B2 at h
  refine x_iload_n hc dX9_layLeast_2 rfl 1 rfl ?_
  refine x_aload_n hc dX9_layLeast_3 rfl 0 rfl ?_
  refine x_getI hc dX9_layLeast_4 fl_RX9_116 (q_s hSH sm_0) rfl ?_
  refine x_icmp_ge (tgt := 24) hc dX9_layLeast_7 (by decide) (fun hb => ?_) (fun hb => ?_)
  · have h := ite_t hb h
    cases h
    exact x_sub (ke v.2 rfl) [0] rfl
  · have h := ite_f hb h
    refine x_aload_n hc dX9_layLeast_10 rfl 0 rfl ?_
    refine x_getR hc dX9_layLeast_11 fl_RX9_81 (q_s hSH sm_0) rfl ?_
    refine x_iload_n hc dX9_layLeast_14 rfl 1 rfl ?_
    refine x_ldc hc dX9_layLeast_15 kd_RX9_137 ?_
    obtain ⟨b1, h⟩ := ck_some h
    refine x_iast hc dX9_layLeast_17 (q_s hSH sm_24) (inb_in b1) ?_
    refine x_iinc (v := v.1 + (1 : Int32)) (L2 := [(1, .int (v.1 + (1 : Int32))), (0, .ref 0)]) hc dX9_layLeast_18 1 rfl (by rw [kc_1]) (by decide) rfl ?_
    refine x_goto (tgt := 2) hc dX9_layLeast_21 (by decide) ?_
    cases h
    exact x_sub (kb (v.1 + (1 : Int32), u_i v.2 24 v.1.toNatClampNeg (100000 : Int32)) rfl) [1, 0] rfl

theorem S_Mo_layLeast_L2 {C : QC} (hc : OKX C RX9 cX9_layLeast 8 0 none) (hSH : q_SH C = SHM) {n : Nat} {v : Int32 × QM} {e : QM} (h : iter (Mo_layLeast_B2) n v = some e) (ke : ∀ x : QM, e = x → WX C 8 24 [(0, .ref 0)] [] x) : WX C 8 2 [(0, .ref 0), (1, .int v.1)] [] v.2 :=
  iter_W (Wh := fun v => WX C 8 2 [(0, .ref 0), (1, .int v.1)] [] v.2) (fun a res hB k1 k2 => S_Mo_layLeast_B2 hc hSH a hB (fun x hx => ke x (k1 _ hx).symm) k2) n v h

def Mo_layLeast_L59_J98 (x1 : Int32) (x2 : Int32) (x3 : Int32) (x5 : Int32) (x6 : Int32) (x7 : Int32) (s0 : Int32) (s1 : Int32) (M : QM) : Option ((Int32 × Int32) ⊕ (Int32 × Int32 × Int32)) :=
  (if x7 < 0 then some (.inr (s1 + s0, x5, x6 + (1 : Int32))) else ck (inb x7 60) ((if x5 ≤ (M.1 24 x7.toNatClampNeg) then some (.inr (s1 + s0, x5, x6 + (1 : Int32))) else ck (inb x7 60) (some (.inr (s1 + s0, M.1 24 x7.toNatClampNeg, x6 + (1 : Int32)))))))

set_option maxRecDepth 20000 in
set_option maxHeartbeats 2000000 in
theorem S_Mo_layLeast_L59_J98 {C : QC} (hc : OKX C RX9 cX9_layLeast 8 0 none) (hSH : q_SH C = SHM) (x1 : Int32) (x2 : Int32) (x3 : Int32) (x5 : Int32) (x6 : Int32) (x7 : Int32) (s0 : Int32) (s1 : Int32) (M : QM) {res : (Int32 × Int32) ⊕ (Int32 × Int32 × Int32)} (h : Mo_layLeast_L59_J98 x1 x2 x3 x5 x6 x7 s0 s1 M = some res) (ke : ∀ x : Int32 × Int32, res = .inl x → WX C 8 138 [(0, .ref 0), (1, .int x1), (2, .int x2), (3, .int x3), (4, .int x.1), (5, .int x.2)] [] M) (kb : ∀ x : Int32 × Int32 × Int32, res = .inr x → WX C 8 59 [(0, .ref 0), (1, .int x1), (2, .int x2), (3, .int x3), (4, .int x.1), (5, .int x.2.1), (6, .int x.2.2)] [] M) : WX C 8 98 [(0, .ref 0), (1, .int x1), (2, .int x2), (3, .int x3), (5, .int x5), (6, .int x6), (7, .int x7)] [.int s0, .int s1] M := by
  unfold Mo_layLeast_L59_J98 at h
  refine x_iadd hc dX9_layLeast_98 ?_
  refine x_istore (L2 := [(4, .int (s1 + s0)), (0, .ref 0), (1, .int x1), (2, .int x2), (3, .int x3), (5, .int x5), (6, .int x6), (7, .int x7)]) hc dX9_layLeast_99 (by decide) rfl ?_
  refine x_iload hc dX9_layLeast_101 7 rfl ?_
  refine x_if_lt (tgt := 128) hc dX9_layLeast_103 (by decide) (fun hb => ?_) (fun hb => ?_)
  · have h := ite_t hb h
    refine x_iload hc dX9_layLeast_128 5 rfl ?_
    refine x_istore (L2 := [(5, .int x5), (4, .int (s1 + s0)), (0, .ref 0), (1, .int x1), (2, .int x2), (3, .int x3), (6, .int x6), (7, .int x7)]) hc dX9_layLeast_130 (by decide) rfl ?_
    refine x_iinc (v := x6 + (1 : Int32)) (L2 := [(6, .int (x6 + (1 : Int32))), (5, .int x5), (4, .int (s1 + s0)), (0, .ref 0), (1, .int x1), (2, .int x2), (3, .int x3), (7, .int x7)]) hc dX9_layLeast_132 6 rfl (by rw [kc_1]) (by decide) rfl ?_
    refine x_goto (tgt := 59) hc dX9_layLeast_135 (by decide) ?_
    cases h
    exact x_sub (kb (s1 + s0, x5, x6 + (1 : Int32)) rfl) [3, 4, 5, 6, 2, 1, 0] rfl
  · have h := ite_f hb h
    refine x_aload_n hc dX9_layLeast_106 rfl 1 rfl ?_
    refine x_getR hc dX9_layLeast_107 fl_RX9_81 (q_s hSH sm_0) rfl ?_
    refine x_iload hc dX9_layLeast_110 7 rfl ?_
    obtain ⟨b5, h⟩ := ck_some h
    refine x_iald hc dX9_layLeast_112 (q_s hSH sm_24) (inb_in b5) ?_
    refine x_iload hc dX9_layLeast_113 5 rfl ?_
    refine x_icmp_ge (tgt := 128) hc dX9_layLeast_115 (by decide) (fun hb => ?_) (fun hb => ?_)
    · have h := ite_t hb h
      refine x_iload hc dX9_layLeast_128 5 rfl ?_
      refine x_istore (L2 := [(5, .int x5), (4, .int (s1 + s0)), (0, .ref 0), (1, .int x1), (2, .int x2), (3, .int x3), (6, .int x6), (7, .int x7)]) hc dX9_layLeast_130 (by decide) rfl ?_
      refine x_iinc (v := x6 + (1 : Int32)) (L2 := [(6, .int (x6 + (1 : Int32))), (5, .int x5), (4, .int (s1 + s0)), (0, .ref 0), (1, .int x1), (2, .int x2), (3, .int x3), (7, .int x7)]) hc dX9_layLeast_132 6 rfl (by rw [kc_1]) (by decide) rfl ?_
      refine x_goto (tgt := 59) hc dX9_layLeast_135 (by decide) ?_
      cases h
      exact x_sub (kb (s1 + s0, x5, x6 + (1 : Int32)) rfl) [3, 4, 5, 6, 2, 1, 0] rfl
    · have h := ite_f hb h
      refine x_aload_n hc dX9_layLeast_118 rfl 1 rfl ?_
      refine x_getR hc dX9_layLeast_119 fl_RX9_81 (q_s hSH sm_0) rfl ?_
      refine x_iload hc dX9_layLeast_122 7 rfl ?_
      obtain ⟨b6, h⟩ := ck_some h
      refine x_iald hc dX9_layLeast_124 (q_s hSH sm_24) (inb_in b6) ?_
      refine x_goto (tgt := 130) hc dX9_layLeast_125 (by decide) ?_
      refine x_istore (L2 := [(5, .int (M.1 24 x7.toNatClampNeg)), (4, .int (s1 + s0)), (0, .ref 0), (1, .int x1), (2, .int x2), (3, .int x3), (6, .int x6), (7, .int x7)]) hc dX9_layLeast_130 (by decide) rfl ?_
      refine x_iinc (v := x6 + (1 : Int32)) (L2 := [(6, .int (x6 + (1 : Int32))), (5, .int (M.1 24 x7.toNatClampNeg)), (4, .int (s1 + s0)), (0, .ref 0), (1, .int x1), (2, .int x2), (3, .int x3), (7, .int x7)]) hc dX9_layLeast_132 6 rfl (by rw [kc_1]) (by decide) rfl ?_
      refine x_goto (tgt := 59) hc dX9_layLeast_135 (by decide) ?_
      cases h
      exact x_sub (kb (s1 + s0, M.1 24 x7.toNatClampNeg, x6 + (1 : Int32)) rfl) [3, 4, 5, 6, 2, 1, 0] rfl

def Mo_layLeast_B59 (x1 : Int32) (x2 : Int32) (x3 : Int32) (M : QM) (v : Int32 × Int32 × Int32) : Option ((Int32 × Int32) ⊕ (Int32 × Int32 × Int32)) :=
  (if (8 : Int32) ≤ v.2.2 then some (.inl (v.1, v.2.1)) else ck (inb (((8 : Int32) * x2) + v.2.2) 480) ((if (M.1 3 (((8 : Int32) * x2) + v.2.2).toNatClampNeg) < 0 then Mo_layLeast_L59_J98 x1 x2 x3 v.2.1 v.2.2 (M.1 3 (((8 : Int32) * x2) + v.2.2).toNatClampNeg) (0 : Int32) v.1 M else ck (inb (M.1 3 (((8 : Int32) * x2) + v.2.2).toNatClampNeg) 60) (Mo_layLeast_L59_J98 x1 x2 x3 v.2.1 v.2.2 (M.1 3 (((8 : Int32) * x2) + v.2.2).toNatClampNeg) (M.1 24 (M.1 3 (((8 : Int32) * x2) + v.2.2).toNatClampNeg).toNatClampNeg) v.1 M))))

set_option maxRecDepth 20000 in
set_option maxHeartbeats 2000000 in
theorem S_Mo_layLeast_B59 {C : QC} (hc : OKX C RX9 cX9_layLeast 8 0 none) (hSH : q_SH C = SHM) (x1 : Int32) (x2 : Int32) (x3 : Int32) (M : QM) (v : Int32 × Int32 × Int32) {res : (Int32 × Int32) ⊕ (Int32 × Int32 × Int32)} (h : Mo_layLeast_B59 x1 x2 x3 M v = some res) (ke : ∀ x : Int32 × Int32, res = .inl x → WX C 8 138 [(0, .ref 0), (1, .int x1), (2, .int x2), (3, .int x3), (4, .int x.1), (5, .int x.2)] [] M) (kb : ∀ x : Int32 × Int32 × Int32, res = .inr x → WX C 8 59 [(0, .ref 0), (1, .int x1), (2, .int x2), (3, .int x3), (4, .int x.1), (5, .int x.2.1), (6, .int x.2.2)] [] M) : WX C 8 59 [(0, .ref 0), (1, .int x1), (2, .int x2), (3, .int x3), (4, .int v.1), (5, .int v.2.1), (6, .int v.2.2)] [] M := by
  unfold Mo_layLeast_B59 at h
  refine x_iload hc dX9_layLeast_59 6 rfl ?_
  refine x_bipush hc dX9_layLeast_61 kb_8 ?_
  refine x_icmp_ge (tgt := 138) hc dX9_layLeast_63 (by decide) (fun hb => ?_) (fun hb => ?_)
  · have h := ite_t hb h
    cases h
    exact x_sub (ke (v.1, v.2.1) rfl) [0, 1, 2, 3, 4, 5] rfl
  · have h := ite_f hb h
    refine x_aload_n hc dX9_layLeast_66 rfl 0 rfl ?_
    refine x_getR hc dX9_layLeast_67 fl_RX9_16 (q_s hSH sm_0) rfl ?_
    refine x_bipush hc dX9_layLeast_70 kb_8 ?_
    refine x_iload_n hc dX9_layLeast_72 rfl 2 rfl ?_
    refine x_imul hc dX9_layLeast_73 ?_
    refine x_iload hc dX9_layLeast_74 6 rfl ?_
    refine x_iadd hc dX9_layLeast_76 ?_
    obtain ⟨b4, h⟩ := ck_some h
    refine x_iald hc dX9_layLeast_77 (q_s hSH sm_3) (inb_in b4) ?_
    refine x_istore (L2 := [(7, .int (M.1 3 (((8 : Int32) * x2) + v.2.2).toNatClampNeg)), (0, .ref 0), (1, .int x1), (2, .int x2), (3, .int x3), (4, .int v.1), (5, .int v.2.1), (6, .int v.2.2)]) hc dX9_layLeast_78 (by decide) rfl ?_
    refine x_iload hc dX9_layLeast_80 5 rfl ?_
    refine x_iload hc dX9_layLeast_82 0 rfl ?_
    refine x_if_lt (tgt := 97) hc dX9_layLeast_84 (by decide) (fun hb => ?_) (fun hb => ?_)
    · have h := ite_t hb h
      refine x_iconst hc dX9_layLeast_97 kc_0 ?_
      exact x_sub (S_Mo_layLeast_L59_J98 hc hSH x1 x2 x3 v.2.1 v.2.2 (M.1 3 (((8 : Int32) * x2) + v.2.2).toNatClampNeg) (0 : Int32) v.1 M h ke kb) [1, 2, 3, 4, 6, 7, 0] rfl
    · have h := ite_f hb h
      refine x_aload_n hc dX9_layLeast_87 rfl 1 rfl ?_
      refine x_getR hc dX9_layLeast_88 fl_RX9_81 (q_s hSH sm_0) rfl ?_
      refine x_iload hc dX9_layLeast_91 0 rfl ?_
      obtain ⟨b7, h⟩ := ck_some h
      refine x_iald hc dX9_layLeast_93 (q_s hSH sm_24) (inb_in b7) ?_
      refine x_goto (tgt := 98) hc dX9_layLeast_94 (by decide) ?_
      exact x_sub (S_Mo_layLeast_L59_J98 hc hSH x1 x2 x3 v.2.1 v.2.2 (M.1 3 (((8 : Int32) * x2) + v.2.2).toNatClampNeg) (M.1 24 (M.1 3 (((8 : Int32) * x2) + v.2.2).toNatClampNeg).toNatClampNeg) v.1 M h ke kb) [1, 2, 3, 4, 6, 7, 0] rfl

theorem S_Mo_layLeast_L59 {C : QC} (hc : OKX C RX9 cX9_layLeast 8 0 none) (hSH : q_SH C = SHM) (x1 : Int32) (x2 : Int32) (x3 : Int32) (M : QM) {n : Nat} {v : Int32 × Int32 × Int32} {e : Int32 × Int32} (h : iter (Mo_layLeast_B59 x1 x2 x3 M) n v = some e) (ke : ∀ x : Int32 × Int32, e = x → WX C 8 138 [(0, .ref 0), (1, .int x1), (2, .int x2), (3, .int x3), (4, .int x.1), (5, .int x.2)] [] M) : WX C 8 59 [(0, .ref 0), (1, .int x1), (2, .int x2), (3, .int x3), (4, .int v.1), (5, .int v.2.1), (6, .int v.2.2)] [] M :=
  iter_W (Wh := fun v => WX C 8 59 [(0, .ref 0), (1, .int x1), (2, .int x2), (3, .int x3), (4, .int v.1), (5, .int v.2.1), (6, .int v.2.2)] [] M) (fun a res hB k1 k2 => S_Mo_layLeast_B59 hc hSH x1 x2 x3 M a hB (fun x hx => ke x (k1 _ hx).symm) k2) n v h

def Mo_layLeast_L34_J192 (x1 : Int32) (x2 : Int32) (s0 : Int32) (M : QM) : Option ((Int32 × QM) ⊕ (Int32 × Int32 × QM)) :=
  ck (inb x2 60) ((if (M.1 24 x2.toNatClampNeg) ≤ s0 then some (.inr (x1, x2 + (1 : Int32), M)) else ck (inb x2 60) (some (.inr ((1 : Int32), x2 + (1 : Int32), u_i M 24 x2.toNatClampNeg s0)))))

set_option maxRecDepth 20000 in
set_option maxHeartbeats 2000000 in
theorem S_Mo_layLeast_L34_J192 {C : QC} (hc : OKX C RX9 cX9_layLeast 8 0 none) (hSH : q_SH C = SHM) (x1 : Int32) (x2 : Int32) (s0 : Int32) (M : QM) {res : (Int32 × QM) ⊕ (Int32 × Int32 × QM)} (h : Mo_layLeast_L34_J192 x1 x2 s0 M = some res) (ke : ∀ x : Int32 × QM, res = .inl x → WX C 8 221 [(0, .ref 0), (1, .int x.1)] [] x.2) (kb : ∀ x : Int32 × Int32 × QM, res = .inr x → WX C 8 34 [(0, .ref 0), (1, .int x.1), (2, .int x.2.1)] [] x.2.2) : WX C 8 192 [(0, .ref 0), (1, .int x1), (2, .int x2)] [.int s0] M := by
  unfold Mo_layLeast_L34_J192 at h
  refine x_istore (L2 := [(6, .int s0), (0, .ref 0), (1, .int x1), (2, .int x2)]) hc dX9_layLeast_192 (by decide) rfl ?_
  refine x_iload hc dX9_layLeast_194 0 rfl ?_
  refine x_aload_n hc dX9_layLeast_196 rfl 1 rfl ?_
  refine x_getR hc dX9_layLeast_197 fl_RX9_81 (q_s hSH sm_0) rfl ?_
  refine x_iload_n hc dX9_layLeast_200 rfl 3 rfl ?_
  obtain ⟨b9, h⟩ := ck_some h
  refine x_iald hc dX9_layLeast_201 (q_s hSH sm_24) (inb_in b9) ?_
  refine x_icmp_ge (tgt := 215) hc dX9_layLeast_202 (by decide) (fun hb => ?_) (fun hb => ?_)
  · have h := ite_t hb h
    refine x_iinc (v := x2 + (1 : Int32)) (L2 := [(2, .int (x2 + (1 : Int32))), (6, .int s0), (0, .ref 0), (1, .int x1)]) hc dX9_layLeast_215 3 rfl (by rw [kc_1]) (by decide) rfl ?_
    refine x_goto (tgt := 34) hc dX9_layLeast_218 (by decide) ?_
    cases h
    exact x_sub (kb (x1, x2 + (1 : Int32), M) rfl) [2, 3, 0] rfl
  · have h := ite_f hb h
    refine x_aload_n hc dX9_layLeast_205 rfl 1 rfl ?_
    refine x_getR hc dX9_layLeast_206 fl_RX9_81 (q_s hSH sm_0) rfl ?_
    refine x_iload_n hc dX9_layLeast_209 rfl 3 rfl ?_
    refine x_iload hc dX9_layLeast_210 0 rfl ?_
    obtain ⟨b10, h⟩ := ck_some h
    refine x_iast hc dX9_layLeast_212 (q_s hSH sm_24) (inb_in b10) ?_
    refine x_iconst hc dX9_layLeast_213 kc_1 ?_
    refine x_istore_n (L2 := [(1, .int (1 : Int32)), (6, .int s0), (0, .ref 0), (2, .int x2)]) hc dX9_layLeast_214 rfl (by decide) rfl ?_
    refine x_iinc (v := x2 + (1 : Int32)) (L2 := [(2, .int (x2 + (1 : Int32))), (1, .int (1 : Int32)), (6, .int s0), (0, .ref 0)]) hc dX9_layLeast_215 3 rfl (by rw [kc_1]) (by decide) rfl ?_
    refine x_goto (tgt := 34) hc dX9_layLeast_218 (by decide) ?_
    cases h
    exact x_sub (kb ((1 : Int32), x2 + (1 : Int32), u_i M 24 x2.toNatClampNeg s0) rfl) [3, 1, 0] rfl

def Mo_layLeast_L34_J162 (x1 : Int32) (x2 : Int32) (M : QM) : Option ((Int32 × QM) ⊕ (Int32 × Int32 × QM)) :=
  Mo_layLeast_L34_J192 x1 x2 (1 : Int32) M

set_option maxRecDepth 20000 in
set_option maxHeartbeats 2000000 in
theorem S_Mo_layLeast_L34_J162 {C : QC} (hc : OKX C RX9 cX9_layLeast 8 0 none) (hSH : q_SH C = SHM) (x1 : Int32) (x2 : Int32) (M : QM) {res : (Int32 × QM) ⊕ (Int32 × Int32 × QM)} (h : Mo_layLeast_L34_J162 x1 x2 M = some res) (ke : ∀ x : Int32 × QM, res = .inl x → WX C 8 221 [(0, .ref 0), (1, .int x.1)] [] x.2) (kb : ∀ x : Int32 × Int32 × QM, res = .inr x → WX C 8 34 [(0, .ref 0), (1, .int x.1), (2, .int x.2.1)] [] x.2.2) : WX C 8 162 [(0, .ref 0), (1, .int x1), (2, .int x2)] [] M := by
  unfold Mo_layLeast_L34_J162 at h
  refine x_iconst hc dX9_layLeast_162 kc_1 ?_
  refine x_goto (tgt := 192) hc dX9_layLeast_163 (by decide) ?_
  exact x_sub (S_Mo_layLeast_L34_J192 hc hSH x1 x2 (1 : Int32) M h ke kb) [0, 1, 2] rfl

def Mo_layLeast_B34 (v : Int32 × Int32 × QM) : Option ((Int32 × QM) ⊕ (Int32 × Int32 × QM)) :=
  (if (v.2.2.1 0 2) ≤ v.2.1 then some (.inl (v.1, v.2.2)) else ck (inb v.2.1 60) (Option.bind (iter (Mo_layLeast_B59 v.1 v.2.1 (v.2.2.1 2 v.2.1.toNatClampNeg) v.2.2) FU ((1 : Int32), (100000 : Int32), (0 : Int32))) (fun e8 => (if (v.2.2.1 2 v.2.1.toNatClampNeg) = (110 : Int32) then Mo_layLeast_L34_J162 v.1 v.2.1 v.2.2 else (if (v.2.2.1 2 v.2.1.toNatClampNeg) = (116 : Int32) then Mo_layLeast_L34_J162 v.1 v.2.1 v.2.2 else (if (v.2.2.1 2 v.2.1.toNatClampNeg) = (115 : Int32) then Mo_layLeast_L34_J162 v.1 v.2.1 v.2.2 else (if (v.2.2.1 2 v.2.1.toNatClampNeg) = (42 : Int32) then Mo_layLeast_L34_J162 v.1 v.2.1 v.2.2 else (if (v.2.2.1 2 v.2.1.toNatClampNeg) = (123 : Int32) then Mo_layLeast_L34_J192 v.1 v.2.1 e8.1 v.2.2 else (if (v.2.2.1 2 v.2.1.toNatClampNeg) = (91 : Int32) then Mo_layLeast_L34_J192 v.1 v.2.1 (e8.2 + (1 : Int32)) v.2.2 else Mo_layLeast_L34_J192 v.1 v.2.1 (100000 : Int32) v.2.2)))))))))

set_option maxRecDepth 20000 in
set_option maxHeartbeats 2000000 in
theorem S_Mo_layLeast_B34 {C : QC} (hc : OKX C RX9 cX9_layLeast 8 0 none) (hSH : q_SH C = SHM) (v : Int32 × Int32 × QM) {res : (Int32 × QM) ⊕ (Int32 × Int32 × QM)} (h : Mo_layLeast_B34 v = some res) (ke : ∀ x : Int32 × QM, res = .inl x → WX C 8 221 [(0, .ref 0), (1, .int x.1)] [] x.2) (kb : ∀ x : Int32 × Int32 × QM, res = .inr x → WX C 8 34 [(0, .ref 0), (1, .int x.1), (2, .int x.2.1)] [] x.2.2) : WX C 8 34 [(0, .ref 0), (1, .int v.1), (2, .int v.2.1)] [] v.2.2 := by
  unfold Mo_layLeast_B34 at h
  refine x_iload_n hc dX9_layLeast_34 rfl 2 rfl ?_
  refine x_aload_n hc dX9_layLeast_35 rfl 0 rfl ?_
  refine x_getI hc dX9_layLeast_36 fl_RX9_116 (q_s hSH sm_0) rfl ?_
  refine x_icmp_ge (tgt := 221) hc dX9_layLeast_39 (by decide) (fun hb => ?_) (fun hb => ?_)
  · have h := ite_t hb h
    cases h
    exact x_sub (ke (v.1, v.2.2) rfl) [0, 1] rfl
  · have h := ite_f hb h
    refine x_aload_n hc dX9_layLeast_42 rfl 0 rfl ?_
    refine x_getR hc dX9_layLeast_43 fl_RX9_13 (q_s hSH sm_0) rfl ?_
    refine x_iload_n hc dX9_layLeast_46 rfl 2 rfl ?_
    obtain ⟨b3, h⟩ := ck_some h
    refine x_iald hc dX9_layLeast_47 (q_s hSH sm_2) (inb_in b3) ?_
    refine x_istore_n (L2 := [(3, .int (v.2.2.1 2 v.2.1.toNatClampNeg)), (0, .ref 0), (1, .int v.1), (2, .int v.2.1)]) hc dX9_layLeast_48 rfl (by decide) rfl ?_
    refine x_iconst hc dX9_layLeast_49 kc_1 ?_
    refine x_istore (L2 := [(4, .int (1 : Int32)), (3, .int (v.2.2.1 2 v.2.1.toNatClampNeg)), (0, .ref 0), (1, .int v.1), (2, .int v.2.1)]) hc dX9_layLeast_50 (by decide) rfl ?_
    refine x_ldc hc dX9_layLeast_52 kd_RX9_137 ?_
    refine x_istore (L2 := [(5, .int (100000 : Int32)), (4, .int (1 : Int32)), (3, .int (v.2.2.1 2 v.2.1.toNatClampNeg)), (0, .ref 0), (1, .int v.1), (2, .int v.2.1)]) hc dX9_layLeast_54 (by decide) rfl ?_
    refine x_iconst hc dX9_layLeast_56 kc_0 ?_
    refine x_istore (L2 := [(6, .int (0 : Int32)), (5, .int (100000 : Int32)), (4, .int (1 : Int32)), (3, .int (v.2.2.1 2 v.2.1.toNatClampNeg)), (0, .ref 0), (1, .int v.1), (2, .int v.2.1)]) hc dX9_layLeast_57 (by decide) rfl ?_
    obtain ⟨e8, h8, h⟩ := bd_some h
    refine x_sub (S_Mo_layLeast_L59 hc hSH v.1 v.2.1 (v.2.2.1 2 v.2.1.toNatClampNeg) v.2.2 (v := ((1 : Int32), (100000 : Int32), (0 : Int32))) h8 (fun x hx => ?_)) [4, 5, 6, 3, 2, 1, 0] rfl
    subst hx
    refine x_iload_n hc dX9_layLeast_138 rfl 3 rfl ?_
    refine x_bipush hc dX9_layLeast_139 kb_110 ?_
    refine x_icmp_eq (tgt := 162) hc dX9_layLeast_141 (by decide) (fun hb => ?_) (fun hb => ?_)
    · have h := ite_t hb h
      exact x_sub (S_Mo_layLeast_L34_J162 hc hSH v.1 v.2.1 v.2.2 h ke kb) [0, 1, 2] rfl
    · have h := ite_f hb h
      refine x_iload_n hc dX9_layLeast_144 rfl 3 rfl ?_
      refine x_bipush hc dX9_layLeast_145 kb_116 ?_
      refine x_icmp_eq (tgt := 162) hc dX9_layLeast_147 (by decide) (fun hb => ?_) (fun hb => ?_)
      · have h := ite_t hb h
        exact x_sub (S_Mo_layLeast_L34_J162 hc hSH v.1 v.2.1 v.2.2 h ke kb) [0, 1, 2] rfl
      · have h := ite_f hb h
        refine x_iload_n hc dX9_layLeast_150 rfl 3 rfl ?_
        refine x_bipush hc dX9_layLeast_151 kb_115 ?_
        refine x_icmp_eq (tgt := 162) hc dX9_layLeast_153 (by decide) (fun hb => ?_) (fun hb => ?_)
        · have h := ite_t hb h
          exact x_sub (S_Mo_layLeast_L34_J162 hc hSH v.1 v.2.1 v.2.2 h ke kb) [0, 1, 2] rfl
        · have h := ite_f hb h
          refine x_iload_n hc dX9_layLeast_156 rfl 3 rfl ?_
          refine x_bipush hc dX9_layLeast_157 kb_42 ?_
          refine x_icmp_ne (tgt := 166) hc dX9_layLeast_159 (by decide) (fun hb => ?_) (fun hb => ?_)
          · have h := ite_f hb h
            refine x_iload_n hc dX9_layLeast_166 rfl 3 rfl ?_
            refine x_bipush hc dX9_layLeast_167 kb_123 ?_
            refine x_icmp_ne (tgt := 177) hc dX9_layLeast_169 (by decide) (fun hb => ?_) (fun hb => ?_)
            · have h := ite_f hb h
              refine x_iload_n hc dX9_layLeast_177 rfl 3 rfl ?_
              refine x_bipush hc dX9_layLeast_178 kb_91 ?_
              refine x_icmp_ne (tgt := 190) hc dX9_layLeast_180 (by decide) (fun hb => ?_) (fun hb => ?_)
              · have h := ite_f hb h
                refine x_ldc hc dX9_layLeast_190 kd_RX9_137 ?_
                exact x_sub (S_Mo_layLeast_L34_J192 hc hSH v.1 v.2.1 (100000 : Int32) v.2.2 h ke kb) [0, 1, 2] rfl
              · have h := ite_t hb h
                refine x_iload hc dX9_layLeast_183 5 rfl ?_
                refine x_iconst hc dX9_layLeast_185 kc_1 ?_
                refine x_iadd hc dX9_layLeast_186 ?_
                refine x_goto (tgt := 192) hc dX9_layLeast_187 (by decide) ?_
                exact x_sub (S_Mo_layLeast_L34_J192 hc hSH v.1 v.2.1 (e8.2 + (1 : Int32)) v.2.2 h ke kb) [0, 1, 2] rfl
            · have h := ite_t hb h
              refine x_iload hc dX9_layLeast_172 4 rfl ?_
              refine x_goto (tgt := 192) hc dX9_layLeast_174 (by decide) ?_
              exact x_sub (S_Mo_layLeast_L34_J192 hc hSH v.1 v.2.1 e8.1 v.2.2 h ke kb) [0, 1, 2] rfl
          · have h := ite_t hb h
            exact x_sub (S_Mo_layLeast_L34_J162 hc hSH v.1 v.2.1 v.2.2 h ke kb) [0, 1, 2] rfl

theorem S_Mo_layLeast_L34 {C : QC} (hc : OKX C RX9 cX9_layLeast 8 0 none) (hSH : q_SH C = SHM) {n : Nat} {v : Int32 × Int32 × QM} {e : Int32 × QM} (h : iter (Mo_layLeast_B34) n v = some e) (ke : ∀ x : Int32 × QM, e = x → WX C 8 221 [(0, .ref 0), (1, .int x.1)] [] x.2) : WX C 8 34 [(0, .ref 0), (1, .int v.1), (2, .int v.2.1)] [] v.2.2 :=
  iter_W (Wh := fun v => WX C 8 34 [(0, .ref 0), (1, .int v.1), (2, .int v.2.1)] [] v.2.2) (fun a res hB k1 k2 => S_Mo_layLeast_B34 hc hSH a hB (fun x hx => ke x (k1 _ hx).symm) k2) n v h

def Mo_layLeast_B26 (v : Int32 × QM) : Option ((QM) ⊕ (Int32 × QM)) :=
  (if v.1 = 0 then some (.inl v.2) else Option.bind (iter (Mo_layLeast_B34) FU ((0 : Int32), (0 : Int32), v.2)) (fun e11 => some (.inr (e11.1, e11.2))))

set_option maxRecDepth 20000 in
set_option maxHeartbeats 2000000 in
theorem S_Mo_layLeast_B26 {C : QC} (hc : OKX C RX9 cX9_layLeast 8 0 none) (hSH : q_SH C = SHM) (v : Int32 × QM) {res : (QM) ⊕ (Int32 × QM)} (h : Mo_layLeast_B26 v = some res) (ke : ∀ x : QM, res = .inl x → WX C 8 224 [] [] x) (kb : ∀ x : Int32 × QM, res = .inr x → WX C 8 26 [(0, .ref 0), (1, .int x.1)] [] x.2) : WX C 8 26 [(0, .ref 0), (1, .int v.1)] [] v.2 := by
  unfold Mo_layLeast_B26 at h
  refine x_iload_n hc dX9_layLeast_26 rfl 1 rfl ?_
  refine x_if_eq (tgt := 224) hc dX9_layLeast_27 (by decide) (fun hb => ?_) (fun hb => ?_)
  · have h := ite_t hb h
    cases h
    exact x_sub (ke v.2 rfl) [] rfl
  · have h := ite_f hb h
    refine x_iconst hc dX9_layLeast_30 kc_0 ?_
    refine x_istore_n (L2 := [(1, .int (0 : Int32)), (0, .ref 0)]) hc dX9_layLeast_31 rfl (by decide) rfl ?_
    refine x_iconst hc dX9_layLeast_32 kc_0 ?_
    refine x_istore_n (L2 := [(2, .int (0 : Int32)), (1, .int (0 : Int32)), (0, .ref 0)]) hc dX9_layLeast_33 rfl (by decide) rfl ?_
    obtain ⟨e11, h11, h⟩ := bd_some h
    refine x_sub (S_Mo_layLeast_L34 hc hSH (v := ((0 : Int32), (0 : Int32), v.2)) h11 (fun x hx => ?_)) [2, 1, 0] rfl
    subst hx
    refine x_goto (tgt := 26) hc dX9_layLeast_221 (by decide) ?_
    cases h
    exact x_sub (kb (e11.1, e11.2) rfl) [0, 1] rfl

theorem S_Mo_layLeast_L26 {C : QC} (hc : OKX C RX9 cX9_layLeast 8 0 none) (hSH : q_SH C = SHM) {n : Nat} {v : Int32 × QM} {e : QM} (h : iter (Mo_layLeast_B26) n v = some e) (ke : ∀ x : QM, e = x → WX C 8 224 [] [] x) : WX C 8 26 [(0, .ref 0), (1, .int v.1)] [] v.2 :=
  iter_W (Wh := fun v => WX C 8 26 [(0, .ref 0), (1, .int v.1)] [] v.2) (fun a res hB k1 k2 => S_Mo_layLeast_B26 hc hSH a hB (fun x hx => ke x (k1 _ hx).symm) k2) n v h

def Mo_layLeast (M : QM) : Option (QM) :=
  Option.bind (iter (Mo_layLeast_B2) FU ((0 : Int32), M)) (fun e2 => Option.bind (iter (Mo_layLeast_B26) FU ((1 : Int32), e2)) (fun e12 => some e12))

set_option maxRecDepth 20000 in
set_option maxHeartbeats 2000000 in
theorem S_Mo_layLeast  {M : QM} {res : QM} (h : Mo_layLeast M = some res) : Cn yX9_layLeast cX9_layLeast 8 none 0 SHM [.ref 0] M (none) res := by
  refine q_enter (L := [(0, .ref 0)]) (by decide) (Nat.le_of_ble_eq_true rfl) rfl ?_
  intro C hc hSH hr hM
  have hc : OKX C RX9 cX9_layLeast 8 0 none := hc
  unfold Mo_layLeast at h
  refine x_iconst hc dX9_layLeast_0 kc_0 ?_
  refine x_istore_n (L2 := [(1, .int (0 : Int32)), (0, .ref 0)]) hc dX9_layLeast_1 rfl (by decide) rfl ?_
  obtain ⟨e2, h2, h⟩ := bd_some h
  refine x_sub (S_Mo_layLeast_L2 hc hSH (v := ((0 : Int32), M)) h2 (fun x hx => ?_)) [1, 0] rfl
  subst hx
  refine x_iconst hc dX9_layLeast_24 kc_1 ?_
  refine x_istore_n (L2 := [(1, .int (1 : Int32)), (0, .ref 0)]) hc dX9_layLeast_25 rfl (by decide) rfl ?_
  obtain ⟨e12, h12, h⟩ := bd_some h
  refine x_sub (S_Mo_layLeast_L26 hc hSH (v := ((1 : Int32), e2)) h12 (fun x hx => ?_)) [1, 0] rfl
  subst hx
  cases h
  exact x_vret hc dX9_layLeast_224 hr hM

def Mo_least (p1 : Int32) (M : QM) : Option (Int32 × QM) :=
  Option.bind (Mo_isNode p1 M) (fun q1 => (if q1 = 0 then some ((-1 : Int32), M) else Option.bind (Mo_layLeast M) (fun q2 => ck (inb p1 60) ((if (q2.1 24 p1.toNatClampNeg) ≤ (40 : Int32) then ck (inb p1 60) (some (q2.1 24 p1.toNatClampNeg, q2)) else some ((-6 : Int32), q2))))))

set_option maxRecDepth 20000 in
set_option maxHeartbeats 2000000 in
theorem S_Mo_least  {p1 : Int32} {M : QM} {res : Int32 × QM} (h : Mo_least p1 M = some res) : Cn yX9_least cX9_least 2 (some .int) 2 SHM [.ref 0, .int p1] M (some (.int res.1)) res.2 := by
  refine q_enter (L := [(0, .ref 0), (1, .int p1)]) (by decide) (Nat.le_of_ble_eq_true rfl) rfl ?_
  intro C hc hSH hr hM
  have hc : OKX C RX9 cX9_least 2 2 (some .int) := hc
  unfold Mo_least at h
  refine x_aload_n hc dX9_least_0 rfl 0 rfl ?_
  refine x_iload_n hc dX9_least_1 rfl 1 rfl ?_
  obtain ⟨q1, h1, h⟩ := bd_some h
  refine x_callVi (As := [.int p1]) (st := []) (o := 0) hc dX9_least_2 cv_X9_isNode lk_RX9_123 (q_s hSH sm_0) rfl rfl (q_cn hSH (S_Mo_isNode h1)) (by decide) (Nat.le_of_ble_eq_true rfl) ?_
  refine x_if_ne (tgt := 10) hc dX9_least_5 (by decide) (fun hb => ?_) (fun hb => ?_)
  · have h := ite_f hb h
    refine x_aload_n hc dX9_least_10 rfl 0 rfl ?_
    obtain ⟨q2, h2, h⟩ := bd_some h
    refine x_callVv (As := []) (st := []) (o := 0) hc dX9_least_11 cv_X9_layLeast lk_RX9_206 (q_s hSH sm_0) rfl rfl (q_cn hSH (S_Mo_layLeast h2)) (by decide) (Nat.le_of_ble_eq_true rfl) ?_
    refine x_aload_n hc dX9_least_14 rfl 0 rfl ?_
    refine x_getR hc dX9_least_15 fl_RX9_81 (q_s hSH sm_0) rfl ?_
    refine x_iload_n hc dX9_least_18 rfl 1 rfl ?_
    obtain ⟨b3, h⟩ := ck_some h
    refine x_iald hc dX9_least_19 (q_s hSH sm_24) (inb_in b3) ?_
    refine x_bipush hc dX9_least_20 kb_40 ?_
    refine x_icmp_le (tgt := 30) hc dX9_least_22 (by decide) (fun hb => ?_) (fun hb => ?_)
    · have h := ite_t hb h
      refine x_aload_n hc dX9_least_30 rfl 0 rfl ?_
      refine x_getR hc dX9_least_31 fl_RX9_81 (q_s hSH sm_0) rfl ?_
      refine x_iload_n hc dX9_least_34 rfl 1 rfl ?_
      obtain ⟨b4, h⟩ := ck_some h
      refine x_iald hc dX9_least_35 (q_s hSH sm_24) (inb_in b4) ?_
      cases h
      exact x_iret hc dX9_least_36 hr hM
    · have h := ite_f hb h
      refine x_bipush hc dX9_least_25 kb_m6 ?_
      refine x_goto (tgt := 36) hc dX9_least_27 (by decide) ?_
      cases h
      exact x_iret hc dX9_least_36 hr hM
  · have h := ite_t hb h
    refine x_iconst hc dX9_least_8 kc_m1 ?_
    cases h
    exact x_iret hc dX9_least_9 hr hM

def Mo_may (p1 : Int32) (p2 : Int32) (M : QM) : Option (Int32 × QM) :=
  Option.bind (Mo_areNodes p1 p2 M) (fun q1 => (if q1 = 0 then some ((-1 : Int32), M) else Option.bind (Mo_lay M) (fun q2 => ck (inb (((60 : Int32) * p1) + p2) 3600) ((if (q2.1 11 (((60 : Int32) * p1) + p2).toNatClampNeg) = 0 then some ((0 : Int32), q2) else some ((1 : Int32), q2))))))

set_option maxRecDepth 20000 in
set_option maxHeartbeats 2000000 in
theorem S_Mo_may  {p1 : Int32} {p2 : Int32} {M : QM} {res : Int32 × QM} (h : Mo_may p1 p2 M = some res) : Cn yX9_may cX9_may 3 (some .int) 3 SHM [.ref 0, .int p1, .int p2] M (some (.int res.1)) res.2 := by
  refine q_enter (L := [(0, .ref 0), (1, .int p1), (2, .int p2)]) (by decide) (Nat.le_of_ble_eq_true rfl) rfl ?_
  intro C hc hSH hr hM
  have hc : OKX C RX9 cX9_may 3 3 (some .int) := hc
  unfold Mo_may at h
  refine x_aload_n hc dX9_may_0 rfl 0 rfl ?_
  refine x_iload_n hc dX9_may_1 rfl 1 rfl ?_
  refine x_iload_n hc dX9_may_2 rfl 2 rfl ?_
  obtain ⟨q1, h1, h⟩ := bd_some h
  refine x_callVi (As := [.int p1, .int p2]) (st := []) (o := 0) hc dX9_may_3 cv_X9_areNodes lk_RX9_142 (q_s hSH sm_0) rfl rfl (q_cn hSH (S_Mo_areNodes h1)) (by decide) (Nat.le_of_ble_eq_true rfl) ?_
  refine x_if_ne (tgt := 11) hc dX9_may_6 (by decide) (fun hb => ?_) (fun hb => ?_)
  · have h := ite_f hb h
    refine x_aload_n hc dX9_may_11 rfl 0 rfl ?_
    obtain ⟨q2, h2, h⟩ := bd_some h
    refine x_callVv (As := []) (st := []) (o := 0) hc dX9_may_12 cv_X9_lay lk_RX9_145 (q_s hSH sm_0) rfl rfl (q_cn hSH (S_Mo_lay h2)) (by decide) (Nat.le_of_ble_eq_true rfl) ?_
    refine x_aload_n hc dX9_may_15 rfl 0 rfl ?_
    refine x_getR hc dX9_may_16 fl_RX9_40 (q_s hSH sm_0) rfl ?_
    refine x_bipush hc dX9_may_19 kb_60 ?_
    refine x_iload_n hc dX9_may_21 rfl 1 rfl ?_
    refine x_imul hc dX9_may_22 ?_
    refine x_iload_n hc dX9_may_23 rfl 2 rfl ?_
    refine x_iadd hc dX9_may_24 ?_
    obtain ⟨b3, h⟩ := ck_some h
    refine x_zald hc dX9_may_25 (q_s hSH sm_11) (inb_in b3) ?_
    refine x_if_eq (tgt := 33) hc dX9_may_26 (by decide) (fun hb => ?_) (fun hb => ?_)
    · have h := ite_t hb h
      refine x_iconst hc dX9_may_33 kc_0 ?_
      cases h
      exact x_iret hc dX9_may_34 hr hM
    · have h := ite_f hb h
      refine x_iconst hc dX9_may_29 kc_1 ?_
      refine x_goto (tgt := 34) hc dX9_may_30 (by decide) ?_
      cases h
      exact x_iret hc dX9_may_34 hr hM
  · have h := ite_t hb h
    refine x_iconst hc dX9_may_9 kc_m1 ?_
    cases h
    exact x_iret hc dX9_may_10 hr hM

def Mo_name (p1 : Int32) (M : QM) : Option (Int32) :=
  Option.bind (Mo_in p1 (0 : Int32) (7 : Int32) M) (fun q1 => (if q1 = 0 then some (-1 : Int32) else ck (inb p1 8) (some (M.1 4 p1.toNatClampNeg))))

set_option maxRecDepth 20000 in
set_option maxHeartbeats 2000000 in
theorem S_Mo_name  {p1 : Int32} {M : QM} {res : Int32} (h : Mo_name p1 M = some res) : Cn yX9_name cX9_name 2 (some .int) 1 SHM [.ref 0, .int p1] M (some (.int res)) M := by
  refine q_enter (L := [(0, .ref 0), (1, .int p1)]) (by decide) (Nat.le_of_ble_eq_true rfl) rfl ?_
  intro C hc hSH hr hM
  have hc : OKX C RX9 cX9_name 2 1 (some .int) := hc
  unfold Mo_name at h
  refine x_iload_n hc dX9_name_0 rfl 1 rfl ?_
  refine x_iconst hc dX9_name_1 kc_0 ?_
  refine x_bipush hc dX9_name_2 kb_7 ?_
  obtain ⟨q1, h1, h⟩ := bd_some h
  refine x_callSi (As := [.int p1, .int (0 : Int32), .int (7 : Int32)]) (st := []) hc dX9_name_4 cs_X9_in lk_RX9_84 rfl (q_cn hSH (S_Mo_in h1)) (by decide) (Nat.le_of_ble_eq_true rfl) ?_
  refine x_if_eq (tgt := 19) hc dX9_name_7 (by decide) (fun hb => ?_) (fun hb => ?_)
  · have h := ite_t hb h
    refine x_iconst hc dX9_name_19 kc_m1 ?_
    cases h
    exact x_iret hc dX9_name_20 hr hM
  · have h := ite_f hb h
    refine x_aload_n hc dX9_name_10 rfl 0 rfl ?_
    refine x_getR hc dX9_name_11 fl_RX9_19 (q_s hSH sm_0) rfl ?_
    refine x_iload_n hc dX9_name_14 rfl 1 rfl ?_
    obtain ⟨b2, h⟩ := ck_some h
    refine x_iald hc dX9_name_15 (q_s hSH sm_4) (inb_in b2) ?_
    refine x_goto (tgt := 20) hc dX9_name_16 (by decide) ?_
    cases h
    exact x_iret hc dX9_name_20 hr hM

def Mo_partsOf_B4 (x1 : Int32) (M : QM) (v : Int32 × Int32) : Option ((Int32) ⊕ (Int32 × Int32)) :=
  (if (8 : Int32) ≤ v.2 then some (.inl v.1) else ck (inb (((8 : Int32) * x1) + v.2) 480) ((if (M.1 3 (((8 : Int32) * x1) + v.2).toNatClampNeg) < 0 then some (.inr (v.1 + (0 : Int32), v.2 + (1 : Int32))) else some (.inr (v.1 + (1 : Int32), v.2 + (1 : Int32))))))

set_option maxRecDepth 20000 in
set_option maxHeartbeats 2000000 in
theorem S_Mo_partsOf_B4 {C : QC} (hc : OKX C RX9 cX9_partsOf 4 0 (some .int)) (hSH : q_SH C = SHM) (x1 : Int32) (M : QM) (v : Int32 × Int32) {res : (Int32) ⊕ (Int32 × Int32)} (h : Mo_partsOf_B4 x1 M v = some res) (ke : ∀ x : Int32, res = .inl x → WX C 4 38 [(2, .int x)] [] M) (kb : ∀ x : Int32 × Int32, res = .inr x → WX C 4 4 [(0, .ref 0), (1, .int x1), (2, .int x.1), (3, .int x.2)] [] M) : WX C 4 4 [(0, .ref 0), (1, .int x1), (2, .int v.1), (3, .int v.2)] [] M := by
  unfold Mo_partsOf_B4 at h
  refine x_iload_n hc dX9_partsOf_4 rfl 3 rfl ?_
  refine x_bipush hc dX9_partsOf_5 kb_8 ?_
  refine x_icmp_ge (tgt := 38) hc dX9_partsOf_7 (by decide) (fun hb => ?_) (fun hb => ?_)
  · have h := ite_t hb h
    cases h
    exact x_sub (ke v.1 rfl) [2] rfl
  · have h := ite_f hb h
    refine x_iload_n hc dX9_partsOf_10 rfl 2 rfl ?_
    refine x_aload_n hc dX9_partsOf_11 rfl 0 rfl ?_
    refine x_getR hc dX9_partsOf_12 fl_RX9_16 (q_s hSH sm_0) rfl ?_
    refine x_bipush hc dX9_partsOf_15 kb_8 ?_
    refine x_iload_n hc dX9_partsOf_17 rfl 1 rfl ?_
    refine x_imul hc dX9_partsOf_18 ?_
    refine x_iload_n hc dX9_partsOf_19 rfl 3 rfl ?_
    refine x_iadd hc dX9_partsOf_20 ?_
    obtain ⟨b1, h⟩ := ck_some h
    refine x_iald hc dX9_partsOf_21 (q_s hSH sm_3) (inb_in b1) ?_
    refine x_if_lt (tgt := 29) hc dX9_partsOf_22 (by decide) (fun hb => ?_) (fun hb => ?_)
    · have h := ite_t hb h
      refine x_iconst hc dX9_partsOf_29 kc_0 ?_
      refine x_iadd hc dX9_partsOf_30 ?_
      refine x_istore_n (L2 := [(2, .int (v.1 + (0 : Int32))), (0, .ref 0), (1, .int x1), (3, .int v.2)]) hc dX9_partsOf_31 rfl (by decide) rfl ?_
      refine x_iinc (v := v.2 + (1 : Int32)) (L2 := [(3, .int (v.2 + (1 : Int32))), (2, .int (v.1 + (0 : Int32))), (0, .ref 0), (1, .int x1)]) hc dX9_partsOf_32 3 rfl (by rw [kc_1]) (by decide) rfl ?_
      refine x_goto (tgt := 4) hc dX9_partsOf_35 (by decide) ?_
      cases h
      exact x_sub (kb (v.1 + (0 : Int32), v.2 + (1 : Int32)) rfl) [2, 3, 1, 0] rfl
    · have h := ite_f hb h
      refine x_iconst hc dX9_partsOf_25 kc_1 ?_
      refine x_goto (tgt := 30) hc dX9_partsOf_26 (by decide) ?_
      refine x_iadd hc dX9_partsOf_30 ?_
      refine x_istore_n (L2 := [(2, .int (v.1 + (1 : Int32))), (0, .ref 0), (1, .int x1), (3, .int v.2)]) hc dX9_partsOf_31 rfl (by decide) rfl ?_
      refine x_iinc (v := v.2 + (1 : Int32)) (L2 := [(3, .int (v.2 + (1 : Int32))), (2, .int (v.1 + (1 : Int32))), (0, .ref 0), (1, .int x1)]) hc dX9_partsOf_32 3 rfl (by rw [kc_1]) (by decide) rfl ?_
      refine x_goto (tgt := 4) hc dX9_partsOf_35 (by decide) ?_
      cases h
      exact x_sub (kb (v.1 + (1 : Int32), v.2 + (1 : Int32)) rfl) [2, 3, 1, 0] rfl

theorem S_Mo_partsOf_L4 {C : QC} (hc : OKX C RX9 cX9_partsOf 4 0 (some .int)) (hSH : q_SH C = SHM) (x1 : Int32) (M : QM) {n : Nat} {v : Int32 × Int32} {e : Int32} (h : iter (Mo_partsOf_B4 x1 M) n v = some e) (ke : ∀ x : Int32, e = x → WX C 4 38 [(2, .int x)] [] M) : WX C 4 4 [(0, .ref 0), (1, .int x1), (2, .int v.1), (3, .int v.2)] [] M :=
  iter_W (Wh := fun v => WX C 4 4 [(0, .ref 0), (1, .int x1), (2, .int v.1), (3, .int v.2)] [] M) (fun a res hB k1 k2 => S_Mo_partsOf_B4 hc hSH x1 M a hB (fun x hx => ke x (k1 _ hx).symm) k2) n v h

def Mo_partsOf (p1 : Int32) (M : QM) : Option (Int32) :=
  Option.bind (iter (Mo_partsOf_B4 p1 M) FU ((0 : Int32), (0 : Int32))) (fun e2 => some e2)

set_option maxRecDepth 20000 in
set_option maxHeartbeats 2000000 in
theorem S_Mo_partsOf  {p1 : Int32} {M : QM} {res : Int32} (h : Mo_partsOf p1 M = some res) : Cn yX9_partsOf cX9_partsOf 4 (some .int) 0 SHM [.ref 0, .int p1] M (some (.int res)) M := by
  refine q_enter (L := [(0, .ref 0), (1, .int p1)]) (by decide) (Nat.le_of_ble_eq_true rfl) rfl ?_
  intro C hc hSH hr hM
  have hc : OKX C RX9 cX9_partsOf 4 0 (some .int) := hc
  unfold Mo_partsOf at h
  refine x_iconst hc dX9_partsOf_0 kc_0 ?_
  refine x_istore_n (L2 := [(2, .int (0 : Int32)), (0, .ref 0), (1, .int p1)]) hc dX9_partsOf_1 rfl (by decide) rfl ?_
  refine x_iconst hc dX9_partsOf_2 kc_0 ?_
  refine x_istore_n (L2 := [(3, .int (0 : Int32)), (2, .int (0 : Int32)), (0, .ref 0), (1, .int p1)]) hc dX9_partsOf_3 rfl (by decide) rfl ?_
  obtain ⟨e2, h2, h⟩ := bd_some h
  refine x_sub (S_Mo_partsOf_L4 hc hSH p1 M (v := ((0 : Int32), (0 : Int32))) h2 (fun x hx => ?_)) [2, 3, 1, 0] rfl
  subst hx
  refine x_iload_n hc dX9_partsOf_38 rfl 0 rfl ?_
  cases h
  exact x_iret hc dX9_partsOf_39 hr hM

def Mo_node (p1 : Int32) (p2 : Int32) (M : QM) : Option (Int32) :=
  Option.bind (Mo_isNode p1 M) (fun q1 => (if q1 = 0 then some (-1 : Int32) else (if p2 = (-1 : Int32) then ck (inb p1 60) (some (M.1 2 p1.toNatClampNeg)) else (if p2 = (8 : Int32) then Option.bind (Mo_partsOf p1 M) (fun q4 => some q4) else Option.bind (Mo_in p2 (0 : Int32) (7 : Int32) M) (fun q2 => (if q2 = 0 then some (-2 : Int32) else ck (inb (((8 : Int32) * p1) + p2) 480) (some (M.1 3 (((8 : Int32) * p1) + p2).toNatClampNeg))))))))

set_option maxRecDepth 20000 in
set_option maxHeartbeats 2000000 in
theorem S_Mo_node  {p1 : Int32} {p2 : Int32} {M : QM} {res : Int32} (h : Mo_node p1 p2 M = some res) : Cn yX9_node cX9_node 3 (some .int) 2 SHM [.ref 0, .int p1, .int p2] M (some (.int res)) M := by
  refine q_enter (L := [(0, .ref 0), (1, .int p1), (2, .int p2)]) (by decide) (Nat.le_of_ble_eq_true rfl) rfl ?_
  intro C hc hSH hr hM
  have hc : OKX C RX9 cX9_node 3 2 (some .int) := hc
  unfold Mo_node at h
  refine x_aload_n hc dX9_node_0 rfl 0 rfl ?_
  refine x_iload_n hc dX9_node_1 rfl 1 rfl ?_
  obtain ⟨q1, h1, h⟩ := bd_some h
  refine x_callVi (As := [.int p1]) (st := []) (o := 0) hc dX9_node_2 cv_X9_isNode lk_RX9_123 (q_s hSH sm_0) rfl rfl (q_cn hSH (S_Mo_isNode h1)) (by decide) (Nat.le_of_ble_eq_true rfl) ?_
  refine x_if_ne (tgt := 10) hc dX9_node_5 (by decide) (fun hb => ?_) (fun hb => ?_)
  · have h := ite_f hb h
    refine x_iload_n hc dX9_node_10 rfl 2 rfl ?_
    refine x_iconst hc dX9_node_11 kc_m1 ?_
    refine x_icmp_ne (tgt := 24) hc dX9_node_12 (by decide) (fun hb => ?_) (fun hb => ?_)
    · have h := ite_f hb h
      refine x_iload_n hc dX9_node_24 rfl 2 rfl ?_
      refine x_bipush hc dX9_node_25 kb_8 ?_
      refine x_icmp_ne (tgt := 38) hc dX9_node_27 (by decide) (fun hb => ?_) (fun hb => ?_)
      · have h := ite_f hb h
        refine x_iload_n hc dX9_node_38 rfl 2 rfl ?_
        refine x_iconst hc dX9_node_39 kc_0 ?_
        refine x_bipush hc dX9_node_40 kb_7 ?_
        obtain ⟨q2, h2, h⟩ := bd_some h
        refine x_callSi (As := [.int p2, .int (0 : Int32), .int (7 : Int32)]) (st := []) hc dX9_node_42 cs_X9_in lk_RX9_84 rfl (q_cn hSH (S_Mo_in h2)) (by decide) (Nat.le_of_ble_eq_true rfl) ?_
        refine x_if_eq (tgt := 62) hc dX9_node_45 (by decide) (fun hb => ?_) (fun hb => ?_)
        · have h := ite_t hb h
          refine x_bipush hc dX9_node_62 kb_m2 ?_
          cases h
          exact x_iret hc dX9_node_64 hr hM
        · have h := ite_f hb h
          refine x_aload_n hc dX9_node_48 rfl 0 rfl ?_
          refine x_getR hc dX9_node_49 fl_RX9_16 (q_s hSH sm_0) rfl ?_
          refine x_bipush hc dX9_node_52 kb_8 ?_
          refine x_iload_n hc dX9_node_54 rfl 1 rfl ?_
          refine x_imul hc dX9_node_55 ?_
          refine x_iload_n hc dX9_node_56 rfl 2 rfl ?_
          refine x_iadd hc dX9_node_57 ?_
          obtain ⟨b3, h⟩ := ck_some h
          refine x_iald hc dX9_node_58 (q_s hSH sm_3) (inb_in b3) ?_
          refine x_goto (tgt := 64) hc dX9_node_59 (by decide) ?_
          cases h
          exact x_iret hc dX9_node_64 hr hM
      · have h := ite_t hb h
        refine x_aload_n hc dX9_node_30 rfl 0 rfl ?_
        refine x_iload_n hc dX9_node_31 rfl 1 rfl ?_
        obtain ⟨q4, h4, h⟩ := bd_some h
        refine x_callVi (As := [.int p1]) (st := []) (o := 0) hc dX9_node_32 cv_X9_partsOf lk_RX9_127 (q_s hSH sm_0) rfl rfl (q_cn hSH (S_Mo_partsOf h4)) (by decide) (Nat.le_of_ble_eq_true rfl) ?_
        refine x_goto (tgt := 64) hc dX9_node_35 (by decide) ?_
        cases h
        exact x_iret hc dX9_node_64 hr hM
    · have h := ite_t hb h
      refine x_aload_n hc dX9_node_15 rfl 0 rfl ?_
      refine x_getR hc dX9_node_16 fl_RX9_13 (q_s hSH sm_0) rfl ?_
      refine x_iload_n hc dX9_node_19 rfl 1 rfl ?_
      obtain ⟨b5, h⟩ := ck_some h
      refine x_iald hc dX9_node_20 (q_s hSH sm_2) (inb_in b5) ?_
      refine x_goto (tgt := 64) hc dX9_node_21 (by decide) ?_
      cases h
      exact x_iret hc dX9_node_64 hr hM
  · have h := ite_t hb h
    refine x_iconst hc dX9_node_8 kc_m1 ?_
    cases h
    exact x_iret hc dX9_node_9 hr hM

def Mo_pieces_L16_J39 (x1 : Int32) (x2 : Int32) (s0 : Int32) (s1 : Int32) (M : QM) : Option ((QM) ⊕ (Int32 × QM)) :=
  ck (inb s1 60) (ck (isb s0) (some (.inr (x2 + (1 : Int32), u_i M 13 s1.toNatClampNeg s0))))

set_option maxRecDepth 20000 in
set_option maxHeartbeats 2000000 in
theorem S_Mo_pieces_L16_J39 {C : QC} (hc : OKX C RX9 cX9_pieces 6 3 (some .int)) (hSH : q_SH C = SHM) (x1 : Int32) (x2 : Int32) (s0 : Int32) (s1 : Int32) (M : QM) {res : (QM) ⊕ (Int32 × QM)} (h : Mo_pieces_L16_J39 x1 x2 s0 s1 M = some res) (ke : ∀ x : QM, res = .inl x → WX C 6 46 [(0, .ref 0)] [] x) (kb : ∀ x : Int32 × QM, res = .inr x → WX C 6 16 [(0, .ref 0), (1, .int x1), (2, .int x.1)] [] x.2) : WX C 6 39 [(0, .ref 0), (1, .int x1), (2, .int x2)] [.int s0, .int s1, .ref 13] M := by
  unfold Mo_pieces_L16_J39 at h
  obtain ⟨b3, h⟩ := ck_some h
  obtain ⟨b4, h⟩ := ck_some h
  refine x_zast hc dX9_pieces_39 (q_s hSH sm_13) (inb_in b3) (isb_nar b4) ?_
  refine x_iinc (v := x2 + (1 : Int32)) (L2 := [(2, .int (x2 + (1 : Int32))), (0, .ref 0), (1, .int x1)]) hc dX9_pieces_40 2 rfl (by rw [kc_1]) (by decide) rfl ?_
  refine x_goto (tgt := 16) hc dX9_pieces_43 (by decide) ?_
  cases h
  exact x_sub (kb (x2 + (1 : Int32), u_i M 13 s1.toNatClampNeg s0) rfl) [1, 2, 0] rfl

def Mo_pieces_B16 (x1 : Int32) (v : Int32 × QM) : Option ((QM) ⊕ (Int32 × QM)) :=
  (if (v.2.1 0 2) ≤ v.1 then some (.inl v.2) else (if v.1 = x1 then Mo_pieces_L16_J39 x1 v.1 (1 : Int32) v.1 v.2 else Mo_pieces_L16_J39 x1 v.1 (0 : Int32) v.1 v.2))

set_option maxRecDepth 20000 in
set_option maxHeartbeats 2000000 in
theorem S_Mo_pieces_B16 {C : QC} (hc : OKX C RX9 cX9_pieces 6 3 (some .int)) (hSH : q_SH C = SHM) (x1 : Int32) (v : Int32 × QM) {res : (QM) ⊕ (Int32 × QM)} (h : Mo_pieces_B16 x1 v = some res) (ke : ∀ x : QM, res = .inl x → WX C 6 46 [(0, .ref 0)] [] x) (kb : ∀ x : Int32 × QM, res = .inr x → WX C 6 16 [(0, .ref 0), (1, .int x1), (2, .int x.1)] [] x.2) : WX C 6 16 [(0, .ref 0), (1, .int x1), (2, .int v.1)] [] v.2 := by
  unfold Mo_pieces_B16 at h
  refine x_iload_n hc dX9_pieces_16 rfl 2 rfl ?_
  refine x_aload_n hc dX9_pieces_17 rfl 0 rfl ?_
  refine x_getI hc dX9_pieces_18 fl_RX9_116 (q_s hSH sm_0) rfl ?_
  refine x_icmp_ge (tgt := 46) hc dX9_pieces_21 (by decide) (fun hb => ?_) (fun hb => ?_)
  · have h := ite_t hb h
    cases h
    exact x_sub (ke v.2 rfl) [0] rfl
  · have h := ite_f hb h
    refine x_aload_n hc dX9_pieces_24 rfl 0 rfl ?_
    refine x_getR hc dX9_pieces_25 fl_RX9_47 (q_s hSH sm_0) rfl ?_
    refine x_iload_n hc dX9_pieces_28 rfl 2 rfl ?_
    refine x_iload_n hc dX9_pieces_29 rfl 2 rfl ?_
    refine x_iload_n hc dX9_pieces_30 rfl 1 rfl ?_
    refine x_icmp_ne (tgt := 38) hc dX9_pieces_31 (by decide) (fun hb => ?_) (fun hb => ?_)
    · have h := ite_f hb h
      refine x_iconst hc dX9_pieces_38 kc_0 ?_
      exact x_sub (S_Mo_pieces_L16_J39 hc hSH x1 v.1 (0 : Int32) v.1 v.2 h ke kb) [0, 1, 2] rfl
    · have h := ite_t hb h
      refine x_iconst hc dX9_pieces_34 kc_1 ?_
      refine x_goto (tgt := 39) hc dX9_pieces_35 (by decide) ?_
      exact x_sub (S_Mo_pieces_L16_J39 hc hSH x1 v.1 (1 : Int32) v.1 v.2 h ke kb) [0, 1, 2] rfl

theorem S_Mo_pieces_L16 {C : QC} (hc : OKX C RX9 cX9_pieces 6 3 (some .int)) (hSH : q_SH C = SHM) (x1 : Int32) {n : Nat} {v : Int32 × QM} {e : QM} (h : iter (Mo_pieces_B16 x1) n v = some e) (ke : ∀ x : QM, e = x → WX C 6 46 [(0, .ref 0)] [] x) : WX C 6 16 [(0, .ref 0), (1, .int x1), (2, .int v.1)] [] v.2 :=
  iter_W (Wh := fun v => WX C 6 16 [(0, .ref 0), (1, .int x1), (2, .int v.1)] [] v.2) (fun a res hB k1 k2 => S_Mo_pieces_B16 hc hSH x1 a hB (fun x hx => ke x (k1 _ hx).symm) k2) n v h

def Mo_pieces_B69 (x2 : Int32) (x3 : Int32) (v : Int32 × QM) : Option ((QM) ⊕ (Int32 × QM)) :=
  (if (8 : Int32) ≤ v.1 then some (.inl v.2) else ck (inb x3 60) ((if (v.2.1 13 x3.toNatClampNeg) = 0 then some (.inl v.2) else ck (inb (((8 : Int32) * x3) + v.1) 480) ((if (v.2.1 3 (((8 : Int32) * x3) + v.1).toNatClampNeg) < 0 then some (.inr (v.1 + (1 : Int32), v.2)) else ck (inb (((8 : Int32) * x3) + v.1) 480) (ck (inb (v.2.1 3 (((8 : Int32) * x3) + v.1).toNatClampNeg) 60) (some (.inr (v.1 + (1 : Int32), u_i v.2 13 (v.2.1 3 (((8 : Int32) * x3) + v.1).toNatClampNeg).toNatClampNeg (1 : Int32))))))))))

set_option maxRecDepth 20000 in
set_option maxHeartbeats 2000000 in
theorem S_Mo_pieces_B69 {C : QC} (hc : OKX C RX9 cX9_pieces 6 3 (some .int)) (hSH : q_SH C = SHM) (x2 : Int32) (x3 : Int32) (v : Int32 × QM) {res : (QM) ⊕ (Int32 × QM)} (h : Mo_pieces_B69 x2 x3 v = some res) (ke : ∀ x : QM, res = .inl x → WX C 6 124 [(0, .ref 0), (2, .int x2), (3, .int x3)] [] x) (kb : ∀ x : Int32 × QM, res = .inr x → WX C 6 69 [(0, .ref 0), (2, .int x2), (3, .int x3), (4, .int x.1)] [] x.2) : WX C 6 69 [(0, .ref 0), (2, .int x2), (3, .int x3), (4, .int v.1)] [] v.2 := by
  unfold Mo_pieces_B69 at h
  refine x_iload hc dX9_pieces_69 3 rfl ?_
  refine x_bipush hc dX9_pieces_71 kb_8 ?_
  refine x_icmp_ge (tgt := 124) hc dX9_pieces_73 (by decide) (fun hb => ?_) (fun hb => ?_)
  · have h := ite_t hb h
    cases h
    exact x_sub (ke v.2 rfl) [0, 1, 2] rfl
  · have h := ite_f hb h
    refine x_aload_n hc dX9_pieces_76 rfl 0 rfl ?_
    refine x_getR hc dX9_pieces_77 fl_RX9_47 (q_s hSH sm_0) rfl ?_
    refine x_iload_n hc dX9_pieces_80 rfl 2 rfl ?_
    obtain ⟨b6, h⟩ := ck_some h
    refine x_zald hc dX9_pieces_81 (q_s hSH sm_13) (inb_in b6) ?_
    refine x_if_eq (tgt := 124) hc dX9_pieces_82 (by decide) (fun hb => ?_) (fun hb => ?_)
    · have h := ite_t hb h
      cases h
      exact x_sub (ke v.2 rfl) [0, 1, 2] rfl
    · have h := ite_f hb h
      refine x_aload_n hc dX9_pieces_85 rfl 0 rfl ?_
      refine x_getR hc dX9_pieces_86 fl_RX9_16 (q_s hSH sm_0) rfl ?_
      refine x_bipush hc dX9_pieces_89 kb_8 ?_
      refine x_iload_n hc dX9_pieces_91 rfl 2 rfl ?_
      refine x_imul hc dX9_pieces_92 ?_
      refine x_iload hc dX9_pieces_93 3 rfl ?_
      refine x_iadd hc dX9_pieces_95 ?_
      obtain ⟨b7, h⟩ := ck_some h
      refine x_iald hc dX9_pieces_96 (q_s hSH sm_3) (inb_in b7) ?_
      refine x_if_lt (tgt := 118) hc dX9_pieces_97 (by decide) (fun hb => ?_) (fun hb => ?_)
      · have h := ite_t hb h
        refine x_iinc (v := v.1 + (1 : Int32)) (L2 := [(4, .int (v.1 + (1 : Int32))), (0, .ref 0), (2, .int x2), (3, .int x3)]) hc dX9_pieces_118 3 rfl (by rw [kc_1]) (by decide) rfl ?_
        refine x_goto (tgt := 69) hc dX9_pieces_121 (by decide) ?_
        cases h
        exact x_sub (kb (v.1 + (1 : Int32), v.2) rfl) [1, 2, 3, 0] rfl
      · have h := ite_f hb h
        refine x_aload_n hc dX9_pieces_100 rfl 0 rfl ?_
        refine x_getR hc dX9_pieces_101 fl_RX9_47 (q_s hSH sm_0) rfl ?_
        refine x_aload_n hc dX9_pieces_104 rfl 0 rfl ?_
        refine x_getR hc dX9_pieces_105 fl_RX9_16 (q_s hSH sm_0) rfl ?_
        refine x_bipush hc dX9_pieces_108 kb_8 ?_
        refine x_iload_n hc dX9_pieces_110 rfl 2 rfl ?_
        refine x_imul hc dX9_pieces_111 ?_
        refine x_iload hc dX9_pieces_112 3 rfl ?_
        refine x_iadd hc dX9_pieces_114 ?_
        obtain ⟨b8, h⟩ := ck_some h
        refine x_iald hc dX9_pieces_115 (q_s hSH sm_3) (inb_in b8) ?_
        refine x_iconst hc dX9_pieces_116 kc_1 ?_
        obtain ⟨b9, h⟩ := ck_some h
        refine x_zast hc dX9_pieces_117 (q_s hSH sm_13) (inb_in b9) nar_1 ?_
        refine x_iinc (v := v.1 + (1 : Int32)) (L2 := [(4, .int (v.1 + (1 : Int32))), (0, .ref 0), (2, .int x2), (3, .int x3)]) hc dX9_pieces_118 3 rfl (by rw [kc_1]) (by decide) rfl ?_
        refine x_goto (tgt := 69) hc dX9_pieces_121 (by decide) ?_
        cases h
        exact x_sub (kb (v.1 + (1 : Int32), u_i v.2 13 (v.2.1 3 (((8 : Int32) * x3) + v.1).toNatClampNeg).toNatClampNeg (1 : Int32)) rfl) [1, 2, 3, 0] rfl

theorem S_Mo_pieces_L69 {C : QC} (hc : OKX C RX9 cX9_pieces 6 3 (some .int)) (hSH : q_SH C = SHM) (x2 : Int32) (x3 : Int32) {n : Nat} {v : Int32 × QM} {e : QM} (h : iter (Mo_pieces_B69 x2 x3) n v = some e) (ke : ∀ x : QM, e = x → WX C 6 124 [(0, .ref 0), (2, .int x2), (3, .int x3)] [] x) : WX C 6 69 [(0, .ref 0), (2, .int x2), (3, .int x3), (4, .int v.1)] [] v.2 :=
  iter_W (Wh := fun v => WX C 6 69 [(0, .ref 0), (2, .int x2), (3, .int x3), (4, .int v.1)] [] v.2) (fun a res hB k1 k2 => S_Mo_pieces_B69 hc hSH x2 x3 a hB (fun x hx => ke x (k1 _ hx).symm) k2) n v h

def Mo_pieces_B58 (x2 : Int32) (v : Int32 × QM) : Option ((QM) ⊕ (Int32 × QM)) :=
  (if (v.2.1 0 2) ≤ v.1 then some (.inl v.2) else Option.bind (iter (Mo_pieces_B69 x2 v.1) FU ((0 : Int32), v.2)) (fun e10 => some (.inr (v.1 + (1 : Int32), e10))))

set_option maxRecDepth 20000 in
set_option maxHeartbeats 2000000 in
theorem S_Mo_pieces_B58 {C : QC} (hc : OKX C RX9 cX9_pieces 6 3 (some .int)) (hSH : q_SH C = SHM) (x2 : Int32) (v : Int32 × QM) {res : (QM) ⊕ (Int32 × QM)} (h : Mo_pieces_B58 x2 v = some res) (ke : ∀ x : QM, res = .inl x → WX C 6 130 [(0, .ref 0), (2, .int x2)] [] x) (kb : ∀ x : Int32 × QM, res = .inr x → WX C 6 58 [(0, .ref 0), (2, .int x2), (3, .int x.1)] [] x.2) : WX C 6 58 [(0, .ref 0), (2, .int x2), (3, .int v.1)] [] v.2 := by
  unfold Mo_pieces_B58 at h
  refine x_iload_n hc dX9_pieces_58 rfl 2 rfl ?_
  refine x_aload_n hc dX9_pieces_59 rfl 0 rfl ?_
  refine x_getI hc dX9_pieces_60 fl_RX9_116 (q_s hSH sm_0) rfl ?_
  refine x_icmp_ge (tgt := 130) hc dX9_pieces_63 (by decide) (fun hb => ?_) (fun hb => ?_)
  · have h := ite_t hb h
    cases h
    exact x_sub (ke v.2 rfl) [0, 1] rfl
  · have h := ite_f hb h
    refine x_iconst hc dX9_pieces_66 kc_0 ?_
    refine x_istore (L2 := [(4, .int (0 : Int32)), (0, .ref 0), (2, .int x2), (3, .int v.1)]) hc dX9_pieces_67 (by decide) rfl ?_
    obtain ⟨e10, h10, h⟩ := bd_some h
    refine x_sub (S_Mo_pieces_L69 hc hSH x2 v.1 (v := ((0 : Int32), v.2)) h10 (fun x hx => ?_)) [1, 2, 3, 0] rfl
    subst hx
    refine x_iinc (v := v.1 + (1 : Int32)) (L2 := [(3, .int (v.1 + (1 : Int32))), (0, .ref 0), (2, .int x2)]) hc dX9_pieces_124 2 rfl (by rw [kc_1]) (by decide) rfl ?_
    refine x_goto (tgt := 58) hc dX9_pieces_127 (by decide) ?_
    cases h
    exact x_sub (kb (v.1 + (1 : Int32), e10) rfl) [1, 2, 0] rfl

theorem S_Mo_pieces_L58 {C : QC} (hc : OKX C RX9 cX9_pieces 6 3 (some .int)) (hSH : q_SH C = SHM) (x2 : Int32) {n : Nat} {v : Int32 × QM} {e : QM} (h : iter (Mo_pieces_B58 x2) n v = some e) (ke : ∀ x : QM, e = x → WX C 6 130 [(0, .ref 0), (2, .int x2)] [] x) : WX C 6 58 [(0, .ref 0), (2, .int x2), (3, .int v.1)] [] v.2 :=
  iter_W (Wh := fun v => WX C 6 58 [(0, .ref 0), (2, .int x2), (3, .int v.1)] [] v.2) (fun a res hB k1 k2 => S_Mo_pieces_B58 hc hSH x2 a hB (fun x hx => ke x (k1 _ hx).symm) k2) n v h

def Mo_pieces_B48 (v : Int32 × QM) : Option ((QM) ⊕ (Int32 × QM)) :=
  (if (v.2.1 0 2) ≤ v.1 then some (.inl v.2) else Option.bind (iter (Mo_pieces_B58 v.1) FU ((0 : Int32), v.2)) (fun e11 => some (.inr (v.1 + (1 : Int32), e11))))

set_option maxRecDepth 20000 in
set_option maxHeartbeats 2000000 in
theorem S_Mo_pieces_B48 {C : QC} (hc : OKX C RX9 cX9_pieces 6 3 (some .int)) (hSH : q_SH C = SHM) (v : Int32 × QM) {res : (QM) ⊕ (Int32 × QM)} (h : Mo_pieces_B48 v = some res) (ke : ∀ x : QM, res = .inl x → WX C 6 136 [(0, .ref 0)] [] x) (kb : ∀ x : Int32 × QM, res = .inr x → WX C 6 48 [(0, .ref 0), (2, .int x.1)] [] x.2) : WX C 6 48 [(0, .ref 0), (2, .int v.1)] [] v.2 := by
  unfold Mo_pieces_B48 at h
  refine x_iload_n hc dX9_pieces_48 rfl 1 rfl ?_
  refine x_aload_n hc dX9_pieces_49 rfl 0 rfl ?_
  refine x_getI hc dX9_pieces_50 fl_RX9_116 (q_s hSH sm_0) rfl ?_
  refine x_icmp_ge (tgt := 136) hc dX9_pieces_53 (by decide) (fun hb => ?_) (fun hb => ?_)
  · have h := ite_t hb h
    cases h
    exact x_sub (ke v.2 rfl) [0] rfl
  · have h := ite_f hb h
    refine x_iconst hc dX9_pieces_56 kc_0 ?_
    refine x_istore_n (L2 := [(3, .int (0 : Int32)), (0, .ref 0), (2, .int v.1)]) hc dX9_pieces_57 rfl (by decide) rfl ?_
    obtain ⟨e11, h11, h⟩ := bd_some h
    refine x_sub (S_Mo_pieces_L58 hc hSH v.1 (v := ((0 : Int32), v.2)) h11 (fun x hx => ?_)) [1, 2, 0] rfl
    subst hx
    refine x_iinc (v := v.1 + (1 : Int32)) (L2 := [(2, .int (v.1 + (1 : Int32))), (0, .ref 0)]) hc dX9_pieces_130 1 rfl (by rw [kc_1]) (by decide) rfl ?_
    refine x_goto (tgt := 48) hc dX9_pieces_133 (by decide) ?_
    cases h
    exact x_sub (kb (v.1 + (1 : Int32), e11) rfl) [1, 0] rfl

theorem S_Mo_pieces_L48 {C : QC} (hc : OKX C RX9 cX9_pieces 6 3 (some .int)) (hSH : q_SH C = SHM) {n : Nat} {v : Int32 × QM} {e : QM} (h : iter (Mo_pieces_B48) n v = some e) (ke : ∀ x : QM, e = x → WX C 6 136 [(0, .ref 0)] [] x) : WX C 6 48 [(0, .ref 0), (2, .int v.1)] [] v.2 :=
  iter_W (Wh := fun v => WX C 6 48 [(0, .ref 0), (2, .int v.1)] [] v.2) (fun a res hB k1 k2 => S_Mo_pieces_B48 hc hSH a hB (fun x hx => ke x (k1 _ hx).symm) k2) n v h

def Mo_pieces_B159 (x2 : Int32) (x3 : Int32) (M : QM) (v : Int32 × Int32) : Option ((Int32) ⊕ (Int32 × Int32)) :=
  (if x3 ≤ v.2 then some (.inl v.1) else (if v.1 = 0 then some (.inl v.1) else ck (inb v.2 60) ((if (M.1 13 v.2.toNatClampNeg) = 0 then some (.inr ((1 : Int32), v.2 + (1 : Int32))) else Option.bind (Mo_areAlike v.2 x3 M) (fun q15 => (if q15 = 0 then some (.inr ((1 : Int32), v.2 + (1 : Int32))) else some (.inr ((0 : Int32), v.2 + (1 : Int32)))))))))

set_option maxRecDepth 20000 in
set_option maxHeartbeats 2000000 in
theorem S_Mo_pieces_B159 {C : QC} (hc : OKX C RX9 cX9_pieces 6 3 (some .int)) (hSH : q_SH C = SHM) (x2 : Int32) (x3 : Int32) (M : QM) (v : Int32 × Int32) {res : (Int32) ⊕ (Int32 × Int32)} (h : Mo_pieces_B159 x2 x3 M v = some res) (ke : ∀ x : Int32, res = .inl x → WX C 6 203 [(0, .ref 0), (2, .int x2), (3, .int x3), (4, .int x)] [] M) (kb : ∀ x : Int32 × Int32, res = .inr x → WX C 6 159 [(0, .ref 0), (2, .int x2), (3, .int x3), (4, .int x.1), (5, .int x.2)] [] M) : WX C 6 159 [(0, .ref 0), (2, .int x2), (3, .int x3), (4, .int v.1), (5, .int v.2)] [] M := by
  unfold Mo_pieces_B159 at h
  refine x_iload hc dX9_pieces_159 4 rfl ?_
  refine x_iload_n hc dX9_pieces_161 rfl 2 rfl ?_
  refine x_icmp_ge (tgt := 203) hc dX9_pieces_162 (by decide) (fun hb => ?_) (fun hb => ?_)
  · have h := ite_t hb h
    cases h
    exact x_sub (ke v.1 rfl) [0, 1, 2, 3] rfl
  · have h := ite_f hb h
    refine x_iload hc dX9_pieces_165 3 rfl ?_
    refine x_if_eq (tgt := 203) hc dX9_pieces_167 (by decide) (fun hb => ?_) (fun hb => ?_)
    · have h := ite_t hb h
      cases h
      exact x_sub (ke v.1 rfl) [0, 1, 2, 3] rfl
    · have h := ite_f hb h
      refine x_aload_n hc dX9_pieces_170 rfl 0 rfl ?_
      refine x_getR hc dX9_pieces_171 fl_RX9_47 (q_s hSH sm_0) rfl ?_
      refine x_iload hc dX9_pieces_174 4 rfl ?_
      obtain ⟨b14, h⟩ := ck_some h
      refine x_zald hc dX9_pieces_176 (q_s hSH sm_13) (inb_in b14) ?_
      refine x_if_eq (tgt := 190) hc dX9_pieces_177 (by decide) (fun hb => ?_) (fun hb => ?_)
      · have h := ite_t hb h
        refine x_iconst hc dX9_pieces_190 kc_1 ?_
        refine x_goto (tgt := 195) hc dX9_pieces_191 (by decide) ?_
        refine x_istore (L2 := [(4, .int (1 : Int32)), (0, .ref 0), (2, .int x2), (3, .int x3), (5, .int v.2)]) hc dX9_pieces_195 (by decide) rfl ?_
        refine x_iinc (v := v.2 + (1 : Int32)) (L2 := [(5, .int (v.2 + (1 : Int32))), (4, .int (1 : Int32)), (0, .ref 0), (2, .int x2), (3, .int x3)]) hc dX9_pieces_197 4 rfl (by rw [kc_1]) (by decide) rfl ?_
        refine x_goto (tgt := 159) hc dX9_pieces_200 (by decide) ?_
        cases h
        exact x_sub (kb ((1 : Int32), v.2 + (1 : Int32)) rfl) [2, 3, 4, 1, 0] rfl
      · have h := ite_f hb h
        refine x_aload_n hc dX9_pieces_180 rfl 0 rfl ?_
        refine x_iload hc dX9_pieces_181 4 rfl ?_
        refine x_iload_n hc dX9_pieces_183 rfl 2 rfl ?_
        obtain ⟨q15, h15, h⟩ := bd_some h
        refine x_callVi (As := [.int v.2, .int x3]) (st := []) (o := 0) hc dX9_pieces_184 cv_X9_areAlike lk_RX9_154 (q_s hSH sm_0) rfl rfl (q_cn hSH (S_Mo_areAlike h15)) (by decide) (Nat.le_of_ble_eq_true rfl) ?_
        refine x_if_ne (tgt := 194) hc dX9_pieces_187 (by decide) (fun hb => ?_) (fun hb => ?_)
        · have h := ite_f hb h
          refine x_iconst hc dX9_pieces_194 kc_0 ?_
          refine x_istore (L2 := [(4, .int (0 : Int32)), (0, .ref 0), (2, .int x2), (3, .int x3), (5, .int v.2)]) hc dX9_pieces_195 (by decide) rfl ?_
          refine x_iinc (v := v.2 + (1 : Int32)) (L2 := [(5, .int (v.2 + (1 : Int32))), (4, .int (0 : Int32)), (0, .ref 0), (2, .int x2), (3, .int x3)]) hc dX9_pieces_197 4 rfl (by rw [kc_1]) (by decide) rfl ?_
          refine x_goto (tgt := 159) hc dX9_pieces_200 (by decide) ?_
          cases h
          exact x_sub (kb ((0 : Int32), v.2 + (1 : Int32)) rfl) [2, 3, 4, 1, 0] rfl
        · have h := ite_t hb h
          refine x_iconst hc dX9_pieces_190 kc_1 ?_
          refine x_goto (tgt := 195) hc dX9_pieces_191 (by decide) ?_
          refine x_istore (L2 := [(4, .int (1 : Int32)), (0, .ref 0), (2, .int x2), (3, .int x3), (5, .int v.2)]) hc dX9_pieces_195 (by decide) rfl ?_
          refine x_iinc (v := v.2 + (1 : Int32)) (L2 := [(5, .int (v.2 + (1 : Int32))), (4, .int (1 : Int32)), (0, .ref 0), (2, .int x2), (3, .int x3)]) hc dX9_pieces_197 4 rfl (by rw [kc_1]) (by decide) rfl ?_
          refine x_goto (tgt := 159) hc dX9_pieces_200 (by decide) ?_
          cases h
          exact x_sub (kb ((1 : Int32), v.2 + (1 : Int32)) rfl) [2, 3, 4, 1, 0] rfl

theorem S_Mo_pieces_L159 {C : QC} (hc : OKX C RX9 cX9_pieces 6 3 (some .int)) (hSH : q_SH C = SHM) (x2 : Int32) (x3 : Int32) (M : QM) {n : Nat} {v : Int32 × Int32} {e : Int32} (h : iter (Mo_pieces_B159 x2 x3 M) n v = some e) (ke : ∀ x : Int32, e = x → WX C 6 203 [(0, .ref 0), (2, .int x2), (3, .int x3), (4, .int x)] [] M) : WX C 6 159 [(0, .ref 0), (2, .int x2), (3, .int x3), (4, .int v.1), (5, .int v.2)] [] M :=
  iter_W (Wh := fun v => WX C 6 159 [(0, .ref 0), (2, .int x2), (3, .int x3), (4, .int v.1), (5, .int v.2)] [] M) (fun a res hB k1 k2 => S_Mo_pieces_B159 hc hSH x2 x3 M a hB (fun x hx => ke x (k1 _ hx).symm) k2) n v h

def Mo_pieces_L140_J203 (x2 : Int32) (x3 : Int32) (x4 : Int32) (M : QM) : Option ((Int32) ⊕ (Int32 × Int32)) :=
  (if x4 = 0 then some (.inr (x2 + (0 : Int32), x3 + (1 : Int32))) else some (.inr (x2 + (1 : Int32), x3 + (1 : Int32))))

set_option maxRecDepth 20000 in
set_option maxHeartbeats 2000000 in
theorem S_Mo_pieces_L140_J203 {C : QC} (hc : OKX C RX9 cX9_pieces 6 3 (some .int)) (hSH : q_SH C = SHM) (x2 : Int32) (x3 : Int32) (x4 : Int32) (M : QM) {res : (Int32) ⊕ (Int32 × Int32)} (h : Mo_pieces_L140_J203 x2 x3 x4 M = some res) (ke : ∀ x : Int32, res = .inl x → WX C 6 222 [(2, .int x)] [] M) (kb : ∀ x : Int32 × Int32, res = .inr x → WX C 6 140 [(0, .ref 0), (2, .int x.1), (3, .int x.2)] [] M) : WX C 6 203 [(0, .ref 0), (2, .int x2), (3, .int x3), (4, .int x4)] [] M := by
  unfold Mo_pieces_L140_J203 at h
  refine x_iload_n hc dX9_pieces_203 rfl 1 rfl ?_
  refine x_iload hc dX9_pieces_204 3 rfl ?_
  refine x_if_eq (tgt := 213) hc dX9_pieces_206 (by decide) (fun hb => ?_) (fun hb => ?_)
  · have h := ite_t hb h
    refine x_iconst hc dX9_pieces_213 kc_0 ?_
    refine x_iadd hc dX9_pieces_214 ?_
    refine x_istore_n (L2 := [(2, .int (x2 + (0 : Int32))), (0, .ref 0), (3, .int x3), (4, .int x4)]) hc dX9_pieces_215 rfl (by decide) rfl ?_
    refine x_iinc (v := x3 + (1 : Int32)) (L2 := [(3, .int (x3 + (1 : Int32))), (2, .int (x2 + (0 : Int32))), (0, .ref 0), (4, .int x4)]) hc dX9_pieces_216 2 rfl (by rw [kc_1]) (by decide) rfl ?_
    refine x_goto (tgt := 140) hc dX9_pieces_219 (by decide) ?_
    cases h
    exact x_sub (kb (x2 + (0 : Int32), x3 + (1 : Int32)) rfl) [2, 1, 0] rfl
  · have h := ite_f hb h
    refine x_iconst hc dX9_pieces_209 kc_1 ?_
    refine x_goto (tgt := 214) hc dX9_pieces_210 (by decide) ?_
    refine x_iadd hc dX9_pieces_214 ?_
    refine x_istore_n (L2 := [(2, .int (x2 + (1 : Int32))), (0, .ref 0), (3, .int x3), (4, .int x4)]) hc dX9_pieces_215 rfl (by decide) rfl ?_
    refine x_iinc (v := x3 + (1 : Int32)) (L2 := [(3, .int (x3 + (1 : Int32))), (2, .int (x2 + (1 : Int32))), (0, .ref 0), (4, .int x4)]) hc dX9_pieces_216 2 rfl (by rw [kc_1]) (by decide) rfl ?_
    refine x_goto (tgt := 140) hc dX9_pieces_219 (by decide) ?_
    cases h
    exact x_sub (kb (x2 + (1 : Int32), x3 + (1 : Int32)) rfl) [2, 1, 0] rfl

def Mo_pieces_B140 (M : QM) (v : Int32 × Int32) : Option ((Int32) ⊕ (Int32 × Int32)) :=
  (if (M.1 0 2) ≤ v.2 then some (.inl v.1) else ck (inb v.2 60) (Option.bind (iter (Mo_pieces_B159 v.1 v.2 M) FU (M.1 13 v.2.toNatClampNeg, (0 : Int32))) (fun e16 => Mo_pieces_L140_J203 v.1 v.2 e16 M)))

set_option maxRecDepth 20000 in
set_option maxHeartbeats 2000000 in
theorem S_Mo_pieces_B140 {C : QC} (hc : OKX C RX9 cX9_pieces 6 3 (some .int)) (hSH : q_SH C = SHM) (M : QM) (v : Int32 × Int32) {res : (Int32) ⊕ (Int32 × Int32)} (h : Mo_pieces_B140 M v = some res) (ke : ∀ x : Int32, res = .inl x → WX C 6 222 [(2, .int x)] [] M) (kb : ∀ x : Int32 × Int32, res = .inr x → WX C 6 140 [(0, .ref 0), (2, .int x.1), (3, .int x.2)] [] M) : WX C 6 140 [(0, .ref 0), (2, .int v.1), (3, .int v.2)] [] M := by
  unfold Mo_pieces_B140 at h
  refine x_iload_n hc dX9_pieces_140 rfl 2 rfl ?_
  refine x_aload_n hc dX9_pieces_141 rfl 0 rfl ?_
  refine x_getI hc dX9_pieces_142 fl_RX9_116 (q_s hSH sm_0) rfl ?_
  refine x_icmp_ge (tgt := 222) hc dX9_pieces_145 (by decide) (fun hb => ?_) (fun hb => ?_)
  · have h := ite_t hb h
    cases h
    exact x_sub (ke v.1 rfl) [1] rfl
  · have h := ite_f hb h
    refine x_aload_n hc dX9_pieces_148 rfl 0 rfl ?_
    refine x_getR hc dX9_pieces_149 fl_RX9_47 (q_s hSH sm_0) rfl ?_
    refine x_iload_n hc dX9_pieces_152 rfl 2 rfl ?_
    obtain ⟨b13, h⟩ := ck_some h
    refine x_zald hc dX9_pieces_153 (q_s hSH sm_13) (inb_in b13) ?_
    refine x_istore (L2 := [(4, .int (M.1 13 v.2.toNatClampNeg)), (0, .ref 0), (2, .int v.1), (3, .int v.2)]) hc dX9_pieces_154 (by decide) rfl ?_
    refine x_iconst hc dX9_pieces_156 kc_0 ?_
    refine x_istore (L2 := [(5, .int (0 : Int32)), (4, .int (M.1 13 v.2.toNatClampNeg)), (0, .ref 0), (2, .int v.1), (3, .int v.2)]) hc dX9_pieces_157 (by decide) rfl ?_
    obtain ⟨e16, h16, h⟩ := bd_some h
    refine x_sub (S_Mo_pieces_L159 hc hSH v.1 v.2 M (v := (M.1 13 v.2.toNatClampNeg, (0 : Int32))) h16 (fun x hx => ?_)) [2, 3, 4, 1, 0] rfl
    subst hx
    exact x_sub (S_Mo_pieces_L140_J203 hc hSH v.1 v.2 e16 M h ke kb) [0, 1, 2, 3] rfl

theorem S_Mo_pieces_L140 {C : QC} (hc : OKX C RX9 cX9_pieces 6 3 (some .int)) (hSH : q_SH C = SHM) (M : QM) {n : Nat} {v : Int32 × Int32} {e : Int32} (h : iter (Mo_pieces_B140 M) n v = some e) (ke : ∀ x : Int32, e = x → WX C 6 222 [(2, .int x)] [] M) : WX C 6 140 [(0, .ref 0), (2, .int v.1), (3, .int v.2)] [] M :=
  iter_W (Wh := fun v => WX C 6 140 [(0, .ref 0), (2, .int v.1), (3, .int v.2)] [] M) (fun a res hB k1 k2 => S_Mo_pieces_B140 hc hSH M a hB (fun x hx => ke x (k1 _ hx).symm) k2) n v h

def Mo_pieces (p1 : Int32) (M : QM) : Option (Int32 × QM) :=
  Option.bind (Mo_isNode p1 M) (fun q1 => (if q1 = 0 then some ((-1 : Int32), M) else Option.bind (Mo_lay M) (fun q2 => Option.bind (iter (Mo_pieces_B16 p1) FU ((0 : Int32), q2)) (fun e5 => Option.bind (iter (Mo_pieces_B48) FU ((0 : Int32), e5)) (fun e12 => Option.bind (iter (Mo_pieces_B140 e12) FU ((0 : Int32), (0 : Int32))) (fun e17 => some (e17, e12)))))))

set_option maxRecDepth 20000 in
set_option maxHeartbeats 2000000 in
theorem S_Mo_pieces  {p1 : Int32} {M : QM} {res : Int32 × QM} (h : Mo_pieces p1 M = some res) : Cn yX9_pieces cX9_pieces 6 (some .int) 3 SHM [.ref 0, .int p1] M (some (.int res.1)) res.2 := by
  refine q_enter (L := [(0, .ref 0), (1, .int p1)]) (by decide) (Nat.le_of_ble_eq_true rfl) rfl ?_
  intro C hc hSH hr hM
  have hc : OKX C RX9 cX9_pieces 6 3 (some .int) := hc
  unfold Mo_pieces at h
  refine x_aload_n hc dX9_pieces_0 rfl 0 rfl ?_
  refine x_iload_n hc dX9_pieces_1 rfl 1 rfl ?_
  obtain ⟨q1, h1, h⟩ := bd_some h
  refine x_callVi (As := [.int p1]) (st := []) (o := 0) hc dX9_pieces_2 cv_X9_isNode lk_RX9_123 (q_s hSH sm_0) rfl rfl (q_cn hSH (S_Mo_isNode h1)) (by decide) (Nat.le_of_ble_eq_true rfl) ?_
  refine x_if_ne (tgt := 10) hc dX9_pieces_5 (by decide) (fun hb => ?_) (fun hb => ?_)
  · have h := ite_f hb h
    refine x_aload_n hc dX9_pieces_10 rfl 0 rfl ?_
    obtain ⟨q2, h2, h⟩ := bd_some h
    refine x_callVv (As := []) (st := []) (o := 0) hc dX9_pieces_11 cv_X9_lay lk_RX9_145 (q_s hSH sm_0) rfl rfl (q_cn hSH (S_Mo_lay h2)) (by decide) (Nat.le_of_ble_eq_true rfl) ?_
    refine x_iconst hc dX9_pieces_14 kc_0 ?_
    refine x_istore_n (L2 := [(2, .int (0 : Int32)), (0, .ref 0), (1, .int p1)]) hc dX9_pieces_15 rfl (by decide) rfl ?_
    obtain ⟨e5, h5, h⟩ := bd_some h
    refine x_sub (S_Mo_pieces_L16 hc hSH p1 (v := ((0 : Int32), q2)) h5 (fun x hx => ?_)) [1, 2, 0] rfl
    subst hx
    refine x_iconst hc dX9_pieces_46 kc_0 ?_
    refine x_istore_n (L2 := [(2, .int (0 : Int32)), (0, .ref 0)]) hc dX9_pieces_47 rfl (by decide) rfl ?_
    obtain ⟨e12, h12, h⟩ := bd_some h
    refine x_sub (S_Mo_pieces_L48 hc hSH (v := ((0 : Int32), e5)) h12 (fun x hx => ?_)) [1, 0] rfl
    subst hx
    refine x_iconst hc dX9_pieces_136 kc_0 ?_
    refine x_istore_n (L2 := [(2, .int (0 : Int32)), (0, .ref 0)]) hc dX9_pieces_137 rfl (by decide) rfl ?_
    refine x_iconst hc dX9_pieces_138 kc_0 ?_
    refine x_istore_n (L2 := [(3, .int (0 : Int32)), (2, .int (0 : Int32)), (0, .ref 0)]) hc dX9_pieces_139 rfl (by decide) rfl ?_
    obtain ⟨e17, h17, h⟩ := bd_some h
    refine x_sub (S_Mo_pieces_L140 hc hSH e12 (v := ((0 : Int32), (0 : Int32))) h17 (fun x hx => ?_)) [2, 1, 0] rfl
    subst hx
    refine x_iload_n hc dX9_pieces_222 rfl 0 rfl ?_
    cases h
    exact x_iret hc dX9_pieces_223 hr hM
  · have h := ite_t hb h
    refine x_iconst hc dX9_pieces_8 kc_m1 ?_
    cases h
    exact x_iret hc dX9_pieces_9 hr hM

def Mo_say (p1 : Int32) (M : QM) : Option (Int32 × QM) :=
  Option.bind (Mo_in p1 (33 : Int32) (126 : Int32) M) (fun q1 => (if q1 = 0 then some ((-2 : Int32), M) else (if (M.1 0 0) = (100 : Int32) then some ((-4 : Int32), M) else ck (inb (M.1 0 0) 100) (some ((u_i (u_i M 1 (M.1 0 0).toNatClampNeg p1) 0 0 (((u_i M 1 (M.1 0 0).toNatClampNeg p1).1 0 0) + (1 : Int32))).1 0 0, u_i (u_i M 1 (M.1 0 0).toNatClampNeg p1) 0 0 (((u_i M 1 (M.1 0 0).toNatClampNeg p1).1 0 0) + (1 : Int32)))))))

set_option maxRecDepth 20000 in
set_option maxHeartbeats 2000000 in
theorem S_Mo_say  {p1 : Int32} {M : QM} {res : Int32 × QM} (h : Mo_say p1 M = some res) : Cn yX9_say cX9_say 2 (some .int) 1 SHM [.ref 0, .int p1] M (some (.int res.1)) res.2 := by
  refine q_enter (L := [(0, .ref 0), (1, .int p1)]) (by decide) (Nat.le_of_ble_eq_true rfl) rfl ?_
  intro C hc hSH hr hM
  have hc : OKX C RX9 cX9_say 2 1 (some .int) := hc
  unfold Mo_say at h
  refine x_iload_n hc dX9_say_0 rfl 1 rfl ?_
  refine x_bipush hc dX9_say_1 kb_33 ?_
  refine x_bipush hc dX9_say_3 kb_126 ?_
  obtain ⟨q1, h1, h⟩ := bd_some h
  refine x_callSi (As := [.int p1, .int (33 : Int32), .int (126 : Int32)]) (st := []) hc dX9_say_5 cs_X9_in lk_RX9_84 rfl (q_cn hSH (S_Mo_in h1)) (by decide) (Nat.le_of_ble_eq_true rfl) ?_
  refine x_if_ne (tgt := 14) hc dX9_say_8 (by decide) (fun hb => ?_) (fun hb => ?_)
  · have h := ite_f hb h
    refine x_aload_n hc dX9_say_14 rfl 0 rfl ?_
    refine x_getI hc dX9_say_15 fl_RX9_88 (q_s hSH sm_0) rfl ?_
    refine x_bipush hc dX9_say_18 kb_100 ?_
    refine x_icmp_ne (tgt := 26) hc dX9_say_20 (by decide) (fun hb => ?_) (fun hb => ?_)
    · have h := ite_f hb h
      refine x_aload_n hc dX9_say_26 rfl 0 rfl ?_
      refine x_getR hc dX9_say_27 fl_RX9_7 (q_s hSH sm_0) rfl ?_
      refine x_aload_n hc dX9_say_30 rfl 0 rfl ?_
      refine x_getI hc dX9_say_31 fl_RX9_88 (q_s hSH sm_0) rfl ?_
      refine x_iload_n hc dX9_say_34 rfl 1 rfl ?_
      obtain ⟨b2, h⟩ := ck_some h
      refine x_iast hc dX9_say_35 (q_s hSH sm_1) (inb_in b2) ?_
      refine x_aload_n hc dX9_say_36 rfl 0 rfl ?_
      refine x_dup hc dX9_say_37 rfl ?_
      refine x_getI hc dX9_say_38 fl_RX9_88 (q_s hSH sm_0) rfl ?_
      refine x_iconst hc dX9_say_41 kc_1 ?_
      refine x_iadd hc dX9_say_42 ?_
      refine x_putI hc dX9_say_43 fl_RX9_88 (fw_9_0 _) (q_s hSH sm_0) rfl ?_
      refine x_aload_n hc dX9_say_46 rfl 0 rfl ?_
      refine x_getI hc dX9_say_47 fl_RX9_88 (q_s hSH sm_0) rfl ?_
      cases h
      exact x_iret hc dX9_say_50 hr hM
    · have h := ite_t hb h
      refine x_bipush hc dX9_say_23 kb_m4 ?_
      cases h
      exact x_iret hc dX9_say_25 hr hM
  · have h := ite_t hb h
    refine x_bipush hc dX9_say_11 kb_m2 ?_
    cases h
    exact x_iret hc dX9_say_13 hr hM

def Mo_size (M : QM) : Option (Int32 × QM) :=
  Option.bind (Mo_slipOf M) (fun q1 => (if q1.1 < 0 then some (q1.2.1 0 24, q1.2) else some ((-5 : Int32), q1.2)))

set_option maxRecDepth 20000 in
set_option maxHeartbeats 2000000 in
theorem S_Mo_size  {M : QM} {res : Int32 × QM} (h : Mo_size M = some res) : Cn yX9_size cX9_size 1 (some .int) 2 SHM [.ref 0] M (some (.int res.1)) res.2 := by
  refine q_enter (L := [(0, .ref 0)]) (by decide) (Nat.le_of_ble_eq_true rfl) rfl ?_
  intro C hc hSH hr hM
  have hc : OKX C RX9 cX9_size 1 2 (some .int) := hc
  unfold Mo_size at h
  refine x_aload_n hc dX9_size_0 rfl 0 rfl ?_
  obtain ⟨q1, h1, h⟩ := bd_some h
  refine x_callVi (As := []) (st := []) (o := 0) hc dX9_size_1 cv_X9_slipOf lk_RX9_175 (q_s hSH sm_0) rfl rfl (q_cn hSH (S_Mo_slipOf h1)) (by decide) (Nat.le_of_ble_eq_true rfl) ?_
  refine x_if_lt (tgt := 12) hc dX9_size_4 (by decide) (fun hb => ?_) (fun hb => ?_)
  · have h := ite_t hb h
    refine x_aload_n hc dX9_size_12 rfl 0 rfl ?_
    refine x_getI hc dX9_size_13 fl_RX9_169 (q_s hSH sm_0) rfl ?_
    cases h
    exact x_iret hc dX9_size_16 hr hM
  · have h := ite_f hb h
    refine x_bipush hc dX9_size_7 kb_m5 ?_
    refine x_goto (tgt := 16) hc dX9_size_9 (by decide) ?_
    cases h
    exact x_iret hc dX9_size_16 hr hM

def Mo_slip (M : QM) : Option (Int32 × QM) :=
  Option.bind (Mo_slipOf M) (fun q1 => some (q1.1, q1.2))

set_option maxRecDepth 20000 in
set_option maxHeartbeats 2000000 in
theorem S_Mo_slip  {M : QM} {res : Int32 × QM} (h : Mo_slip M = some res) : Cn yX9_slip cX9_slip 1 (some .int) 2 SHM [.ref 0] M (some (.int res.1)) res.2 := by
  refine q_enter (L := [(0, .ref 0)]) (by decide) (Nat.le_of_ble_eq_true rfl) rfl ?_
  intro C hc hSH hr hM
  have hc : OKX C RX9 cX9_slip 1 2 (some .int) := hc
  unfold Mo_slip at h
  refine x_aload_n hc dX9_slip_0 rfl 0 rfl ?_
  obtain ⟨q1, h1, h⟩ := bd_some h
  refine x_callVi (As := []) (st := []) (o := 0) hc dX9_slip_1 cv_X9_slipOf lk_RX9_175 (q_s hSH sm_0) rfl rfl (q_cn hSH (S_Mo_slipOf h1)) (by decide) (Nat.le_of_ble_eq_true rfl) ?_
  cases h
  exact x_iret hc dX9_slip_4 hr hM

def Mo_take_B12 (M : QM) (v : Int32) : Option (((Int32 × QM) ⊕ (Unit)) ⊕ (Int32)) :=
  (if (8 : Int32) ≤ v then some (.inl (.inr ())) else ck (inb v 8) ((if (M.1 7 v.toNatClampNeg) = (-6 : Int32) then some (.inr (v + (1 : Int32))) else ck (inb v 8) (Option.bind (Mo_comesTo (M.1 7 v.toNatClampNeg) M) (fun q4 => (if 0 ≤ q4 then some (.inr (v + (1 : Int32))) else some (.inl (.inl ((-5 : Int32), M)))))))))

set_option maxRecDepth 20000 in
set_option maxHeartbeats 2000000 in
theorem S_Mo_take_B12 {C : QC} (hc : OKX C RX9 cX9_take 2 2 (some .int)) (hSH : q_SH C = SHM) (M : QM) (v : Int32) {res : ((Int32 × QM) ⊕ (Unit)) ⊕ (Int32)} (h : Mo_take_B12 M v = some res) (kr : ∀ x : Int32 × QM, res = .inl (.inl x) → q_r C = some (.int x.1) ∧ q_M C = x.2) (ke : ∀ x : Unit, res = .inl (.inr x) → WX C 2 51 [(0, .ref 0)] [] M) (kb : ∀ x : Int32, res = .inr x → WX C 2 12 [(0, .ref 0), (1, .int x)] [] M) : WX C 2 12 [(0, .ref 0), (1, .int v)] [] M := by
  unfold Mo_take_B12 at h
  refine x_iload_n hc dX9_take_12 rfl 1 rfl ?_
  refine x_bipush hc dX9_take_13 kb_8 ?_
  refine x_icmp_ge (tgt := 51) hc dX9_take_15 (by decide) (fun hb => ?_) (fun hb => ?_)
  · have h := ite_t hb h
    cases h
    exact x_sub (ke () rfl) [0] rfl
  · have h := ite_f hb h
    refine x_aload_n hc dX9_take_18 rfl 0 rfl ?_
    refine x_getR hc dX9_take_19 fl_RX9_28 (q_s hSH sm_0) rfl ?_
    refine x_iload_n hc dX9_take_22 rfl 1 rfl ?_
    obtain ⟨b2, h⟩ := ck_some h
    refine x_iald hc dX9_take_23 (q_s hSH sm_7) (inb_in b2) ?_
    refine x_bipush hc dX9_take_24 kb_m6 ?_
    refine x_icmp_eq (tgt := 45) hc dX9_take_26 (by decide) (fun hb => ?_) (fun hb => ?_)
    · have h := ite_t hb h
      refine x_iinc (v := v + (1 : Int32)) (L2 := [(1, .int (v + (1 : Int32))), (0, .ref 0)]) hc dX9_take_45 1 rfl (by rw [kc_1]) (by decide) rfl ?_
      refine x_goto (tgt := 12) hc dX9_take_48 (by decide) ?_
      cases h
      exact x_sub (kb (v + (1 : Int32)) rfl) [1, 0] rfl
    · have h := ite_f hb h
      refine x_aload_n hc dX9_take_29 rfl 0 rfl ?_
      refine x_aload_n hc dX9_take_30 rfl 0 rfl ?_
      refine x_getR hc dX9_take_31 fl_RX9_28 (q_s hSH sm_0) rfl ?_
      refine x_iload_n hc dX9_take_34 rfl 1 rfl ?_
      obtain ⟨b3, h⟩ := ck_some h
      refine x_iald hc dX9_take_35 (q_s hSH sm_7) (inb_in b3) ?_
      obtain ⟨q4, h4, h⟩ := bd_some h
      refine x_callVi (As := [.int (M.1 7 v.toNatClampNeg)]) (st := []) (o := 0) hc dX9_take_36 cv_X9_comesTo lk_RX9_112 (q_s hSH sm_0) rfl rfl (q_cn hSH (S_Mo_comesTo h4)) (by decide) (Nat.le_of_ble_eq_true rfl) ?_
      refine x_if_ge (tgt := 45) hc dX9_take_39 (by decide) (fun hb => ?_) (fun hb => ?_)
      · have h := ite_t hb h
        refine x_iinc (v := v + (1 : Int32)) (L2 := [(1, .int (v + (1 : Int32))), (0, .ref 0)]) hc dX9_take_45 1 rfl (by rw [kc_1]) (by decide) rfl ?_
        refine x_goto (tgt := 12) hc dX9_take_48 (by decide) ?_
        cases h
        exact x_sub (kb (v + (1 : Int32)) rfl) [1, 0] rfl
      · have h := ite_f hb h
        refine x_bipush hc dX9_take_42 kb_m5 ?_
        cases h
        exact x_iret hc dX9_take_44 (kr _ rfl).1 (kr _ rfl).2

theorem S_Mo_take_L12 {C : QC} (hc : OKX C RX9 cX9_take 2 2 (some .int)) (hSH : q_SH C = SHM) (M : QM) {n : Nat} {v : Int32} {e : (Int32 × QM) ⊕ (Unit)} (h : iter (Mo_take_B12 M) n v = some e) (kr : ∀ x : Int32 × QM, e = .inl x → q_r C = some (.int x.1) ∧ q_M C = x.2) (ke : ∀ x : Unit, e = .inr x → WX C 2 51 [(0, .ref 0)] [] M) : WX C 2 12 [(0, .ref 0), (1, .int v)] [] M :=
  iter_W (Wh := fun v => WX C 2 12 [(0, .ref 0), (1, .int v)] [] M) (fun a res hB k1 k2 => S_Mo_take_B12 hc hSH M a hB (fun x hx => kr x (k1 _ hx).symm) (fun x hx => ke x (k1 _ hx).symm) k2) n v h

def Mo_take_B53 (M : QM) (v : Int32) : Option (((Int32 × QM) ⊕ (Unit)) ⊕ (Int32)) :=
  (if ((8 : Int32) * (M.1 0 6)) ≤ v then some (.inl (.inr ())) else ck (inb v 800) ((if (M.1 6 v.toNatClampNeg) = (-6 : Int32) then some (.inr (v + (1 : Int32))) else ck (inb v 800) (Option.bind (Mo_comesTo (M.1 6 v.toNatClampNeg) M) (fun q8 => (if 0 ≤ q8 then some (.inr (v + (1 : Int32))) else some (.inl (.inl ((-5 : Int32), M)))))))))

set_option maxRecDepth 20000 in
set_option maxHeartbeats 2000000 in
theorem S_Mo_take_B53 {C : QC} (hc : OKX C RX9 cX9_take 2 2 (some .int)) (hSH : q_SH C = SHM) (M : QM) (v : Int32) {res : ((Int32 × QM) ⊕ (Unit)) ⊕ (Int32)} (h : Mo_take_B53 M v = some res) (kr : ∀ x : Int32 × QM, res = .inl (.inl x) → q_r C = some (.int x.1) ∧ q_M C = x.2) (ke : ∀ x : Unit, res = .inl (.inr x) → WX C 2 97 [(0, .ref 0)] [] M) (kb : ∀ x : Int32, res = .inr x → WX C 2 53 [(0, .ref 0), (1, .int x)] [] M) : WX C 2 53 [(0, .ref 0), (1, .int v)] [] M := by
  unfold Mo_take_B53 at h
  refine x_iload_n hc dX9_take_53 rfl 1 rfl ?_
  refine x_bipush hc dX9_take_54 kb_8 ?_
  refine x_aload_n hc dX9_take_56 rfl 0 rfl ?_
  refine x_getI hc dX9_take_57 fl_RX9_98 (q_s hSH sm_0) rfl ?_
  refine x_imul hc dX9_take_60 ?_
  refine x_icmp_ge (tgt := 97) hc dX9_take_61 (by decide) (fun hb => ?_) (fun hb => ?_)
  · have h := ite_t hb h
    cases h
    exact x_sub (ke () rfl) [0] rfl
  · have h := ite_f hb h
    refine x_aload_n hc dX9_take_64 rfl 0 rfl ?_
    refine x_getR hc dX9_take_65 fl_RX9_25 (q_s hSH sm_0) rfl ?_
    refine x_iload_n hc dX9_take_68 rfl 1 rfl ?_
    obtain ⟨b6, h⟩ := ck_some h
    refine x_iald hc dX9_take_69 (q_s hSH sm_6) (inb_in b6) ?_
    refine x_bipush hc dX9_take_70 kb_m6 ?_
    refine x_icmp_eq (tgt := 91) hc dX9_take_72 (by decide) (fun hb => ?_) (fun hb => ?_)
    · have h := ite_t hb h
      refine x_iinc (v := v + (1 : Int32)) (L2 := [(1, .int (v + (1 : Int32))), (0, .ref 0)]) hc dX9_take_91 1 rfl (by rw [kc_1]) (by decide) rfl ?_
      refine x_goto (tgt := 53) hc dX9_take_94 (by decide) ?_
      cases h
      exact x_sub (kb (v + (1 : Int32)) rfl) [1, 0] rfl
    · have h := ite_f hb h
      refine x_aload_n hc dX9_take_75 rfl 0 rfl ?_
      refine x_aload_n hc dX9_take_76 rfl 0 rfl ?_
      refine x_getR hc dX9_take_77 fl_RX9_25 (q_s hSH sm_0) rfl ?_
      refine x_iload_n hc dX9_take_80 rfl 1 rfl ?_
      obtain ⟨b7, h⟩ := ck_some h
      refine x_iald hc dX9_take_81 (q_s hSH sm_6) (inb_in b7) ?_
      obtain ⟨q8, h8, h⟩ := bd_some h
      refine x_callVi (As := [.int (M.1 6 v.toNatClampNeg)]) (st := []) (o := 0) hc dX9_take_82 cv_X9_comesTo lk_RX9_112 (q_s hSH sm_0) rfl rfl (q_cn hSH (S_Mo_comesTo h8)) (by decide) (Nat.le_of_ble_eq_true rfl) ?_
      refine x_if_ge (tgt := 91) hc dX9_take_85 (by decide) (fun hb => ?_) (fun hb => ?_)
      · have h := ite_t hb h
        refine x_iinc (v := v + (1 : Int32)) (L2 := [(1, .int (v + (1 : Int32))), (0, .ref 0)]) hc dX9_take_91 1 rfl (by rw [kc_1]) (by decide) rfl ?_
        refine x_goto (tgt := 53) hc dX9_take_94 (by decide) ?_
        cases h
        exact x_sub (kb (v + (1 : Int32)) rfl) [1, 0] rfl
      · have h := ite_f hb h
        refine x_bipush hc dX9_take_88 kb_m5 ?_
        cases h
        exact x_iret hc dX9_take_90 (kr _ rfl).1 (kr _ rfl).2

theorem S_Mo_take_L53 {C : QC} (hc : OKX C RX9 cX9_take 2 2 (some .int)) (hSH : q_SH C = SHM) (M : QM) {n : Nat} {v : Int32} {e : (Int32 × QM) ⊕ (Unit)} (h : iter (Mo_take_B53 M) n v = some e) (kr : ∀ x : Int32 × QM, e = .inl x → q_r C = some (.int x.1) ∧ q_M C = x.2) (ke : ∀ x : Unit, e = .inr x → WX C 2 97 [(0, .ref 0)] [] M) : WX C 2 53 [(0, .ref 0), (1, .int v)] [] M :=
  iter_W (Wh := fun v => WX C 2 53 [(0, .ref 0), (1, .int v)] [] M) (fun a res hB k1 k2 => S_Mo_take_B53 hc hSH M a hB (fun x hx => kr x (k1 _ hx).symm) (fun x hx => ke x (k1 _ hx).symm) k2) n v h

def Mo_take_B119 (v : Int32 × QM) : Option ((QM) ⊕ (Int32 × QM)) :=
  (if (v.2.1 0 6) ≤ v.1 then some (.inl v.2) else ck (inb v.1 100) (ck (inb v.1 60) (some (.inr (v.1 + (1 : Int32), u_i v.2 2 v.1.toNatClampNeg (v.2.1 5 v.1.toNatClampNeg))))))

set_option maxRecDepth 20000 in
set_option maxHeartbeats 2000000 in
theorem S_Mo_take_B119 {C : QC} (hc : OKX C RX9 cX9_take 2 2 (some .int)) (hSH : q_SH C = SHM) (v : Int32 × QM) {res : (QM) ⊕ (Int32 × QM)} (h : Mo_take_B119 v = some res) (ke : ∀ x : QM, res = .inl x → WX C 2 145 [(0, .ref 0)] [] x) (kb : ∀ x : Int32 × QM, res = .inr x → WX C 2 119 [(0, .ref 0), (1, .int x.1)] [] x.2) : WX C 2 119 [(0, .ref 0), (1, .int v.1)] [] v.2 := by
  unfold Mo_take_B119 at h
  refine x_iload_n hc dX9_take_119 rfl 1 rfl ?_
  refine x_aload_n hc dX9_take_120 rfl 0 rfl ?_
  refine x_getI hc dX9_take_121 fl_RX9_98 (q_s hSH sm_0) rfl ?_
  refine x_icmp_ge (tgt := 145) hc dX9_take_124 (by decide) (fun hb => ?_) (fun hb => ?_)
  · have h := ite_t hb h
    cases h
    exact x_sub (ke v.2 rfl) [0] rfl
  · have h := ite_f hb h
    refine x_aload_n hc dX9_take_127 rfl 0 rfl ?_
    refine x_getR hc dX9_take_128 fl_RX9_13 (q_s hSH sm_0) rfl ?_
    refine x_iload_n hc dX9_take_131 rfl 1 rfl ?_
    refine x_aload_n hc dX9_take_132 rfl 0 rfl ?_
    refine x_getR hc dX9_take_133 fl_RX9_22 (q_s hSH sm_0) rfl ?_
    refine x_iload_n hc dX9_take_136 rfl 1 rfl ?_
    obtain ⟨b10, h⟩ := ck_some h
    refine x_iald hc dX9_take_137 (q_s hSH sm_5) (inb_in b10) ?_
    obtain ⟨b11, h⟩ := ck_some h
    refine x_iast hc dX9_take_138 (q_s hSH sm_2) (inb_in b11) ?_
    refine x_iinc (v := v.1 + (1 : Int32)) (L2 := [(1, .int (v.1 + (1 : Int32))), (0, .ref 0)]) hc dX9_take_139 1 rfl (by rw [kc_1]) (by decide) rfl ?_
    refine x_goto (tgt := 119) hc dX9_take_142 (by decide) ?_
    cases h
    exact x_sub (kb (v.1 + (1 : Int32), u_i v.2 2 v.1.toNatClampNeg (v.2.1 5 v.1.toNatClampNeg)) rfl) [1, 0] rfl

theorem S_Mo_take_L119 {C : QC} (hc : OKX C RX9 cX9_take 2 2 (some .int)) (hSH : q_SH C = SHM) {n : Nat} {v : Int32 × QM} {e : QM} (h : iter (Mo_take_B119) n v = some e) (ke : ∀ x : QM, e = x → WX C 2 145 [(0, .ref 0)] [] x) : WX C 2 119 [(0, .ref 0), (1, .int v.1)] [] v.2 :=
  iter_W (Wh := fun v => WX C 2 119 [(0, .ref 0), (1, .int v.1)] [] v.2) (fun a res hB k1 k2 => S_Mo_take_B119 hc hSH a hB (fun x hx => ke x (k1 _ hx).symm) k2) n v h

def Mo_take_L147_J189 (x1 : Int32) (s0 : Int32) (s1 : Int32) (M : QM) : Option ((QM) ⊕ (Int32 × QM)) :=
  ck (inb s1 480) (some (.inr (x1 + (1 : Int32), u_i M 3 s1.toNatClampNeg s0)))

set_option maxRecDepth 20000 in
set_option maxHeartbeats 2000000 in
theorem S_Mo_take_L147_J189 {C : QC} (hc : OKX C RX9 cX9_take 2 2 (some .int)) (hSH : q_SH C = SHM) (x1 : Int32) (s0 : Int32) (s1 : Int32) (M : QM) {res : (QM) ⊕ (Int32 × QM)} (h : Mo_take_L147_J189 x1 s0 s1 M = some res) (ke : ∀ x : QM, res = .inl x → WX C 2 196 [(0, .ref 0)] [] x) (kb : ∀ x : Int32 × QM, res = .inr x → WX C 2 147 [(0, .ref 0), (1, .int x.1)] [] x.2) : WX C 2 189 [(0, .ref 0), (1, .int x1)] [.int s0, .int s1, .ref 3] M := by
  unfold Mo_take_L147_J189 at h
  obtain ⟨b16, h⟩ := ck_some h
  refine x_iast hc dX9_take_189 (q_s hSH sm_3) (inb_in b16) ?_
  refine x_iinc (v := x1 + (1 : Int32)) (L2 := [(1, .int (x1 + (1 : Int32))), (0, .ref 0)]) hc dX9_take_190 1 rfl (by rw [kc_1]) (by decide) rfl ?_
  refine x_goto (tgt := 147) hc dX9_take_193 (by decide) ?_
  cases h
  exact x_sub (kb (x1 + (1 : Int32), u_i M 3 s1.toNatClampNeg s0) rfl) [1, 0] rfl

def Mo_take_B147 (v : Int32 × QM) : Option ((QM) ⊕ (Int32 × QM)) :=
  (if ((8 : Int32) * (v.2.1 0 6)) ≤ v.1 then some (.inl v.2) else ck (inb v.1 800) ((if (v.2.1 6 v.1.toNatClampNeg) = (-6 : Int32) then Mo_take_L147_J189 v.1 (-6 : Int32) v.1 v.2 else ck (inb v.1 800) (Option.bind (Mo_comesTo (v.2.1 6 v.1.toNatClampNeg) v.2) (fun q15 => Mo_take_L147_J189 v.1 q15 v.1 v.2)))))

set_option maxRecDepth 20000 in
set_option maxHeartbeats 2000000 in
theorem S_Mo_take_B147 {C : QC} (hc : OKX C RX9 cX9_take 2 2 (some .int)) (hSH : q_SH C = SHM) (v : Int32 × QM) {res : (QM) ⊕ (Int32 × QM)} (h : Mo_take_B147 v = some res) (ke : ∀ x : QM, res = .inl x → WX C 2 196 [(0, .ref 0)] [] x) (kb : ∀ x : Int32 × QM, res = .inr x → WX C 2 147 [(0, .ref 0), (1, .int x.1)] [] x.2) : WX C 2 147 [(0, .ref 0), (1, .int v.1)] [] v.2 := by
  unfold Mo_take_B147 at h
  refine x_iload_n hc dX9_take_147 rfl 1 rfl ?_
  refine x_bipush hc dX9_take_148 kb_8 ?_
  refine x_aload_n hc dX9_take_150 rfl 0 rfl ?_
  refine x_getI hc dX9_take_151 fl_RX9_98 (q_s hSH sm_0) rfl ?_
  refine x_imul hc dX9_take_154 ?_
  refine x_icmp_ge (tgt := 196) hc dX9_take_155 (by decide) (fun hb => ?_) (fun hb => ?_)
  · have h := ite_t hb h
    cases h
    exact x_sub (ke v.2 rfl) [0] rfl
  · have h := ite_f hb h
    refine x_aload_n hc dX9_take_158 rfl 0 rfl ?_
    refine x_getR hc dX9_take_159 fl_RX9_16 (q_s hSH sm_0) rfl ?_
    refine x_iload_n hc dX9_take_162 rfl 1 rfl ?_
    refine x_aload_n hc dX9_take_163 rfl 0 rfl ?_
    refine x_getR hc dX9_take_164 fl_RX9_25 (q_s hSH sm_0) rfl ?_
    refine x_iload_n hc dX9_take_167 rfl 1 rfl ?_
    obtain ⟨b13, h⟩ := ck_some h
    refine x_iald hc dX9_take_168 (q_s hSH sm_6) (inb_in b13) ?_
    refine x_bipush hc dX9_take_169 kb_m6 ?_
    refine x_icmp_ne (tgt := 179) hc dX9_take_171 (by decide) (fun hb => ?_) (fun hb => ?_)
    · have h := ite_f hb h
      refine x_aload_n hc dX9_take_179 rfl 0 rfl ?_
      refine x_aload_n hc dX9_take_180 rfl 0 rfl ?_
      refine x_getR hc dX9_take_181 fl_RX9_25 (q_s hSH sm_0) rfl ?_
      refine x_iload_n hc dX9_take_184 rfl 1 rfl ?_
      obtain ⟨b14, h⟩ := ck_some h
      refine x_iald hc dX9_take_185 (q_s hSH sm_6) (inb_in b14) ?_
      obtain ⟨q15, h15, h⟩ := bd_some h
      refine x_callVi (As := [.int (v.2.1 6 v.1.toNatClampNeg)]) (st := [.int v.1, .ref 3]) (o := 0) hc dX9_take_186 cv_X9_comesTo lk_RX9_112 (q_s hSH sm_0) rfl rfl (q_cn hSH (S_Mo_comesTo h15)) (by decide) (Nat.le_of_ble_eq_true rfl) ?_
      exact x_sub (S_Mo_take_L147_J189 hc hSH v.1 q15 v.1 v.2 h ke kb) [0, 1] rfl
    · have h := ite_t hb h
      refine x_bipush hc dX9_take_174 kb_m6 ?_
      refine x_goto (tgt := 189) hc dX9_take_176 (by decide) ?_
      exact x_sub (S_Mo_take_L147_J189 hc hSH v.1 (-6 : Int32) v.1 v.2 h ke kb) [0, 1] rfl

theorem S_Mo_take_L147 {C : QC} (hc : OKX C RX9 cX9_take 2 2 (some .int)) (hSH : q_SH C = SHM) {n : Nat} {v : Int32 × QM} {e : QM} (h : iter (Mo_take_B147) n v = some e) (ke : ∀ x : QM, e = x → WX C 2 196 [(0, .ref 0)] [] x) : WX C 2 147 [(0, .ref 0), (1, .int v.1)] [] v.2 :=
  iter_W (Wh := fun v => WX C 2 147 [(0, .ref 0), (1, .int v.1)] [] v.2) (fun a res hB k1 k2 => S_Mo_take_B147 hc hSH a hB (fun x hx => ke x (k1 _ hx).symm) k2) n v h

def Mo_take_L198_J235 (x1 : Int32) (s0 : Int32) (s1 : Int32) (M : QM) : Option ((QM) ⊕ (Int32 × QM)) :=
  ck (inb s1 8) (some (.inr (x1 + (1 : Int32), u_i M 4 s1.toNatClampNeg s0)))

set_option maxRecDepth 20000 in
set_option maxHeartbeats 2000000 in
theorem S_Mo_take_L198_J235 {C : QC} (hc : OKX C RX9 cX9_take 2 2 (some .int)) (hSH : q_SH C = SHM) (x1 : Int32) (s0 : Int32) (s1 : Int32) (M : QM) {res : (QM) ⊕ (Int32 × QM)} (h : Mo_take_L198_J235 x1 s0 s1 M = some res) (ke : ∀ x : QM, res = .inl x → WX C 2 242 [(0, .ref 0)] [] x) (kb : ∀ x : Int32 × QM, res = .inr x → WX C 2 198 [(0, .ref 0), (1, .int x.1)] [] x.2) : WX C 2 235 [(0, .ref 0), (1, .int x1)] [.int s0, .int s1, .ref 4] M := by
  unfold Mo_take_L198_J235 at h
  obtain ⟨b21, h⟩ := ck_some h
  refine x_iast hc dX9_take_235 (q_s hSH sm_4) (inb_in b21) ?_
  refine x_iinc (v := x1 + (1 : Int32)) (L2 := [(1, .int (x1 + (1 : Int32))), (0, .ref 0)]) hc dX9_take_236 1 rfl (by rw [kc_1]) (by decide) rfl ?_
  refine x_goto (tgt := 198) hc dX9_take_239 (by decide) ?_
  cases h
  exact x_sub (kb (x1 + (1 : Int32), u_i M 4 s1.toNatClampNeg s0) rfl) [1, 0] rfl

def Mo_take_B198 (v : Int32 × QM) : Option ((QM) ⊕ (Int32 × QM)) :=
  (if (8 : Int32) ≤ v.1 then some (.inl v.2) else ck (inb v.1 8) ((if (v.2.1 7 v.1.toNatClampNeg) = (-6 : Int32) then Mo_take_L198_J235 v.1 (-6 : Int32) v.1 v.2 else ck (inb v.1 8) (Option.bind (Mo_comesTo (v.2.1 7 v.1.toNatClampNeg) v.2) (fun q20 => Mo_take_L198_J235 v.1 q20 v.1 v.2)))))

set_option maxRecDepth 20000 in
set_option maxHeartbeats 2000000 in
theorem S_Mo_take_B198 {C : QC} (hc : OKX C RX9 cX9_take 2 2 (some .int)) (hSH : q_SH C = SHM) (v : Int32 × QM) {res : (QM) ⊕ (Int32 × QM)} (h : Mo_take_B198 v = some res) (ke : ∀ x : QM, res = .inl x → WX C 2 242 [(0, .ref 0)] [] x) (kb : ∀ x : Int32 × QM, res = .inr x → WX C 2 198 [(0, .ref 0), (1, .int x.1)] [] x.2) : WX C 2 198 [(0, .ref 0), (1, .int v.1)] [] v.2 := by
  unfold Mo_take_B198 at h
  refine x_iload_n hc dX9_take_198 rfl 1 rfl ?_
  refine x_bipush hc dX9_take_199 kb_8 ?_
  refine x_icmp_ge (tgt := 242) hc dX9_take_201 (by decide) (fun hb => ?_) (fun hb => ?_)
  · have h := ite_t hb h
    cases h
    exact x_sub (ke v.2 rfl) [0] rfl
  · have h := ite_f hb h
    refine x_aload_n hc dX9_take_204 rfl 0 rfl ?_
    refine x_getR hc dX9_take_205 fl_RX9_19 (q_s hSH sm_0) rfl ?_
    refine x_iload_n hc dX9_take_208 rfl 1 rfl ?_
    refine x_aload_n hc dX9_take_209 rfl 0 rfl ?_
    refine x_getR hc dX9_take_210 fl_RX9_28 (q_s hSH sm_0) rfl ?_
    refine x_iload_n hc dX9_take_213 rfl 1 rfl ?_
    obtain ⟨b18, h⟩ := ck_some h
    refine x_iald hc dX9_take_214 (q_s hSH sm_7) (inb_in b18) ?_
    refine x_bipush hc dX9_take_215 kb_m6 ?_
    refine x_icmp_ne (tgt := 225) hc dX9_take_217 (by decide) (fun hb => ?_) (fun hb => ?_)
    · have h := ite_f hb h
      refine x_aload_n hc dX9_take_225 rfl 0 rfl ?_
      refine x_aload_n hc dX9_take_226 rfl 0 rfl ?_
      refine x_getR hc dX9_take_227 fl_RX9_28 (q_s hSH sm_0) rfl ?_
      refine x_iload_n hc dX9_take_230 rfl 1 rfl ?_
      obtain ⟨b19, h⟩ := ck_some h
      refine x_iald hc dX9_take_231 (q_s hSH sm_7) (inb_in b19) ?_
      obtain ⟨q20, h20, h⟩ := bd_some h
      refine x_callVi (As := [.int (v.2.1 7 v.1.toNatClampNeg)]) (st := [.int v.1, .ref 4]) (o := 0) hc dX9_take_232 cv_X9_comesTo lk_RX9_112 (q_s hSH sm_0) rfl rfl (q_cn hSH (S_Mo_comesTo h20)) (by decide) (Nat.le_of_ble_eq_true rfl) ?_
      exact x_sub (S_Mo_take_L198_J235 hc hSH v.1 q20 v.1 v.2 h ke kb) [0, 1] rfl
    · have h := ite_t hb h
      refine x_bipush hc dX9_take_220 kb_m6 ?_
      refine x_goto (tgt := 235) hc dX9_take_222 (by decide) ?_
      exact x_sub (S_Mo_take_L198_J235 hc hSH v.1 (-6 : Int32) v.1 v.2 h ke kb) [0, 1] rfl

theorem S_Mo_take_L198 {C : QC} (hc : OKX C RX9 cX9_take 2 2 (some .int)) (hSH : q_SH C = SHM) {n : Nat} {v : Int32 × QM} {e : QM} (h : iter (Mo_take_B198) n v = some e) (ke : ∀ x : QM, e = x → WX C 2 242 [(0, .ref 0)] [] x) : WX C 2 198 [(0, .ref 0), (1, .int v.1)] [] v.2 :=
  iter_W (Wh := fun v => WX C 2 198 [(0, .ref 0), (1, .int v.1)] [] v.2) (fun a res hB k1 k2 => S_Mo_take_B198 hc hSH a hB (fun x hx => ke x (k1 _ hx).symm) k2) n v h

def Mo_take (M : QM) : Option (Int32 × QM) :=
  Option.bind (Mo_faultOf M) (fun q1 => (if q1.1 < 0 then Option.bind (iter (Mo_take_B12 q1.2) FU (0 : Int32)) (fun e5 => Sum.elim (fun r5 => some r5) (fun y5 => Option.bind (iter (Mo_take_B53 q1.2) FU (0 : Int32)) (fun e9 => Sum.elim (fun r9 => some r9) (fun y9 => (if (q1.2.1 0 6) ≤ (40 : Int32) then Option.bind (iter (Mo_take_B119) FU ((0 : Int32), u_i q1.2 0 2 (q1.2.1 0 6))) (fun e12 => Option.bind (iter (Mo_take_B147) FU ((0 : Int32), e12)) (fun e17 => Option.bind (iter (Mo_take_B198) FU ((0 : Int32), e17)) (fun e22 => some ((u_i (u_i e22 0 0 (0 : Int32)) 0 15 (0 : Int32)).1 0 2, u_i (u_i e22 0 0 (0 : Int32)) 0 15 (0 : Int32))))) else some ((-4 : Int32), q1.2))) e9)) e5) else some ((-5 : Int32), q1.2)))

set_option maxRecDepth 20000 in
set_option maxHeartbeats 2000000 in
theorem S_Mo_take  {M : QM} {res : Int32 × QM} (h : Mo_take M = some res) : Cn yX9_take cX9_take 2 (some .int) 2 SHM [.ref 0] M (some (.int res.1)) res.2 := by
  refine q_enter (L := [(0, .ref 0)]) (by decide) (Nat.le_of_ble_eq_true rfl) rfl ?_
  intro C hc hSH hr hM
  have hc : OKX C RX9 cX9_take 2 2 (some .int) := hc
  unfold Mo_take at h
  refine x_aload_n hc dX9_take_0 rfl 0 rfl ?_
  obtain ⟨q1, h1, h⟩ := bd_some h
  refine x_callVi (As := []) (st := []) (o := 0) hc dX9_take_1 cv_X9_faultOf lk_RX9_109 (q_s hSH sm_0) rfl rfl (q_cn hSH (S_Mo_faultOf h1)) (by decide) (Nat.le_of_ble_eq_true rfl) ?_
  refine x_if_lt (tgt := 10) hc dX9_take_4 (by decide) (fun hb => ?_) (fun hb => ?_)
  · have h := ite_t hb h
    refine x_iconst hc dX9_take_10 kc_0 ?_
    refine x_istore_n (L2 := [(1, .int (0 : Int32)), (0, .ref 0)]) hc dX9_take_11 rfl (by decide) rfl ?_
    obtain ⟨e5, h5, h⟩ := bd_some h
    refine x_sub (S_Mo_take_L12 hc hSH q1.2 (v := (0 : Int32)) h5 (fun r5 hx => ?_) (fun y5 hx => ?_)) [1, 0] rfl
    · subst hx
      have h := sum_l h
      cases h
      exact ⟨hr, hM⟩
    · subst hx
      have h := sum_r h
      refine x_iconst hc dX9_take_51 kc_0 ?_
      refine x_istore_n (L2 := [(1, .int (0 : Int32)), (0, .ref 0)]) hc dX9_take_52 rfl (by decide) rfl ?_
      obtain ⟨e9, h9, h⟩ := bd_some h
      refine x_sub (S_Mo_take_L53 hc hSH q1.2 (v := (0 : Int32)) h9 (fun r9 hx => ?_) (fun y9 hx => ?_)) [1, 0] rfl
      · subst hx
        have h := sum_l h
        cases h
        exact ⟨hr, hM⟩
      · subst hx
        have h := sum_r h
        refine x_aload_n hc dX9_take_97 rfl 0 rfl ?_
        refine x_getI hc dX9_take_98 fl_RX9_98 (q_s hSH sm_0) rfl ?_
        refine x_bipush hc dX9_take_101 kb_40 ?_
        refine x_icmp_le (tgt := 109) hc dX9_take_103 (by decide) (fun hb => ?_) (fun hb => ?_)
        · have h := ite_t hb h
          refine x_aload_n hc dX9_take_109 rfl 0 rfl ?_
          refine x_aload_n hc dX9_take_110 rfl 0 rfl ?_
          refine x_getI hc dX9_take_111 fl_RX9_98 (q_s hSH sm_0) rfl ?_
          refine x_putI hc dX9_take_114 fl_RX9_116 (fw_9_2 _) (q_s hSH sm_0) rfl ?_
          refine x_iconst hc dX9_take_117 kc_0 ?_
          refine x_istore_n (L2 := [(1, .int (0 : Int32)), (0, .ref 0)]) hc dX9_take_118 rfl (by decide) rfl ?_
          obtain ⟨e12, h12, h⟩ := bd_some h
          refine x_sub (S_Mo_take_L119 hc hSH (v := ((0 : Int32), u_i q1.2 0 2 (q1.2.1 0 6))) h12 (fun x hx => ?_)) [1, 0] rfl
          subst hx
          refine x_iconst hc dX9_take_145 kc_0 ?_
          refine x_istore_n (L2 := [(1, .int (0 : Int32)), (0, .ref 0)]) hc dX9_take_146 rfl (by decide) rfl ?_
          obtain ⟨e17, h17, h⟩ := bd_some h
          refine x_sub (S_Mo_take_L147 hc hSH (v := ((0 : Int32), e12)) h17 (fun x hx => ?_)) [1, 0] rfl
          subst hx
          refine x_iconst hc dX9_take_196 kc_0 ?_
          refine x_istore_n (L2 := [(1, .int (0 : Int32)), (0, .ref 0)]) hc dX9_take_197 rfl (by decide) rfl ?_
          obtain ⟨e22, h22, h⟩ := bd_some h
          refine x_sub (S_Mo_take_L198 hc hSH (v := ((0 : Int32), e17)) h22 (fun x hx => ?_)) [1, 0] rfl
          subst hx
          refine x_aload_n hc dX9_take_242 rfl 0 rfl ?_
          refine x_iconst hc dX9_take_243 kc_0 ?_
          refine x_putI hc dX9_take_244 fl_RX9_88 (fw_9_0 _) (q_s hSH sm_0) rfl ?_
          refine x_aload_n hc dX9_take_247 rfl 0 rfl ?_
          refine x_iconst hc dX9_take_248 kc_0 ?_
          refine x_putI hc dX9_take_249 fl_RX9_119 (fw_9_15 _ (Or.inl rfl)) (q_s hSH sm_0) rfl ?_
          refine x_aload_n hc dX9_take_252 rfl 0 rfl ?_
          refine x_getI hc dX9_take_253 fl_RX9_116 (q_s hSH sm_0) rfl ?_
          cases h
          exact x_iret hc dX9_take_256 hr hM
        · have h := ite_f hb h
          refine x_bipush hc dX9_take_106 kb_m4 ?_
          cases h
          exact x_iret hc dX9_take_108 hr hM
  · have h := ite_f hb h
    refine x_bipush hc dX9_take_7 kb_m5 ?_
    cases h
    exact x_iret hc dX9_take_9 hr hM

