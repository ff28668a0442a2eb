def Mo_follow_B50 (x3 : Int32) (x4 : Int32) (x5 : Int32) (x6 : Int32) (x7 : Int32) (M : QM) (v : Int32) : Option ((Int32) ⊕ (Int32)) :=
  Option.bind (Mo_stepTo x6 x7 v M) (fun q2 => (if q2 < 0 then some (.inr (v + (1 : Int32))) else Option.bind (Mo_stepTo x6 x7 v M) (fun q3 => ck (inb q3 3600) (ck (inb (M.1 0 18) 3600) ((if (M.1 12 q3.toNatClampNeg) = ((M.1 12 (M.1 0 18).toNatClampNeg) - (1 : Int32)) then some (.inl v) else some (.inr (v + (1 : Int32)))))))))

set_option maxRecDepth 20000 in
set_option maxHeartbeats 2000000 in
theorem S_Mo_follow_B50 {C : QC} (hc : OKX C RX9 cX9_follow 9 2 (some .int)) (hSH : q_SH C = SHM) (x3 : Int32) (x4 : Int32) (x5 : Int32) (x6 : Int32) (x7 : Int32) (M : QM) (v : Int32) {res : (Int32) ⊕ (Int32)} (h : Mo_follow_B50 x3 x4 x5 x6 x7 M v = some res) (ke : ∀ x : Int32, res = .inl x → WX C 9 98 [(0, .ref 0), (3, .int x3), (4, .int x4), (5, .int x5), (6, .int x6), (7, .int x7), (8, .int x)] [] M) (kb : ∀ x : Int32, res = .inr x → WX C 9 50 [(0, .ref 0), (3, .int x3), (4, .int x4), (5, .int x5), (6, .int x6), (7, .int x7), (8, .int x)] [] M) : WX C 9 50 [(0, .ref 0), (3, .int x3), (4, .int x4), (5, .int x5), (6, .int x6), (7, .int x7), (8, .int v)] [] M := by
  unfold Mo_follow_B50 at h
  refine x_aload_n hc dX9_follow_50 rfl 0 rfl ?_
  refine x_iload hc dX9_follow_51 4 rfl ?_
  refine x_iload hc dX9_follow_53 5 rfl ?_
  refine x_iload hc dX9_follow_55 6 rfl ?_
  obtain ⟨q2, h2, h⟩ := bd_some h
  refine x_callVi (As := [.int x6, .int x7, .int v]) (st := []) (o := 0) hc dX9_follow_57 cv_X9_stepTo lk_RX9_138 (q_s hSH sm_0) rfl rfl (q_cn hSH (S_Mo_stepTo h2)) (by decide) (Nat.le_of_ble_eq_true rfl) ?_
  refine x_if_lt (tgt := 92) hc dX9_follow_60 (by decide) (fun hb => ?_) (fun hb => ?_)
  · have h := ite_t hb h
    refine x_iinc (v := v + (1 : Int32)) (L2 := [(8, .int (v + (1 : Int32))), (0, .ref 0), (3, .int x3), (4, .int x4), (5, .int x5), (6, .int x6), (7, .int x7)]) hc dX9_follow_92 6 rfl (by rw [kc_1]) (by decide) rfl ?_
    refine x_goto (tgt := 50) hc dX9_follow_95 (by decide) ?_
    cases h
    exact x_sub (kb (v + (1 : Int32)) rfl) [1, 2, 3, 4, 5, 6, 0] rfl
  · have h := ite_f hb h
    refine x_aload_n hc dX9_follow_63 rfl 0 rfl ?_
    refine x_getR hc dX9_follow_64 fl_RX9_44 (q_s hSH sm_0) rfl ?_
    refine x_aload_n hc dX9_follow_67 rfl 0 rfl ?_
    refine x_iload hc dX9_follow_68 4 rfl ?_
    refine x_iload hc dX9_follow_70 5 rfl ?_
    refine x_iload hc dX9_follow_72 6 rfl ?_
    obtain ⟨q3, h3, h⟩ := bd_some h
    refine x_callVi (As := [.int x6, .int x7, .int v]) (st := [.ref 12]) (o := 0) hc dX9_follow_74 cv_X9_stepTo lk_RX9_138 (q_s hSH sm_0) rfl rfl (q_cn hSH (S_Mo_stepTo h3)) (by decide) (Nat.le_of_ble_eq_true rfl) ?_
    obtain ⟨b4, h⟩ := ck_some h
    refine x_iald hc dX9_follow_77 (q_s hSH sm_12) (inb_in b4) ?_
    refine x_aload_n hc dX9_follow_78 rfl 0 rfl ?_
    refine x_getR hc dX9_follow_79 fl_RX9_44 (q_s hSH sm_0) rfl ?_
    refine x_aload_n hc dX9_follow_82 rfl 0 rfl ?_
    refine x_getI hc dX9_follow_83 fl_RX9_148 (q_s hSH sm_0) rfl ?_
    obtain ⟨b5, h⟩ := ck_some h
    refine x_iald hc dX9_follow_86 (q_s hSH sm_12) (inb_in b5) ?_
    refine x_iconst hc dX9_follow_87 kc_1 ?_
    refine x_isub hc dX9_follow_88 ?_
    refine x_icmp_eq (tgt := 98) hc dX9_follow_89 (by decide) (fun hb => ?_) (fun hb => ?_)
    · have h := ite_t hb h
      cases h
      exact x_sub (ke v rfl) [0, 1, 2, 3, 4, 5, 6] rfl
    · have h := ite_f hb h
      refine x_iinc (v := v + (1 : Int32)) (L2 := [(8, .int (v + (1 : Int32))), (0, .ref 0), (3, .int x3), (4, .int x4), (5, .int x5), (6, .int x6), (7, .int x7)]) hc dX9_follow_92 6 rfl (by rw [kc_1]) (by decide) rfl ?_
      refine x_goto (tgt := 50) hc dX9_follow_95 (by decide) ?_
      cases h
      exact x_sub (kb (v + (1 : Int32)) rfl) [1, 2, 3, 4, 5, 6, 0] rfl

theorem S_Mo_follow_L50 {C : QC} (hc : OKX C RX9 cX9_follow 9 2 (some .int)) (hSH : q_SH C = SHM) (x3 : Int32) (x4 : Int32) (x5 : Int32) (x6 : Int32) (x7 : Int32) (M : QM) {n : Nat} {v : Int32} {e : Int32} (h : iter (Mo_follow_B50 x3 x4 x5 x6 x7 M) n v = some e) (ke : ∀ x : Int32, e = x → WX C 9 98 [(0, .ref 0), (3, .int x3), (4, .int x4), (5, .int x5), (6, .int x6), (7, .int x7), (8, .int x)] [] M) : WX C 9 50 [(0, .ref 0), (3, .int x3), (4, .int x4), (5, .int x5), (6, .int x6), (7, .int x7), (8, .int v)] [] M :=
  iter_W (Wh := fun v => WX C 9 50 [(0, .ref 0), (3, .int x3), (4, .int x4), (5, .int x5), (6, .int x6), (7, .int x7), (8, .int v)] [] M) (fun a res hB k1 k2 => S_Mo_follow_B50 hc hSH x3 x4 x5 x6 x7 M a hB (fun x hx => ke x (k1 _ hx).symm) k2) n v h

def Mo_follow_L17_J111 (x3 : Int32) (x5 : Int32) (x6 : Int32) (x7 : Int32) (x8 : Int32) (s0 : Int32) (M : QM) : Option ((Int32 × QM) ⊕ (Int32 × Int32 × QM)) :=
  Option.bind (Mo_stepTo x6 x7 x8 M) (fun q7 => some (.inr (s0, x5 + (1 : Int32), u_i M 0 18 q7)))

set_option maxRecDepth 20000 in
set_option maxHeartbeats 2000000 in
theorem S_Mo_follow_L17_J111 {C : QC} (hc : OKX C RX9 cX9_follow 9 2 (some .int)) (hSH : q_SH C = SHM) (x3 : Int32) (x5 : Int32) (x6 : Int32) (x7 : Int32) (x8 : Int32) (s0 : Int32) (M : QM) {res : (Int32 × QM) ⊕ (Int32 × Int32 × QM)} (h : Mo_follow_L17_J111 x3 x5 x6 x7 x8 s0 M = some res) (ke : ∀ x : Int32 × QM, res = .inl x → WX C 9 133 [(4, .int x.1)] [] x.2) (kb : ∀ x : Int32 × Int32 × QM, res = .inr x → WX C 9 17 [(0, .ref 0), (3, .int x3), (4, .int x.1), (5, .int x.2.1)] [] x.2.2) : WX C 9 111 [(0, .ref 0), (3, .int x3), (5, .int x5), (6, .int x6), (7, .int x7), (8, .int x8)] [.int s0] M := by
  unfold Mo_follow_L17_J111 at h
  refine x_istore (L2 := [(4, .int s0), (0, .ref 0), (3, .int x3), (5, .int x5), (6, .int x6), (7, .int x7), (8, .int x8)]) hc dX9_follow_111 (by decide) rfl ?_
  refine x_iinc (v := x5 + (1 : Int32)) (L2 := [(5, .int (x5 + (1 : Int32))), (4, .int s0), (0, .ref 0), (3, .int x3), (6, .int x6), (7, .int x7), (8, .int x8)]) hc dX9_follow_113 3 rfl (by rw [kc_1]) (by decide) rfl ?_
  refine x_aload_n hc dX9_follow_116 rfl 2 rfl ?_
  refine x_aload_n hc dX9_follow_117 rfl 2 rfl ?_
  refine x_iload hc dX9_follow_118 4 rfl ?_
  refine x_iload hc dX9_follow_120 5 rfl ?_
  refine x_iload hc dX9_follow_122 6 rfl ?_
  obtain ⟨q7, h7, h⟩ := bd_some h
  refine x_callVi (As := [.int x6, .int x7, .int x8]) (st := [.ref 0]) (o := 0) hc dX9_follow_124 cv_X9_stepTo lk_RX9_138 (q_s hSH sm_0) rfl rfl (q_cn hSH (S_Mo_stepTo h7)) (by decide) (Nat.le_of_ble_eq_true rfl) ?_
  refine x_putI hc dX9_follow_127 fl_RX9_148 (fw_9_18 _) (q_s hSH sm_0) rfl ?_
  refine x_goto (tgt := 17) hc dX9_follow_130 (by decide) ?_
  cases h
  exact x_sub (kb (s0, x5 + (1 : Int32), u_i M 0 18 q7) rfl) [2, 3, 1, 0] rfl

def Mo_follow_B17 (x3 : Int32) (v : Int32 × Int32 × QM) : Option ((Int32 × QM) ⊕ (Int32 × Int32 × QM)) :=
  ck (inb (v.2.2.1 0 18) 3600) ((if (v.2.2.1 12 (v.2.2.1 0 18).toNatClampNeg) ≤ 0 then some (.inl (v.1, v.2.2)) else Option.bind (iter (Mo_follow_B50 x3 v.1 v.2.1 ((v.2.2.1 0 18) / (60 : Int32)) ((v.2.2.1 0 18) - (v.2.2.1 0 18) / (60 : Int32) * (60 : Int32)) v.2.2) FU (0 : Int32)) (fun e6 => (if v.2.1 = x3 then Mo_follow_L17_J111 x3 v.2.1 ((v.2.2.1 0 18) / (60 : Int32)) ((v.2.2.1 0 18) - (v.2.2.1 0 18) / (60 : Int32) * (60 : Int32)) e6 e6 v.2.2 else Mo_follow_L17_J111 x3 v.2.1 ((v.2.2.1 0 18) / (60 : Int32)) ((v.2.2.1 0 18) - (v.2.2.1 0 18) / (60 : Int32) * (60 : Int32)) e6 v.1 v.2.2))))

set_option maxRecDepth 20000 in
set_option maxHeartbeats 2000000 in
theorem S_Mo_follow_B17 {C : QC} (hc : OKX C RX9 cX9_follow 9 2 (some .int)) (hSH : q_SH C = SHM) (x3 : Int32) (v : Int32 × Int32 × QM) {res : (Int32 × QM) ⊕ (Int32 × Int32 × QM)} (h : Mo_follow_B17 x3 v = some res) (ke : ∀ x : Int32 × QM, res = .inl x → WX C 9 133 [(4, .int x.1)] [] x.2) (kb : ∀ x : Int32 × Int32 × QM, res = .inr x → WX C 9 17 [(0, .ref 0), (3, .int x3), (4, .int x.1), (5, .int x.2.1)] [] x.2.2) : WX C 9 17 [(0, .ref 0), (3, .int x3), (4, .int v.1), (5, .int v.2.1)] [] v.2.2 := by
  unfold Mo_follow_B17 at h
  refine x_aload_n hc dX9_follow_17 rfl 0 rfl ?_
  refine x_getR hc dX9_follow_18 fl_RX9_44 (q_s hSH sm_0) rfl ?_
  refine x_aload_n hc dX9_follow_21 rfl 0 rfl ?_
  refine x_getI hc dX9_follow_22 fl_RX9_148 (q_s hSH sm_0) rfl ?_
  obtain ⟨b1, h⟩ := ck_some h
  refine x_iald hc dX9_follow_25 (q_s hSH sm_12) (inb_in b1) ?_
  refine x_if_le (tgt := 133) hc dX9_follow_26 (by decide) (fun hb => ?_) (fun hb => ?_)
  · have h := ite_t hb h
    cases h
    exact x_sub (ke (v.1, v.2.2) rfl) [2] rfl
  · have h := ite_f hb h
    refine x_aload_n hc dX9_follow_29 rfl 0 rfl ?_
    refine x_getI hc dX9_follow_30 fl_RX9_148 (q_s hSH sm_0) rfl ?_
    refine x_bipush hc dX9_follow_33 kb_60 ?_
    refine x_idiv hc dX9_follow_35 (by decide) ?_
    refine x_istore (L2 := [(6, .int ((v.2.2.1 0 18) / (60 : Int32))), (0, .ref 0), (3, .int x3), (4, .int v.1), (5, .int v.2.1)]) hc dX9_follow_36 (by decide) rfl ?_
    refine x_aload_n hc dX9_follow_38 rfl 1 rfl ?_
    refine x_getI hc dX9_follow_39 fl_RX9_148 (q_s hSH sm_0) rfl ?_
    refine x_bipush hc dX9_follow_42 kb_60 ?_
    refine x_irem hc dX9_follow_44 (by decide) ?_
    refine x_istore (L2 := [(7, .int ((v.2.2.1 0 18) - (v.2.2.1 0 18) / (60 : Int32) * (60 : Int32))), (6, .int ((v.2.2.1 0 18) / (60 : Int32))), (0, .ref 0), (3, .int x3), (4, .int v.1), (5, .int v.2.1)]) hc dX9_follow_45 (by decide) rfl ?_
    refine x_iconst hc dX9_follow_47 kc_0 ?_
    refine x_istore (L2 := [(8, .int (0 : Int32)), (7, .int ((v.2.2.1 0 18) - (v.2.2.1 0 18) / (60 : Int32) * (60 : Int32))), (6, .int ((v.2.2.1 0 18) / (60 : Int32))), (0, .ref 0), (3, .int x3), (4, .int v.1), (5, .int v.2.1)]) hc dX9_follow_48 (by decide) rfl ?_
    obtain ⟨e6, h6, h⟩ := bd_some h
    refine x_sub (S_Mo_follow_L50 hc hSH x3 v.1 v.2.1 ((v.2.2.1 0 18) / (60 : Int32)) ((v.2.2.1 0 18) - (v.2.2.1 0 18) / (60 : Int32) * (60 : Int32)) v.2.2 (v := (0 : Int32)) h6 (fun x hx => ?_)) [3, 4, 5, 6, 2, 1, 0] rfl
    subst hx
    refine x_iload hc dX9_follow_98 3 rfl ?_
    refine x_iload_n hc dX9_follow_100 rfl 1 rfl ?_
    refine x_icmp_ne (tgt := 109) hc dX9_follow_101 (by decide) (fun hb => ?_) (fun hb => ?_)
    · have h := ite_f hb h
      refine x_iload hc dX9_follow_109 2 rfl ?_
      exact x_sub (S_Mo_follow_L17_J111 hc hSH x3 v.2.1 ((v.2.2.1 0 18) / (60 : Int32)) ((v.2.2.1 0 18) - (v.2.2.1 0 18) / (60 : Int32) * (60 : Int32)) e6 v.1 v.2.2 h ke kb) [0, 1, 3, 4, 5, 6] rfl
    · have h := ite_t hb h
      refine x_iload hc dX9_follow_104 6 rfl ?_
      refine x_goto (tgt := 111) hc dX9_follow_106 (by decide) ?_
      exact x_sub (S_Mo_follow_L17_J111 hc hSH x3 v.2.1 ((v.2.2.1 0 18) / (60 : Int32)) ((v.2.2.1 0 18) - (v.2.2.1 0 18) / (60 : Int32) * (60 : Int32)) e6 e6 v.2.2 h ke kb) [0, 1, 3, 4, 5, 6] rfl

theorem S_Mo_follow_L17 {C : QC} (hc : OKX C RX9 cX9_follow 9 2 (some .int)) (hSH : q_SH C = SHM) (x3 : Int32) {n : Nat} {v : Int32 × Int32 × QM} {e : Int32 × QM} (h : iter (Mo_follow_B17 x3) n v = some e) (ke : ∀ x : Int32 × QM, e = x → WX C 9 133 [(4, .int x.1)] [] x.2) : WX C 9 17 [(0, .ref 0), (3, .int x3), (4, .int v.1), (5, .int v.2.1)] [] v.2.2 :=
  iter_W (Wh := fun v => WX C 9 17 [(0, .ref 0), (3, .int x3), (4, .int v.1), (5, .int v.2.1)] [] v.2.2) (fun a res hB k1 k2 => S_Mo_follow_B17 hc hSH x3 a hB (fun x hx => ke x (k1 _ hx).symm) k2) n v h

def Mo_follow (p1 : Int32) (p2 : Int32) (p3 : Int32) (M : QM) : Option (Int32 × QM) :=
  Option.bind (iter (Mo_follow_B17 p3) FU ((-6 : Int32), (0 : Int32), u_i M 0 18 (((60 : Int32) * p1) + p2))) (fun e8 => some (e8.1, e8.2))

set_option maxRecDepth 20000 in
set_option maxHeartbeats 2000000 in
theorem S_Mo_follow  {p1 : Int32} {p2 : Int32} {p3 : Int32} {M : QM} {res : Int32 × QM} (h : Mo_follow p1 p2 p3 M = some res) : Cn yX9_follow cX9_follow 9 (some .int) 2 SHM [.ref 0, .int p1, .int p2, .int p3] M (some (.int res.1)) res.2 := by
  refine q_enter (L := [(0, .ref 0), (1, .int p1), (2, .int p2), (3, .int p3)]) (by decide) (Nat.le_of_ble_eq_true rfl) rfl ?_
  intro C hc hSH hr hM
  have hc : OKX C RX9 cX9_follow 9 2 (some .int) := hc
  unfold Mo_follow at h
  refine x_aload_n hc dX9_follow_0 rfl 0 rfl ?_
  refine x_bipush hc dX9_follow_1 kb_60 ?_
  refine x_iload_n hc dX9_follow_3 rfl 1 rfl ?_
  refine x_imul hc dX9_follow_4 ?_
  refine x_iload_n hc dX9_follow_5 rfl 2 rfl ?_
  refine x_iadd hc dX9_follow_6 ?_
  refine x_putI hc dX9_follow_7 fl_RX9_148 (fw_9_18 _) (q_s hSH sm_0) rfl ?_
  refine x_bipush hc dX9_follow_10 kb_m6 ?_
  refine x_istore (L2 := [(4, .int (-6 : Int32)), (0, .ref 0), (1, .int p1), (2, .int p2), (3, .int p3)]) hc dX9_follow_12 (by decide) rfl ?_
  refine x_iconst hc dX9_follow_14 kc_0 ?_
  refine x_istore (L2 := [(5, .int (0 : Int32)), (4, .int (-6 : Int32)), (0, .ref 0), (1, .int p1), (2, .int p2), (3, .int p3)]) hc dX9_follow_15 (by decide) rfl ?_
  obtain ⟨e8, h8, h⟩ := bd_some h
  refine x_sub (S_Mo_follow_L17 hc hSH p3 (v := ((-6 : Int32), (0 : Int32), u_i M 0 18 (((60 : Int32) * p1) + p2))) h8 (fun x hx => ?_)) [2, 5, 1, 0] rfl
  subst hx
  refine x_iload hc dX9_follow_133 0 rfl ?_
  cases h
  exact x_iret hc dX9_follow_135 hr hM

def Mo_end (p1 : Int32) (p2 : Int32) (M : QM) : Option (Int32 × QM) :=
  Option.bind (Mo_areNodes p1 p2 M) (fun q1 => (if q1 = 0 then some ((-1 : Int32), M) else Option.bind (Mo_lay M) (fun q2 => ck (inb (((60 : Int32) * p1) + p2) 3600) ((if (q2.1 11 (((60 : Int32) * p1) + p2).toNatClampNeg) = 0 then Option.bind (Mo_follow p1 p2 (-6 : Int32) q2) (fun q4 => some (((100 : Int32) * ((q4.2.1 0 18) / (60 : Int32))) + ((q4.2.1 0 18) - (q4.2.1 0 18) / (60 : Int32) * (60 : Int32)), q4.2)) else some ((-6 : Int32), q2))))))

set_option maxRecDepth 20000 in
set_option maxHeartbeats 2000000 in
theorem S_Mo_end  {p1 : Int32} {p2 : Int32} {M : QM} {res : Int32 × QM} (h : Mo_end p1 p2 M = some res) : Cn yX9_end cX9_end 3 (some .int) 3 SHM [.ref 0, .int p1, .int p2] M (some (.int res.1)) res.2 := by
  refine q_enter (L := [(0, .ref 0), (1, .int p1), (2, .int p2)]) (by decide) (Nat.le_of_ble_eq_true rfl) rfl ?_
  intro C hc hSH hr hM
  have hc : OKX C RX9 cX9_end 3 3 (some .int) := hc
  unfold Mo_end at h
  refine x_aload_n hc dX9_end_0 rfl 0 rfl ?_
  refine x_iload_n hc dX9_end_1 rfl 1 rfl ?_
  refine x_iload_n hc dX9_end_2 rfl 2 rfl ?_
  obtain ⟨q1, h1, h⟩ := bd_some h
  refine x_callVi (As := [.int p1, .int p2]) (st := []) (o := 0) hc dX9_end_3 cv_X9_areNodes lk_RX9_142 (q_s hSH sm_0) rfl rfl (q_cn hSH (S_Mo_areNodes h1)) (by decide) (Nat.le_of_ble_eq_true rfl) ?_
  refine x_if_ne (tgt := 11) hc dX9_end_6 (by decide) (fun hb => ?_) (fun hb => ?_)
  · have h := ite_f hb h
    refine x_aload_n hc dX9_end_11 rfl 0 rfl ?_
    obtain ⟨q2, h2, h⟩ := bd_some h
    refine x_callVv (As := []) (st := []) (o := 0) hc dX9_end_12 cv_X9_lay lk_RX9_145 (q_s hSH sm_0) rfl rfl (q_cn hSH (S_Mo_lay h2)) (by decide) (Nat.le_of_ble_eq_true rfl) ?_
    refine x_aload_n hc dX9_end_15 rfl 0 rfl ?_
    refine x_getR hc dX9_end_16 fl_RX9_40 (q_s hSH sm_0) rfl ?_
    refine x_bipush hc dX9_end_19 kb_60 ?_
    refine x_iload_n hc dX9_end_21 rfl 1 rfl ?_
    refine x_imul hc dX9_end_22 ?_
    refine x_iload_n hc dX9_end_23 rfl 2 rfl ?_
    refine x_iadd hc dX9_end_24 ?_
    obtain ⟨b3, h⟩ := ck_some h
    refine x_zald hc dX9_end_25 (q_s hSH sm_11) (inb_in b3) ?_
    refine x_if_eq (tgt := 32) hc dX9_end_26 (by decide) (fun hb => ?_) (fun hb => ?_)
    · have h := ite_t hb h
      refine x_aload_n hc dX9_end_32 rfl 0 rfl ?_
      refine x_iload_n hc dX9_end_33 rfl 1 rfl ?_
      refine x_iload_n hc dX9_end_34 rfl 2 rfl ?_
      refine x_bipush hc dX9_end_35 kb_m6 ?_
      obtain ⟨q4, h4, h⟩ := bd_some h
      refine x_callVi (As := [.int p1, .int p2, .int (-6 : Int32)]) (st := []) (o := 0) hc dX9_end_37 cv_X9_follow lk_RX9_151 (q_s hSH sm_0) rfl rfl (q_cn hSH (S_Mo_follow h4)) (by decide) (Nat.le_of_ble_eq_true rfl) ?_
      refine x_pop hc dX9_end_40 rfl ?_
      refine x_bipush hc dX9_end_41 kb_100 ?_
      refine x_aload_n hc dX9_end_43 rfl 0 rfl ?_
      refine x_getI hc dX9_end_44 fl_RX9_148 (q_s hSH sm_0) rfl ?_
      refine x_bipush hc dX9_end_47 kb_60 ?_
      refine x_idiv hc dX9_end_49 (by decide) ?_
      refine x_imul hc dX9_end_50 ?_
      refine x_aload_n hc dX9_end_51 rfl 0 rfl ?_
      refine x_getI hc dX9_end_52 fl_RX9_148 (q_s hSH sm_0) rfl ?_
      refine x_bipush hc dX9_end_55 kb_60 ?_
      refine x_irem hc dX9_end_57 (by decide) ?_
      refine x_iadd hc dX9_end_58 ?_
      cases h
      exact x_iret hc dX9_end_59 hr hM
    · have h := ite_f hb h
      refine x_bipush hc dX9_end_29 kb_m6 ?_
      cases h
      exact x_iret hc dX9_end_31 hr hM
  · have h := ite_t hb h
    refine x_iconst hc dX9_end_9 kc_m1 ?_
    cases h
    exact x_iret hc dX9_end_10 hr hM

def Mo_settle_B0 (v : QM) : Option ((QM) ⊕ (QM)) :=
  (if (v.1 0 10) ≤ 0 then some (.inl v) else ck (inb ((v.1 0 10) - (1 : Int32)) 16) ((if (v.1 9 ((v.1 0 10) - (1 : Int32)).toNatClampNeg) = 0 then some (.inr (u_i v 0 10 ((v.1 0 10) - (1 : Int32)))) else some (.inl v))))

set_option maxRecDepth 20000 in
set_option maxHeartbeats 2000000 in
theorem S_Mo_settle_B0 {C : QC} (hc : OKX C RX9 cX9_settle 1 0 (some .int)) (hSH : q_SH C = SHM) (v : QM) {res : (QM) ⊕ (QM)} (h : Mo_settle_B0 v = some res) (ke : ∀ x : QM, res = .inl x → WX C 1 34 [(0, .ref 0)] [] x) (kb : ∀ x : QM, res = .inr x → WX C 1 0 [(0, .ref 0)] [] x) : WX C 1 0 [(0, .ref 0)] [] v := by
  unfold Mo_settle_B0 at h
  refine x_aload_n hc dX9_settle_0 rfl 0 rfl ?_
  refine x_getI hc dX9_settle_1 fl_RX9_92 (q_s hSH sm_0) rfl ?_
  refine x_if_le (tgt := 34) hc dX9_settle_4 (by decide) (fun hb => ?_) (fun hb => ?_)
  · have h := ite_t hb h
    cases h
    exact x_sub (ke v rfl) [0] rfl
  · have h := ite_f hb h
    refine x_aload_n hc dX9_settle_7 rfl 0 rfl ?_
    refine x_getR hc dX9_settle_8 fl_RX9_34 (q_s hSH sm_0) rfl ?_
    refine x_aload_n hc dX9_settle_11 rfl 0 rfl ?_
    refine x_getI hc dX9_settle_12 fl_RX9_92 (q_s hSH sm_0) rfl ?_
    refine x_iconst hc dX9_settle_15 kc_1 ?_
    refine x_isub hc dX9_settle_16 ?_
    obtain ⟨b1, h⟩ := ck_some h
    refine x_iald hc dX9_settle_17 (q_s hSH sm_9) (inb_in b1) ?_
    refine x_if_ne (tgt := 34) hc dX9_settle_18 (by decide) (fun hb => ?_) (fun hb => ?_)
    · have h := ite_f hb h
      cases h
      exact x_sub (ke v rfl) [0] rfl
    · have h := ite_t hb h
      refine x_aload_n hc dX9_settle_21 rfl 0 rfl ?_
      refine x_dup hc dX9_settle_22 rfl ?_
      refine x_getI hc dX9_settle_23 fl_RX9_92 (q_s hSH sm_0) rfl ?_
      refine x_iconst hc dX9_settle_26 kc_1 ?_
      refine x_isub hc dX9_settle_27 ?_
      refine x_putI hc dX9_settle_28 fl_RX9_92 (fw_9_10 _) (q_s hSH sm_0) rfl ?_
      refine x_goto (tgt := 0) hc dX9_settle_31 (by decide) ?_
      cases h
      exact x_sub (kb (u_i v 0 10 ((v.1 0 10) - (1 : Int32))) rfl) [0] rfl

theorem S_Mo_settle_L0 {C : QC} (hc : OKX C RX9 cX9_settle 1 0 (some .int)) (hSH : q_SH C = SHM) {n : Nat} {v : QM} {e : QM} (h : iter (Mo_settle_B0) n v = some e) (ke : ∀ x : QM, e = x → WX C 1 34 [(0, .ref 0)] [] x) : WX C 1 0 [(0, .ref 0)] [] v :=
  iter_W (Wh := fun v => WX C 1 0 [(0, .ref 0)] [] v) (fun a res hB k1 k2 => S_Mo_settle_B0 hc hSH a hB (fun x hx => ke x (k1 _ hx).symm) k2) n v h

def Mo_settle_J34 (M : QM) : Option (Int32 × QM) :=
  (if (M.1 0 10) = 0 then some ((2 : Int32), M) else ck (inb ((M.1 0 10) - (1 : Int32)) 16) ((if (M.1 9 ((M.1 0 10) - (1 : Int32)).toNatClampNeg) = (100 : Int32) then some ((1 : Int32), M) else some ((0 : Int32), M))))

set_option maxRecDepth 20000 in
set_option maxHeartbeats 2000000 in
theorem S_Mo_settle_J34 {C : QC} (hc : OKX C RX9 cX9_settle 1 0 (some .int)) (hSH : q_SH C = SHM) (M : QM) {res : Int32 × QM} (h : Mo_settle_J34 M = some res) (hr : q_r C = some (.int res.1)) (hM : q_M C = res.2) : WX C 1 34 [(0, .ref 0)] [] M := by
  unfold Mo_settle_J34 at h
  refine x_aload_n hc dX9_settle_34 rfl 0 rfl ?_
  refine x_getI hc dX9_settle_35 fl_RX9_92 (q_s hSH sm_0) rfl ?_
  refine x_if_ne (tgt := 45) hc dX9_settle_38 (by decide) (fun hb => ?_) (fun hb => ?_)
  · have h := ite_f hb h
    refine x_aload_n hc dX9_settle_45 rfl 0 rfl ?_
    refine x_getR hc dX9_settle_46 fl_RX9_34 (q_s hSH sm_0) rfl ?_
    refine x_aload_n hc dX9_settle_49 rfl 0 rfl ?_
    refine x_getI hc dX9_settle_50 fl_RX9_92 (q_s hSH sm_0) rfl ?_
    refine x_iconst hc dX9_settle_53 kc_1 ?_
    refine x_isub hc dX9_settle_54 ?_
    obtain ⟨b3, h⟩ := ck_some h
    refine x_iald hc dX9_settle_55 (q_s hSH sm_9) (inb_in b3) ?_
    refine x_bipush hc dX9_settle_56 kb_100 ?_
    refine x_icmp_ne (tgt := 65) hc dX9_settle_58 (by decide) (fun hb => ?_) (fun hb => ?_)
    · have h := ite_f hb h
      refine x_iconst hc dX9_settle_65 kc_0 ?_
      cases h
      exact x_iret hc dX9_settle_66 hr hM
    · have h := ite_t hb h
      refine x_iconst hc dX9_settle_61 kc_1 ?_
      refine x_goto (tgt := 66) hc dX9_settle_62 (by decide) ?_
      cases h
      exact x_iret hc dX9_settle_66 hr hM
  · have h := ite_t hb h
    refine x_iconst hc dX9_settle_41 kc_2 ?_
    refine x_goto (tgt := 66) hc dX9_settle_42 (by decide) ?_
    cases h
    exact x_iret hc dX9_settle_66 hr hM

def Mo_settle (M : QM) : Option (Int32 × QM) :=
  Option.bind (iter (Mo_settle_B0) FU M) (fun e2 => Mo_settle_J34 e2)

set_option maxRecDepth 20000 in
set_option maxHeartbeats 2000000 in
theorem S_Mo_settle  {M : QM} {res : Int32 × QM} (h : Mo_settle M = some res) : Cn yX9_settle cX9_settle 1 (some .int) 0 SHM [.ref 0] M (some (.int res.1)) res.2 := by
  refine q_enter (L := [(0, .ref 0)]) (by decide) (Nat.le_of_ble_eq_true rfl) rfl ?_
  intro C hc hSH hr hM
  have hc : OKX C RX9 cX9_settle 1 0 (some .int) := hc
  unfold Mo_settle at h
  obtain ⟨e2, h2, h⟩ := bd_some h
  refine x_sub (S_Mo_settle_L0 hc hSH (v := M) h2 (fun x hx => ?_)) [0] rfl
  subst hx
  exact x_sub (S_Mo_settle_J34 hc hSH e2 h hr hM) [0] rfl

def Mo_faultOf_B14 (x1 : Int32) (v : Int32 × QM) : Option ((QM) ⊕ (Int32 × QM)) :=
  (if (8 : Int32) ≤ v.1 then some (.inl v.2) else ck (inb v.1 8) (some (.inr (v.1 + (1 : Int32), u_i v.2 7 v.1.toNatClampNeg (-6 : Int32)))))

set_option maxRecDepth 20000 in
set_option maxHeartbeats 2000000 in
theorem S_Mo_faultOf_B14 {C : QC} (hc : OKX C RX9 cX9_faultOf 10 1 (some .int)) (hSH : q_SH C = SHM) (x1 : Int32) (v : Int32 × QM) {res : (QM) ⊕ (Int32 × QM)} (h : Mo_faultOf_B14 x1 v = some res) (ke : ∀ x : QM, res = .inl x → WX C 10 34 [(0, .ref 0), (1, .int x1)] [] x) (kb : ∀ x : Int32 × QM, res = .inr x → WX C 10 14 [(0, .ref 0), (1, .int x1), (2, .int x.1)] [] x.2) : WX C 10 14 [(0, .ref 0), (1, .int x1), (2, .int v.1)] [] v.2 := by
  unfold Mo_faultOf_B14 at h
  refine x_iload_n hc dX9_faultOf_14 rfl 2 rfl ?_
  refine x_bipush hc dX9_faultOf_15 kb_8 ?_
  refine x_icmp_ge (tgt := 34) hc dX9_faultOf_17 (by decide) (fun hb => ?_) (fun hb => ?_)
  · have h := ite_t hb h
    cases h
    exact x_sub (ke v.2 rfl) [0, 1] rfl
  · have h := ite_f hb h
    refine x_aload_n hc dX9_faultOf_20 rfl 0 rfl ?_
    refine x_getR hc dX9_faultOf_21 fl_RX9_28 (q_s hSH sm_0) rfl ?_
    refine x_iload_n hc dX9_faultOf_24 rfl 2 rfl ?_
    refine x_bipush hc dX9_faultOf_25 kb_m6 ?_
    obtain ⟨b1, h⟩ := ck_some h
    refine x_iast hc dX9_faultOf_27 (q_s hSH sm_7) (inb_in b1) ?_
    refine x_iinc (v := v.1 + (1 : Int32)) (L2 := [(2, .int (v.1 + (1 : Int32))), (0, .ref 0), (1, .int x1)]) hc dX9_faultOf_28 2 rfl (by rw [kc_1]) (by decide) rfl ?_
    refine x_goto (tgt := 14) hc dX9_faultOf_31 (by decide) ?_
    cases h
    exact x_sub (kb (v.1 + (1 : Int32), u_i v.2 7 v.1.toNatClampNeg (-6 : Int32)) rfl) [1, 2, 0] rfl

theorem S_Mo_faultOf_L14 {C : QC} (hc : OKX C RX9 cX9_faultOf 10 1 (some .int)) (hSH : q_SH C = SHM) (x1 : Int32) {n : Nat} {v : Int32 × QM} {e : QM} (h : iter (Mo_faultOf_B14 x1) n v = some e) (ke : ∀ x : QM, e = x → WX C 10 34 [(0, .ref 0), (1, .int x1)] [] x) : WX C 10 14 [(0, .ref 0), (1, .int x1), (2, .int v.1)] [] v.2 :=
  iter_W (Wh := fun v => WX C 10 14 [(0, .ref 0), (1, .int x1), (2, .int v.1)] [] v.2) (fun a res hB k1 k2 => S_Mo_faultOf_B14 hc hSH x1 a hB (fun x hx => ke x (k1 _ hx).symm) k2) n v h

def Mo_faultOf_L36_J522 (x2 : Int32) (x4 : Int32) (M : QM) : Option (((Int32 × QM) ⊕ (Int32 × QM)) ⊕ (Int32 × Int32 × QM)) :=
  (if 0 ≤ x4 then (if x4 = (5 : Int32) then Option.bind (Mo_settle M) (fun q4 => (if q4.1 = (2 : Int32) then some (.inr ((4 : Int32), x2 + (1 : Int32), q4.2)) else (if q4.1 = (1 : Int32) then some (.inr ((3 : Int32), x2 + (1 : Int32), q4.2)) else some (.inr ((2 : Int32), x2 + (1 : Int32), q4.2))))) else some (.inr (x4, x2 + (1 : Int32), M))) else some (.inl (.inl (x2, M))))

set_option maxRecDepth 20000 in
set_option maxHeartbeats 2000000 in
theorem S_Mo_faultOf_L36_J522 {C : QC} (hc : OKX C RX9 cX9_faultOf 10 1 (some .int)) (hSH : q_SH C = SHM) (x2 : Int32) (x4 : Int32) (M : QM) {res : ((Int32 × QM) ⊕ (Int32 × QM)) ⊕ (Int32 × Int32 × QM)} (h : Mo_faultOf_L36_J522 x2 x4 M = some res) (kr : ∀ x : Int32 × QM, res = .inl (.inl x) → q_r C = some (.int x.1) ∧ q_M C = x.2) (ke : ∀ x : Int32 × QM, res = .inl (.inr x) → WX C 10 573 [(0, .ref 0), (1, .int x.1)] [] x.2) (kb : ∀ x : Int32 × Int32 × QM, res = .inr x → WX C 10 36 [(0, .ref 0), (1, .int x.1), (2, .int x.2.1)] [] x.2.2) : WX C 10 522 [(0, .ref 0), (2, .int x2), (4, .int x4)] [] M := by
  unfold Mo_faultOf_L36_J522 at h
  refine x_iload hc dX9_faultOf_522 2 rfl ?_
  refine x_if_ge (tgt := 529) hc dX9_faultOf_524 (by decide) (fun hb => ?_) (fun hb => ?_)
  · have h := ite_t hb h
    refine x_iload hc dX9_faultOf_529 2 rfl ?_
    refine x_iconst hc dX9_faultOf_531 kc_5 ?_
    refine x_icmp_ne (tgt := 564) hc dX9_faultOf_532 (by decide) (fun hb => ?_) (fun hb => ?_)
    · have h := ite_f hb h
      refine x_iload hc dX9_faultOf_564 2 rfl ?_
      refine x_istore_n (L2 := [(1, .int x4), (0, .ref 0), (2, .int x2), (4, .int x4)]) hc dX9_faultOf_566 rfl (by decide) rfl ?_
      refine x_iinc (v := x2 + (1 : Int32)) (L2 := [(2, .int (x2 + (1 : Int32))), (1, .int x4), (0, .ref 0), (4, .int x4)]) hc dX9_faultOf_567 2 rfl (by rw [kc_1]) (by decide) rfl ?_
      refine x_goto (tgt := 36) hc dX9_faultOf_570 (by decide) ?_
      cases h
      exact x_sub (kb (x4, x2 + (1 : Int32), M) rfl) [2, 1, 0] rfl
    · have h := ite_t hb h
      refine x_aload_n hc dX9_faultOf_535 rfl 0 rfl ?_
      obtain ⟨q4, h4, h⟩ := bd_some h
      refine x_callVi (As := []) (st := []) (o := 0) hc dX9_faultOf_536 cv_X9_settle lk_RX9_105 (q_s hSH sm_0) rfl rfl (q_cn hSH (S_Mo_settle h4)) (by decide) (Nat.le_of_ble_eq_true rfl) ?_
      refine x_istore (L2 := [(5, .int q4.1), (0, .ref 0), (2, .int x2), (4, .int x4)]) hc dX9_faultOf_539 (by decide) rfl ?_
      refine x_iload hc dX9_faultOf_541 0 rfl ?_
      refine x_iconst hc dX9_faultOf_543 kc_2 ?_
      refine x_icmp_ne (tgt := 551) hc dX9_faultOf_544 (by decide) (fun hb => ?_) (fun hb => ?_)
      · have h := ite_f hb h
        refine x_iload hc dX9_faultOf_551 0 rfl ?_
        refine x_iconst hc dX9_faultOf_553 kc_1 ?_
        refine x_icmp_ne (tgt := 561) hc dX9_faultOf_554 (by decide) (fun hb => ?_) (fun hb => ?_)
        · have h := ite_f hb h
          refine x_iconst hc dX9_faultOf_561 kc_2 ?_
          refine x_istore (L2 := [(4, .int (2 : Int32)), (5, .int q4.1), (0, .ref 0), (2, .int x2)]) hc dX9_faultOf_562 (by decide) rfl ?_
          refine x_iload hc dX9_faultOf_564 0 rfl ?_
          refine x_istore_n (L2 := [(1, .int (2 : Int32)), (4, .int (2 : Int32)), (5, .int q4.1), (0, .ref 0), (2, .int x2)]) hc dX9_faultOf_566 rfl (by decide) rfl ?_
          refine x_iinc (v := x2 + (1 : Int32)) (L2 := [(2, .int (x2 + (1 : Int32))), (1, .int (2 : Int32)), (4, .int (2 : Int32)), (5, .int q4.1), (0, .ref 0)]) hc dX9_faultOf_567 4 rfl (by rw [kc_1]) (by decide) rfl ?_
          refine x_goto (tgt := 36) hc dX9_faultOf_570 (by decide) ?_
          cases h
          exact x_sub (kb ((2 : Int32), x2 + (1 : Int32), q4.2) rfl) [4, 1, 0] rfl
        · have h := ite_t hb h
          refine x_iconst hc dX9_faultOf_557 kc_3 ?_
          refine x_goto (tgt := 562) hc dX9_faultOf_558 (by decide) ?_
          refine x_istore (L2 := [(4, .int (3 : Int32)), (5, .int q4.1), (0, .ref 0), (2, .int x2)]) hc dX9_faultOf_562 (by decide) rfl ?_
          refine x_iload hc dX9_faultOf_564 0 rfl ?_
          refine x_istore_n (L2 := [(1, .int (3 : Int32)), (4, .int (3 : Int32)), (5, .int q4.1), (0, .ref 0), (2, .int x2)]) hc dX9_faultOf_566 rfl (by decide) rfl ?_
          refine x_iinc (v := x2 + (1 : Int32)) (L2 := [(2, .int (x2 + (1 : Int32))), (1, .int (3 : Int32)), (4, .int (3 : Int32)), (5, .int q4.1), (0, .ref 0)]) hc dX9_faultOf_567 4 rfl (by rw [kc_1]) (by decide) rfl ?_
          refine x_goto (tgt := 36) hc dX9_faultOf_570 (by decide) ?_
          cases h
          exact x_sub (kb ((3 : Int32), x2 + (1 : Int32), q4.2) rfl) [4, 1, 0] rfl
      · have h := ite_t hb h
        refine x_iconst hc dX9_faultOf_547 kc_4 ?_
        refine x_goto (tgt := 562) hc dX9_faultOf_548 (by decide) ?_
        refine x_istore (L2 := [(4, .int (4 : Int32)), (5, .int q4.1), (0, .ref 0), (2, .int x2)]) hc dX9_faultOf_562 (by decide) rfl ?_
        refine x_iload hc dX9_faultOf_564 0 rfl ?_
        refine x_istore_n (L2 := [(1, .int (4 : Int32)), (4, .int (4 : Int32)), (5, .int q4.1), (0, .ref 0), (2, .int x2)]) hc dX9_faultOf_566 rfl (by decide) rfl ?_
        refine x_iinc (v := x2 + (1 : Int32)) (L2 := [(2, .int (x2 + (1 : Int32))), (1, .int (4 : Int32)), (4, .int (4 : Int32)), (5, .int q4.1), (0, .ref 0)]) hc dX9_faultOf_567 4 rfl (by rw [kc_1]) (by decide) rfl ?_
        refine x_goto (tgt := 36) hc dX9_faultOf_570 (by decide) ?_
        cases h
        exact x_sub (kb ((4 : Int32), x2 + (1 : Int32), q4.2) rfl) [4, 1, 0] rfl
  · have h := ite_f hb h
    refine x_iload_n hc dX9_faultOf_527 rfl 1 rfl ?_
    cases h
    exact x_iret hc dX9_faultOf_528 (kr _ rfl).1 (kr _ rfl).2

def Mo_faultOf_L36_J520 (x2 : Int32) (s0 : Int32) (M : QM) : Option (((Int32 × QM) ⊕ (Int32 × QM)) ⊕ (Int32 × Int32 × QM)) :=
  Mo_faultOf_L36_J522 x2 s0 M

set_option maxRecDepth 20000 in
set_option maxHeartbeats 2000000 in
theorem S_Mo_faultOf_L36_J520 {C : QC} (hc : OKX C RX9 cX9_faultOf 10 1 (some .int)) (hSH : q_SH C = SHM) (x2 : Int32) (s0 : Int32) (M : QM) {res : ((Int32 × QM) ⊕ (Int32 × QM)) ⊕ (Int32 × Int32 × QM)} (h : Mo_faultOf_L36_J520 x2 s0 M = some res) (kr : ∀ x : Int32 × QM, res = .inl (.inl x) → q_r C = some (.int x.1) ∧ q_M C = x.2) (ke : ∀ x : Int32 × QM, res = .inl (.inr x) → WX C 10 573 [(0, .ref 0), (1, .int x.1)] [] x.2) (kb : ∀ x : Int32 × Int32 × QM, res = .inr x → WX C 10 36 [(0, .ref 0), (1, .int x.1), (2, .int x.2.1)] [] x.2.2) : WX C 10 520 [(0, .ref 0), (2, .int x2)] [.int s0] M := by
  unfold Mo_faultOf_L36_J520 at h
  refine x_istore (L2 := [(4, .int s0), (0, .ref 0), (2, .int x2)]) hc dX9_faultOf_520 (by decide) rfl ?_
  exact x_sub (S_Mo_faultOf_L36_J522 hc hSH x2 s0 M h kr ke kb) [1, 2, 0] rfl

def Mo_faultOf_L36_J500 (x2 : Int32) (x4 : Int32) (M : QM) : Option (((Int32 × QM) ⊕ (Int32 × QM)) ⊕ (Int32 × Int32 × QM)) :=
  Mo_faultOf_L36_J522 x2 x4 M

set_option maxRecDepth 20000 in
set_option maxHeartbeats 2000000 in
theorem S_Mo_faultOf_L36_J500 {C : QC} (hc : OKX C RX9 cX9_faultOf 10 1 (some .int)) (hSH : q_SH C = SHM) (x2 : Int32) (x4 : Int32) (M : QM) {res : ((Int32 × QM) ⊕ (Int32 × QM)) ⊕ (Int32 × Int32 × QM)} (h : Mo_faultOf_L36_J500 x2 x4 M = some res) (kr : ∀ x : Int32 × QM, res = .inl (.inl x) → q_r C = some (.int x.1) ∧ q_M C = x.2) (ke : ∀ x : Int32 × QM, res = .inl (.inr x) → WX C 10 573 [(0, .ref 0), (1, .int x.1)] [] x.2) (kb : ∀ x : Int32 × Int32 × QM, res = .inr x → WX C 10 36 [(0, .ref 0), (1, .int x.1), (2, .int x.2.1)] [] x.2.2) : WX C 10 500 [(0, .ref 0), (2, .int x2), (4, .int x4)] [] M := by
  unfold Mo_faultOf_L36_J500 at h
  refine x_goto (tgt := 522) hc dX9_faultOf_500 (by decide) ?_
  exact x_sub (S_Mo_faultOf_L36_J522 hc hSH x2 x4 M h kr ke kb) [0, 1, 2] rfl

def Mo_faultOf_L36_J486 (x2 : Int32) (x4 : Int32) (x5 : Int32) (s0 : Int32) (s1 : Int32) (M : QM) : Option (((Int32 × QM) ⊕ (Int32 × QM)) ⊕ (Int32 × Int32 × QM)) :=
  (if s1 = s0 then ck (inb x5 16) (Mo_faultOf_L36_J500 x2 (5 : Int32) (u_i M 9 x5.toNatClampNeg (0 : Int32))) else Mo_faultOf_L36_J500 x2 x4 M)

set_option maxRecDepth 20000 in
set_option maxHeartbeats 2000000 in
theorem S_Mo_faultOf_L36_J486 {C : QC} (hc : OKX C RX9 cX9_faultOf 10 1 (some .int)) (hSH : q_SH C = SHM) (x2 : Int32) (x4 : Int32) (x5 : Int32) (s0 : Int32) (s1 : Int32) (M : QM) {res : ((Int32 × QM) ⊕ (Int32 × QM)) ⊕ (Int32 × Int32 × QM)} (h : Mo_faultOf_L36_J486 x2 x4 x5 s0 s1 M = some res) (kr : ∀ x : Int32 × QM, res = .inl (.inl x) → q_r C = some (.int x.1) ∧ q_M C = x.2) (ke : ∀ x : Int32 × QM, res = .inl (.inr x) → WX C 10 573 [(0, .ref 0), (1, .int x.1)] [] x.2) (kb : ∀ x : Int32 × Int32 × QM, res = .inr x → WX C 10 36 [(0, .ref 0), (1, .int x.1), (2, .int x.2.1)] [] x.2.2) : WX C 10 486 [(0, .ref 0), (2, .int x2), (4, .int x4), (5, .int x5)] [.int s0, .int s1] M := by
  unfold Mo_faultOf_L36_J486 at h
  refine x_icmp_ne (tgt := 500) hc dX9_faultOf_486 (by decide) (fun hb => ?_) (fun hb => ?_)
  · have h := ite_f hb h
    exact x_sub (S_Mo_faultOf_L36_J500 hc hSH x2 x4 M h kr ke kb) [0, 1, 2] rfl
  · have h := ite_t hb h
    refine x_aload_n hc dX9_faultOf_489 rfl 0 rfl ?_
    refine x_getR hc dX9_faultOf_490 fl_RX9_34 (q_s hSH sm_0) rfl ?_
    refine x_iload hc dX9_faultOf_493 3 rfl ?_
    refine x_iconst hc dX9_faultOf_495 kc_0 ?_
    obtain ⟨b8, h⟩ := ck_some h
    refine x_iast hc dX9_faultOf_496 (q_s hSH sm_9) (inb_in b8) ?_
    refine x_iconst hc dX9_faultOf_497 kc_5 ?_
    refine x_istore (L2 := [(4, .int (5 : Int32)), (0, .ref 0), (2, .int x2), (5, .int x5)]) hc dX9_faultOf_498 (by decide) rfl ?_
    exact x_sub (S_Mo_faultOf_L36_J500 hc hSH x2 (5 : Int32) (u_i M 9 x5.toNatClampNeg (0 : Int32)) h kr ke kb) [1, 2, 0] rfl

def Mo_faultOf_L36_J473 (x2 : Int32) (x3 : Int32) (x4 : Int32) (x5 : Int32) (x6 : Int32) (M : QM) : Option (((Int32 × QM) ⊕ (Int32 × QM)) ⊕ (Int32 × Int32 × QM)) :=
  (if x6 = 0 then Mo_faultOf_L36_J486 x2 x4 x5 (93 : Int32) x3 M else Mo_faultOf_L36_J486 x2 x4 x5 (125 : Int32) x3 M)

set_option maxRecDepth 20000 in
set_option maxHeartbeats 2000000 in
theorem S_Mo_faultOf_L36_J473 {C : QC} (hc : OKX C RX9 cX9_faultOf 10 1 (some .int)) (hSH : q_SH C = SHM) (x2 : Int32) (x3 : Int32) (x4 : Int32) (x5 : Int32) (x6 : Int32) (M : QM) {res : ((Int32 × QM) ⊕ (Int32 × QM)) ⊕ (Int32 × Int32 × QM)} (h : Mo_faultOf_L36_J473 x2 x3 x4 x5 x6 M = some res) (kr : ∀ x : Int32 × QM, res = .inl (.inl x) → q_r C = some (.int x.1) ∧ q_M C = x.2) (ke : ∀ x : Int32 × QM, res = .inl (.inr x) → WX C 10 573 [(0, .ref 0), (1, .int x.1)] [] x.2) (kb : ∀ x : Int32 × Int32 × QM, res = .inr x → WX C 10 36 [(0, .ref 0), (1, .int x.1), (2, .int x.2.1)] [] x.2.2) : WX C 10 473 [(0, .ref 0), (2, .int x2), (3, .int x3), (4, .int x4), (5, .int x5), (6, .int x6)] [] M := by
  unfold Mo_faultOf_L36_J473 at h
  refine x_iload_n hc dX9_faultOf_473 rfl 2 rfl ?_
  refine x_iload hc dX9_faultOf_474 5 rfl ?_
  refine x_if_eq (tgt := 484) hc dX9_faultOf_476 (by decide) (fun hb => ?_) (fun hb => ?_)
  · have h := ite_t hb h
    refine x_bipush hc dX9_faultOf_484 kb_93 ?_
    exact x_sub (S_Mo_faultOf_L36_J486 hc hSH x2 x4 x5 (93 : Int32) x3 M h kr ke kb) [0, 1, 3, 4] rfl
  · have h := ite_f hb h
    refine x_bipush hc dX9_faultOf_479 kb_125 ?_
    refine x_goto (tgt := 486) hc dX9_faultOf_481 (by decide) ?_
    exact x_sub (S_Mo_faultOf_L36_J486 hc hSH x2 x4 x5 (125 : Int32) x3 M h kr ke kb) [0, 1, 3, 4] rfl

def Mo_faultOf_L36_J420 (x2 : Int32) (x3 : Int32) (x4 : Int32) (x5 : Int32) (s0 : Int32) (M : QM) : Option (((Int32 × QM) ⊕ (Int32 × QM)) ⊕ (Int32 × Int32 × QM)) :=
  Option.bind (Mo_in x3 (97 : Int32) (104 : Int32) M) (fun q7 => (if q7 = 0 then Mo_faultOf_L36_J473 x2 x3 x4 x5 s0 M else ck (inb x5 16) ((if (x3 - (97 : Int32)) ≤ (M.1 10 x5.toNatClampNeg) then Mo_faultOf_L36_J473 x2 x3 x4 x5 s0 M else (if (12 : Int32) < (M.1 0 10) then Mo_faultOf_L36_J473 x2 x3 x4 x5 s0 M else ck (inb x5 16) (Mo_faultOf_L36_J500 x2 (2 : Int32) (u_i M 10 x5.toNatClampNeg (x3 - (97 : Int32)))))))))

set_option maxRecDepth 20000 in
set_option maxHeartbeats 2000000 in
theorem S_Mo_faultOf_L36_J420 {C : QC} (hc : OKX C RX9 cX9_faultOf 10 1 (some .int)) (hSH : q_SH C = SHM) (x2 : Int32) (x3 : Int32) (x4 : Int32) (x5 : Int32) (s0 : Int32) (M : QM) {res : ((Int32 × QM) ⊕ (Int32 × QM)) ⊕ (Int32 × Int32 × QM)} (h : Mo_faultOf_L36_J420 x2 x3 x4 x5 s0 M = some res) (kr : ∀ x : Int32 × QM, res = .inl (.inl x) → q_r C = some (.int x.1) ∧ q_M C = x.2) (ke : ∀ x : Int32 × QM, res = .inl (.inr x) → WX C 10 573 [(0, .ref 0), (1, .int x.1)] [] x.2) (kb : ∀ x : Int32 × Int32 × QM, res = .inr x → WX C 10 36 [(0, .ref 0), (1, .int x.1), (2, .int x.2.1)] [] x.2.2) : WX C 10 420 [(0, .ref 0), (2, .int x2), (3, .int x3), (4, .int x4), (5, .int x5)] [.int s0] M := by
  unfold Mo_faultOf_L36_J420 at h
  refine x_istore (L2 := [(6, .int s0), (0, .ref 0), (2, .int x2), (3, .int x3), (4, .int x4), (5, .int x5)]) hc dX9_faultOf_420 (by decide) rfl ?_
  refine x_iload_n hc dX9_faultOf_422 rfl 3 rfl ?_
  refine x_bipush hc dX9_faultOf_423 kb_97 ?_
  refine x_bipush hc dX9_faultOf_425 kb_104 ?_
  obtain ⟨q7, h7, h⟩ := bd_some h
  refine x_callSi (As := [.int x3, .int (97 : Int32), .int (104 : Int32)]) (st := []) hc dX9_faultOf_427 cs_X9_in lk_RX9_84 rfl (q_cn hSH (S_Mo_in h7)) (by decide) (Nat.le_of_ble_eq_true rfl) ?_
  refine x_if_eq (tgt := 473) hc dX9_faultOf_430 (by decide) (fun hb => ?_) (fun hb => ?_)
  · have h := ite_t hb h
    exact x_sub (S_Mo_faultOf_L36_J473 hc hSH x2 x3 x4 x5 s0 M h kr ke kb) [1, 2, 3, 4, 5, 0] rfl
  · have h := ite_f hb h
    refine x_iload_n hc dX9_faultOf_433 rfl 3 rfl ?_
    refine x_bipush hc dX9_faultOf_434 kb_97 ?_
    refine x_isub hc dX9_faultOf_436 ?_
    refine x_aload_n hc dX9_faultOf_437 rfl 1 rfl ?_
    refine x_getR hc dX9_faultOf_438 fl_RX9_37 (q_s hSH sm_0) rfl ?_
    refine x_iload hc dX9_faultOf_441 5 rfl ?_
    obtain ⟨b9, h⟩ := ck_some h
    refine x_iald hc dX9_faultOf_443 (q_s hSH sm_10) (inb_in b9) ?_
    refine x_icmp_le (tgt := 473) hc dX9_faultOf_444 (by decide) (fun hb => ?_) (fun hb => ?_)
    · have h := ite_t hb h
      exact x_sub (S_Mo_faultOf_L36_J473 hc hSH x2 x3 x4 x5 s0 M h kr ke kb) [1, 2, 3, 4, 5, 0] rfl
    · have h := ite_f hb h
      refine x_aload_n hc dX9_faultOf_447 rfl 1 rfl ?_
      refine x_getI hc dX9_faultOf_448 fl_RX9_92 (q_s hSH sm_0) rfl ?_
      refine x_bipush hc dX9_faultOf_451 kb_12 ?_
      refine x_icmp_gt (tgt := 473) hc dX9_faultOf_453 (by decide) (fun hb => ?_) (fun hb => ?_)
      · have h := ite_t hb h
        exact x_sub (S_Mo_faultOf_L36_J473 hc hSH x2 x3 x4 x5 s0 M h kr ke kb) [1, 2, 3, 4, 5, 0] rfl
      · have h := ite_f hb h
        refine x_aload_n hc dX9_faultOf_456 rfl 1 rfl ?_
        refine x_getR hc dX9_faultOf_457 fl_RX9_37 (q_s hSH sm_0) rfl ?_
        refine x_iload hc dX9_faultOf_460 5 rfl ?_
        refine x_iload_n hc dX9_faultOf_462 rfl 3 rfl ?_
        refine x_bipush hc dX9_faultOf_463 kb_97 ?_
        refine x_isub hc dX9_faultOf_465 ?_
        obtain ⟨b10, h⟩ := ck_some h
        refine x_iast hc dX9_faultOf_466 (q_s hSH sm_10) (inb_in b10) ?_
        refine x_iconst hc dX9_faultOf_467 kc_2 ?_
        refine x_istore (L2 := [(4, .int (2 : Int32)), (6, .int s0), (0, .ref 0), (2, .int x2), (3, .int x3), (5, .int x5)]) hc dX9_faultOf_468 (by decide) rfl ?_
        refine x_goto (tgt := 500) hc dX9_faultOf_470 (by decide) ?_
        exact x_sub (S_Mo_faultOf_L36_J500 hc hSH x2 (2 : Int32) (u_i M 10 x5.toNatClampNeg (x3 - (97 : Int32))) h kr ke kb) [2, 3, 0] rfl

def Mo_faultOf_B269 (x2 : Int32) (x3 : Int32) (x5 : Int32) (x6 : Int32) (x8 : Int32) (v : Int32 × QM) : Option ((QM) ⊕ (Int32 × QM)) :=
  (if (8 : Int32) ≤ v.1 then some (.inl v.2) else ck (inb (((8 : Int32) * x8) + v.1) 800) (some (.inr (v.1 + (1 : Int32), u_i v.2 6 (((8 : Int32) * x8) + v.1).toNatClampNeg (-6 : Int32)))))

set_option maxRecDepth 20000 in
set_option maxHeartbeats 2000000 in
theorem S_Mo_faultOf_B269 {C : QC} (hc : OKX C RX9 cX9_faultOf 10 1 (some .int)) (hSH : q_SH C = SHM) (x2 : Int32) (x3 : Int32) (x5 : Int32) (x6 : Int32) (x8 : Int32) (v : Int32 × QM) {res : (QM) ⊕ (Int32 × QM)} (h : Mo_faultOf_B269 x2 x3 x5 x6 x8 v = some res) (ke : ∀ x : QM, res = .inl x → WX C 10 297 [(0, .ref 0), (2, .int x2), (3, .int x3), (5, .int x5), (6, .int x6), (8, .int x8)] [] x) (kb : ∀ x : Int32 × QM, res = .inr x → WX C 10 269 [(0, .ref 0), (2, .int x2), (3, .int x3), (5, .int x5), (6, .int x6), (8, .int x8), (9, .int x.1)] [] x.2) : WX C 10 269 [(0, .ref 0), (2, .int x2), (3, .int x3), (5, .int x5), (6, .int x6), (8, .int x8), (9, .int v.1)] [] v.2 := by
  unfold Mo_faultOf_B269 at h
  refine x_iload hc dX9_faultOf_269 6 rfl ?_
  refine x_bipush hc dX9_faultOf_271 kb_8 ?_
  refine x_icmp_ge (tgt := 297) hc dX9_faultOf_273 (by decide) (fun hb => ?_) (fun hb => ?_)
  · have h := ite_t hb h
    cases h
    exact x_sub (ke v.2 rfl) [0, 1, 2, 3, 4, 5] rfl
  · have h := ite_f hb h
    refine x_aload_n hc dX9_faultOf_276 rfl 0 rfl ?_
    refine x_getR hc dX9_faultOf_277 fl_RX9_25 (q_s hSH sm_0) rfl ?_
    refine x_bipush hc dX9_faultOf_280 kb_8 ?_
    refine x_iload hc dX9_faultOf_282 5 rfl ?_
    refine x_imul hc dX9_faultOf_284 ?_
    refine x_iload hc dX9_faultOf_285 6 rfl ?_
    refine x_iadd hc dX9_faultOf_287 ?_
    refine x_bipush hc dX9_faultOf_288 kb_m6 ?_
    obtain ⟨b13, h⟩ := ck_some h
    refine x_iast hc dX9_faultOf_290 (q_s hSH sm_6) (inb_in b13) ?_
    refine x_iinc (v := v.1 + (1 : Int32)) (L2 := [(9, .int (v.1 + (1 : Int32))), (0, .ref 0), (2, .int x2), (3, .int x3), (5, .int x5), (6, .int x6), (8, .int x8)]) hc dX9_faultOf_291 6 rfl (by rw [kc_1]) (by decide) rfl ?_
    refine x_goto (tgt := 269) hc dX9_faultOf_294 (by decide) ?_
    cases h
    exact x_sub (kb (v.1 + (1 : Int32), u_i v.2 6 (((8 : Int32) * x8) + v.1).toNatClampNeg (-6 : Int32)) rfl) [1, 2, 3, 4, 5, 6, 0] rfl

theorem S_Mo_faultOf_L269 {C : QC} (hc : OKX C RX9 cX9_faultOf 10 1 (some .int)) (hSH : q_SH C = SHM) (x2 : Int32) (x3 : Int32) (x5 : Int32) (x6 : Int32) (x8 : Int32) {n : Nat} {v : Int32 × QM} {e : QM} (h : iter (Mo_faultOf_B269 x2 x3 x5 x6 x8) n v = some e) (ke : ∀ x : QM, e = x → WX C 10 297 [(0, .ref 0), (2, .int x2), (3, .int x3), (5, .int x5), (6, .int x6), (8, .int x8)] [] x) : WX C 10 269 [(0, .ref 0), (2, .int x2), (3, .int x3), (5, .int x5), (6, .int x6), (8, .int x8), (9, .int v.1)] [] v.2 :=
  iter_W (Wh := fun v => WX C 10 269 [(0, .ref 0), (2, .int x2), (3, .int x3), (5, .int x5), (6, .int x6), (8, .int x8), (9, .int v.1)] [] v.2) (fun a res hB k1 k2 => S_Mo_faultOf_B269 hc hSH x2 x3 x5 x6 x8 a hB (fun x hx => ke x (k1 _ hx).symm) k2) n v h

def Mo_faultOf_L36_J382 (x2 : Int32) (x4 : Int32) (M : QM) : Option (((Int32 × QM) ⊕ (Int32 × QM)) ⊕ (Int32 × Int32 × QM)) :=
  Mo_faultOf_L36_J522 x2 x4 M

set_option maxRecDepth 20000 in
set_option maxHeartbeats 2000000 in
theorem S_Mo_faultOf_L36_J382 {C : QC} (hc : OKX C RX9 cX9_faultOf 10 1 (some .int)) (hSH : q_SH C = SHM) (x2 : Int32) (x4 : Int32) (M : QM) {res : ((Int32 × QM) ⊕ (Int32 × QM)) ⊕ (Int32 × Int32 × QM)} (h : Mo_faultOf_L36_J382 x2 x4 M = some res) (kr : ∀ x : Int32 × QM, res = .inl (.inl x) → q_r C = some (.int x.1) ∧ q_M C = x.2) (ke : ∀ x : Int32 × QM, res = .inl (.inr x) → WX C 10 573 [(0, .ref 0), (1, .int x.1)] [] x.2) (kb : ∀ x : Int32 × Int32 × QM, res = .inr x → WX C 10 36 [(0, .ref 0), (1, .int x.1), (2, .int x.2.1)] [] x.2.2) : WX C 10 382 [(0, .ref 0), (2, .int x2), (4, .int x4)] [] M := by
  unfold Mo_faultOf_L36_J382 at h
  refine x_goto (tgt := 522) hc dX9_faultOf_382 (by decide) ?_
  exact x_sub (S_Mo_faultOf_L36_J522 hc hSH x2 x4 M h kr ke kb) [0, 1, 2] rfl

def Mo_faultOf_L36_J361 (x2 : Int32) (x4 : Int32) (s0 : Int32) (s1 : Int32) (M : QM) : Option (((Int32 × QM) ⊕ (Int32 × QM)) ⊕ (Int32 × Int32 × QM)) :=
  ck (inb s1 16) (ck (inb ((u_i M 9 s1.toNatClampNeg s0).1 0 10) 16) (Mo_faultOf_L36_J382 x2 x4 (u_i (u_i (u_i M 9 s1.toNatClampNeg s0) 10 ((u_i M 9 s1.toNatClampNeg s0).1 0 10).toNatClampNeg (-1 : Int32)) 0 10 (((u_i (u_i M 9 s1.toNatClampNeg s0) 10 ((u_i M 9 s1.toNatClampNeg s0).1 0 10).toNatClampNeg (-1 : Int32)).1 0 10) + (1 : Int32)))))

set_option maxRecDepth 20000 in
set_option maxHeartbeats 2000000 in
theorem S_Mo_faultOf_L36_J361 {C : QC} (hc : OKX C RX9 cX9_faultOf 10 1 (some .int)) (hSH : q_SH C = SHM) (x2 : Int32) (x4 : Int32) (s0 : Int32) (s1 : Int32) (M : QM) {res : ((Int32 × QM) ⊕ (Int32 × QM)) ⊕ (Int32 × Int32 × QM)} (h : Mo_faultOf_L36_J361 x2 x4 s0 s1 M = some res) (kr : ∀ x : Int32 × QM, res = .inl (.inl x) → q_r C = some (.int x.1) ∧ q_M C = x.2) (ke : ∀ x : Int32 × QM, res = .inl (.inr x) → WX C 10 573 [(0, .ref 0), (1, .int x.1)] [] x.2) (kb : ∀ x : Int32 × Int32 × QM, res = .inr x → WX C 10 36 [(0, .ref 0), (1, .int x.1), (2, .int x.2.1)] [] x.2.2) : WX C 10 361 [(0, .ref 0), (2, .int x2), (4, .int x4)] [.int s0, .int s1, .ref 9] M := by
  unfold Mo_faultOf_L36_J361 at h
  obtain ⟨b17, h⟩ := ck_some h
  refine x_iast hc dX9_faultOf_361 (q_s hSH sm_9) (inb_in b17) ?_
  refine x_aload_n hc dX9_faultOf_362 rfl 0 rfl ?_
  refine x_getR hc dX9_faultOf_363 fl_RX9_37 (q_s hSH sm_0) rfl ?_
  refine x_aload_n hc dX9_faultOf_366 rfl 0 rfl ?_
  refine x_getI hc dX9_faultOf_367 fl_RX9_92 (q_s hSH sm_0) rfl ?_
  refine x_iconst hc dX9_faultOf_370 kc_m1 ?_
  obtain ⟨b18, h⟩ := ck_some h
  refine x_iast hc dX9_faultOf_371 (q_s hSH sm_10) (inb_in b18) ?_
  refine x_aload_n hc dX9_faultOf_372 rfl 0 rfl ?_
  refine x_dup hc dX9_faultOf_373 rfl ?_
  refine x_getI hc dX9_faultOf_374 fl_RX9_92 (q_s hSH sm_0) rfl ?_
  refine x_iconst hc dX9_faultOf_377 kc_1 ?_
  refine x_iadd hc dX9_faultOf_378 ?_
  refine x_putI hc dX9_faultOf_379 fl_RX9_92 (fw_9_10 _) (q_s hSH sm_0) rfl ?_
  exact x_sub (S_Mo_faultOf_L36_J382 hc hSH x2 x4 (u_i (u_i (u_i M 9 s1.toNatClampNeg s0) 10 ((u_i M 9 s1.toNatClampNeg s0).1 0 10).toNatClampNeg (-1 : Int32)) 0 10 (((u_i (u_i M 9 s1.toNatClampNeg s0) 10 ((u_i M 9 s1.toNatClampNeg s0).1 0 10).toNatClampNeg (-1 : Int32)).1 0 10) + (1 : Int32))) h kr ke kb) [0, 1, 2] rfl

def Mo_faultOf_L36_J252 (x2 : Int32) (x3 : Int32) (x5 : Int32) (x6 : Int32) (M : QM) : Option (((Int32 × QM) ⊕ (Int32 × QM)) ⊕ (Int32 × Int32 × QM)) :=
  ck (inb (M.1 0 6) 100) (Option.bind (iter (Mo_faultOf_B269 x2 x3 x5 x6 (M.1 0 6)) FU ((0 : Int32), u_i M 5 (M.1 0 6).toNatClampNeg x3)) (fun e14 => Option.bind (Mo_come (M.1 0 6) (u_i e14 0 6 ((e14.1 0 6) + (1 : Int32)))) (fun q15 => (if x6 = 0 then ck (inb (q15.1 0 10) 16) ((if x5 = 0 then (if x3 = (42 : Int32) then Mo_faultOf_L36_J361 x2 (5 : Int32) (1 : Int32) ((u_i q15 8 (q15.1 0 10).toNatClampNeg (M.1 0 6)).1 0 10) (u_i q15 8 (q15.1 0 10).toNatClampNeg (M.1 0 6)) else Mo_faultOf_L36_J361 x2 (5 : Int32) (2 : Int32) ((u_i q15 8 (q15.1 0 10).toNatClampNeg (M.1 0 6)).1 0 10) (u_i q15 8 (q15.1 0 10).toNatClampNeg (M.1 0 6))) else Mo_faultOf_L36_J361 x2 (5 : Int32) (100 : Int32) ((u_i q15 8 (q15.1 0 10).toNatClampNeg (M.1 0 6)).1 0 10) (u_i q15 8 (q15.1 0 10).toNatClampNeg (M.1 0 6)))) else Mo_faultOf_L36_J382 x2 (5 : Int32) q15))))

set_option maxRecDepth 20000 in
set_option maxHeartbeats 2000000 in
theorem S_Mo_faultOf_L36_J252 {C : QC} (hc : OKX C RX9 cX9_faultOf 10 1 (some .int)) (hSH : q_SH C = SHM) (x2 : Int32) (x3 : Int32) (x5 : Int32) (x6 : Int32) (M : QM) {res : ((Int32 × QM) ⊕ (Int32 × QM)) ⊕ (Int32 × Int32 × QM)} (h : Mo_faultOf_L36_J252 x2 x3 x5 x6 M = some res) (kr : ∀ x : Int32 × QM, res = .inl (.inl x) → q_r C = some (.int x.1) ∧ q_M C = x.2) (ke : ∀ x : Int32 × QM, res = .inl (.inr x) → WX C 10 573 [(0, .ref 0), (1, .int x.1)] [] x.2) (kb : ∀ x : Int32 × Int32 × QM, res = .inr x → WX C 10 36 [(0, .ref 0), (1, .int x.1), (2, .int x.2.1)] [] x.2.2) : WX C 10 252 [(0, .ref 0), (2, .int x2), (3, .int x3), (5, .int x5), (6, .int x6)] [] M := by
  unfold Mo_faultOf_L36_J252 at h
  refine x_aload_n hc dX9_faultOf_252 rfl 0 rfl ?_
  refine x_getI hc dX9_faultOf_253 fl_RX9_98 (q_s hSH sm_0) rfl ?_
  refine x_istore (L2 := [(8, .int (M.1 0 6)), (0, .ref 0), (2, .int x2), (3, .int x3), (5, .int x5), (6, .int x6)]) hc dX9_faultOf_256 (by decide) rfl ?_
  refine x_aload_n hc dX9_faultOf_258 rfl 1 rfl ?_
  refine x_getR hc dX9_faultOf_259 fl_RX9_22 (q_s hSH sm_0) rfl ?_
  refine x_iload hc dX9_faultOf_262 0 rfl ?_
  refine x_iload_n hc dX9_faultOf_264 rfl 3 rfl ?_
  obtain ⟨b12, h⟩ := ck_some h
  refine x_iast hc dX9_faultOf_265 (q_s hSH sm_5) (inb_in b12) ?_
  refine x_iconst hc dX9_faultOf_266 kc_0 ?_
  refine x_istore (L2 := [(9, .int (0 : Int32)), (8, .int (M.1 0 6)), (0, .ref 0), (2, .int x2), (3, .int x3), (5, .int x5), (6, .int x6)]) hc dX9_faultOf_267 (by decide) rfl ?_
  obtain ⟨e14, h14, h⟩ := bd_some h
  refine x_sub (S_Mo_faultOf_L269 hc hSH x2 x3 x5 x6 (M.1 0 6) (v := ((0 : Int32), u_i M 5 (M.1 0 6).toNatClampNeg x3)) h14 (fun x hx => ?_)) [2, 3, 4, 5, 6, 1, 0] rfl
  subst hx
  refine x_aload_n hc dX9_faultOf_297 rfl 0 rfl ?_
  refine x_dup hc dX9_faultOf_298 rfl ?_
  refine x_getI hc dX9_faultOf_299 fl_RX9_98 (q_s hSH sm_0) rfl ?_
  refine x_iconst hc dX9_faultOf_302 kc_1 ?_
  refine x_iadd hc dX9_faultOf_303 ?_
  refine x_putI hc dX9_faultOf_304 fl_RX9_98 (fw_9_6 _) (q_s hSH sm_0) rfl ?_
  refine x_aload_n hc dX9_faultOf_307 rfl 0 rfl ?_
  refine x_iload hc dX9_faultOf_308 5 rfl ?_
  obtain ⟨q15, h15, h⟩ := bd_some h
  refine x_callVv (As := [.int (M.1 0 6)]) (st := []) (o := 0) hc dX9_faultOf_310 cv_X9_come lk_RX9_101 (q_s hSH sm_0) rfl rfl (q_cn hSH (S_Mo_come h15)) (by decide) (Nat.le_of_ble_eq_true rfl) ?_
  refine x_iconst hc dX9_faultOf_313 kc_5 ?_
  refine x_istore (L2 := [(4, .int (5 : Int32)), (0, .ref 0), (2, .int x2), (3, .int x3), (5, .int x5), (6, .int x6), (8, .int (M.1 0 6))]) hc dX9_faultOf_314 (by decide) rfl ?_
  refine x_iload hc dX9_faultOf_316 5 rfl ?_
  refine x_if_ne (tgt := 382) hc dX9_faultOf_318 (by decide) (fun hb => ?_) (fun hb => ?_)
  · have h := ite_f hb h
    exact x_sub (S_Mo_faultOf_L36_J382 hc hSH x2 (5 : Int32) q15 h kr ke kb) [1, 2, 0] rfl
  · have h := ite_t hb h
    refine x_aload_n hc dX9_faultOf_321 rfl 1 rfl ?_
    refine x_getR hc dX9_faultOf_322 fl_RX9_31 (q_s hSH sm_0) rfl ?_
    refine x_aload_n hc dX9_faultOf_325 rfl 1 rfl ?_
    refine x_getI hc dX9_faultOf_326 fl_RX9_92 (q_s hSH sm_0) rfl ?_
    refine x_iload hc dX9_faultOf_329 6 rfl ?_
    obtain ⟨b16, h⟩ := ck_some h
    refine x_iast hc dX9_faultOf_331 (q_s hSH sm_8) (inb_in b16) ?_
    refine x_aload_n hc dX9_faultOf_332 rfl 1 rfl ?_
    refine x_getR hc dX9_faultOf_333 fl_RX9_34 (q_s hSH sm_0) rfl ?_
    refine x_aload_n hc dX9_faultOf_336 rfl 1 rfl ?_
    refine x_getI hc dX9_faultOf_337 fl_RX9_92 (q_s hSH sm_0) rfl ?_
    refine x_iload hc dX9_faultOf_340 4 rfl ?_
    refine x_if_eq (tgt := 350) hc dX9_faultOf_342 (by decide) (fun hb => ?_) (fun hb => ?_)
    · have h := ite_t hb h
      refine x_iload_n hc dX9_faultOf_350 rfl 3 rfl ?_
      refine x_bipush hc dX9_faultOf_351 kb_42 ?_
      refine x_icmp_ne (tgt := 360) hc dX9_faultOf_353 (by decide) (fun hb => ?_) (fun hb => ?_)
      · have h := ite_f hb h
        refine x_iconst hc dX9_faultOf_360 kc_2 ?_
        exact x_sub (S_Mo_faultOf_L36_J361 hc hSH x2 (5 : Int32) (2 : Int32) ((u_i q15 8 (q15.1 0 10).toNatClampNeg (M.1 0 6)).1 0 10) (u_i q15 8 (q15.1 0 10).toNatClampNeg (M.1 0 6)) h kr ke kb) [1, 2, 0] rfl
      · have h := ite_t hb h
        refine x_iconst hc dX9_faultOf_356 kc_1 ?_
        refine x_goto (tgt := 361) hc dX9_faultOf_357 (by decide) ?_
        exact x_sub (S_Mo_faultOf_L36_J361 hc hSH x2 (5 : Int32) (1 : Int32) ((u_i q15 8 (q15.1 0 10).toNatClampNeg (M.1 0 6)).1 0 10) (u_i q15 8 (q15.1 0 10).toNatClampNeg (M.1 0 6)) h kr ke kb) [1, 2, 0] rfl
    · have h := ite_f hb h
      refine x_bipush hc dX9_faultOf_345 kb_100 ?_
      refine x_goto (tgt := 361) hc dX9_faultOf_347 (by decide) ?_
      exact x_sub (S_Mo_faultOf_L36_J361 hc hSH x2 (5 : Int32) (100 : Int32) ((u_i q15 8 (q15.1 0 10).toNatClampNeg (M.1 0 6)).1 0 10) (u_i q15 8 (q15.1 0 10).toNatClampNeg (M.1 0 6)) h kr ke kb) [1, 2, 0] rfl

def Mo_faultOf_L36_J207 (x2 : Int32) (x3 : Int32) (x4 : Int32) (x5 : Int32) (x6 : Int32) (s0 : Int32) (M : QM) : Option (((Int32 × QM) ⊕ (Int32 × QM)) ⊕ (Int32 × Int32 × QM)) :=
  Option.bind (Mo_in x3 (65 : Int32) (72 : Int32) M) (fun q11 => (if q11 = 0 then (if x5 = 0 then (if x6 = 0 then (if s0 = 0 then Mo_faultOf_L36_J382 x2 x4 M else Mo_faultOf_L36_J252 x2 x3 x5 x6 M) else Mo_faultOf_L36_J252 x2 x3 x5 x6 M) else Mo_faultOf_L36_J252 x2 x3 x5 x6 M) else Option.bind (Mo_come (((100 : Int32) + x3) - (65 : Int32)) M) (fun q19 => Mo_faultOf_L36_J382 x2 (5 : Int32) q19)))

set_option maxRecDepth 20000 in
set_option maxHeartbeats 2000000 in
theorem S_Mo_faultOf_L36_J207 {C : QC} (hc : OKX C RX9 cX9_faultOf 10 1 (some .int)) (hSH : q_SH C = SHM) (x2 : Int32) (x3 : Int32) (x4 : Int32) (x5 : Int32) (x6 : Int32) (s0 : Int32) (M : QM) {res : ((Int32 × QM) ⊕ (Int32 × QM)) ⊕ (Int32 × Int32 × QM)} (h : Mo_faultOf_L36_J207 x2 x3 x4 x5 x6 s0 M = some res) (kr : ∀ x : Int32 × QM, res = .inl (.inl x) → q_r C = some (.int x.1) ∧ q_M C = x.2) (ke : ∀ x : Int32 × QM, res = .inl (.inr x) → WX C 10 573 [(0, .ref 0), (1, .int x.1)] [] x.2) (kb : ∀ x : Int32 × Int32 × QM, res = .inr x → WX C 10 36 [(0, .ref 0), (1, .int x.1), (2, .int x.2.1)] [] x.2.2) : WX C 10 207 [(0, .ref 0), (2, .int x2), (3, .int x3), (4, .int x4), (5, .int x5), (6, .int x6)] [.int s0] M := by
  unfold Mo_faultOf_L36_J207 at h
  refine x_istore (L2 := [(7, .int s0), (0, .ref 0), (2, .int x2), (3, .int x3), (4, .int x4), (5, .int x5), (6, .int x6)]) hc dX9_faultOf_207 (by decide) rfl ?_
  refine x_iload_n hc dX9_faultOf_209 rfl 3 rfl ?_
  refine x_bipush hc dX9_faultOf_210 kb_65 ?_
  refine x_bipush hc dX9_faultOf_212 kb_72 ?_
  obtain ⟨q11, h11, h⟩ := bd_some h
  refine x_callSi (As := [.int x3, .int (65 : Int32), .int (72 : Int32)]) (st := []) hc dX9_faultOf_214 cs_X9_in lk_RX9_84 rfl (q_cn hSH (S_Mo_in h11)) (by decide) (Nat.le_of_ble_eq_true rfl) ?_
  refine x_if_eq (tgt := 237) hc dX9_faultOf_217 (by decide) (fun hb => ?_) (fun hb => ?_)
  · have h := ite_t hb h
    refine x_iload hc dX9_faultOf_237 5 rfl ?_
    refine x_if_ne (tgt := 252) hc dX9_faultOf_239 (by decide) (fun hb => ?_) (fun hb => ?_)
    · have h := ite_f hb h
      exact x_sub (S_Mo_faultOf_L36_J252 hc hSH x2 x3 x5 x6 M h kr ke kb) [1, 2, 3, 5, 6] rfl
    · have h := ite_t hb h
      refine x_iload hc dX9_faultOf_242 6 rfl ?_
      refine x_if_ne (tgt := 252) hc dX9_faultOf_244 (by decide) (fun hb => ?_) (fun hb => ?_)
      · have h := ite_f hb h
        exact x_sub (S_Mo_faultOf_L36_J252 hc hSH x2 x3 x5 x6 M h kr ke kb) [1, 2, 3, 5, 6] rfl
      · have h := ite_t hb h
        refine x_iload hc dX9_faultOf_247 0 rfl ?_
        refine x_if_eq (tgt := 382) hc dX9_faultOf_249 (by decide) (fun hb => ?_) (fun hb => ?_)
        · have h := ite_t hb h
          exact x_sub (S_Mo_faultOf_L36_J382 hc hSH x2 x4 M h kr ke kb) [1, 2, 4] rfl
        · have h := ite_f hb h
          exact x_sub (S_Mo_faultOf_L36_J252 hc hSH x2 x3 x5 x6 M h kr ke kb) [1, 2, 3, 5, 6] rfl
  · have h := ite_f hb h
    refine x_aload_n hc dX9_faultOf_220 rfl 1 rfl ?_
    refine x_bipush hc dX9_faultOf_221 kb_100 ?_
    refine x_iload_n hc dX9_faultOf_223 rfl 3 rfl ?_
    refine x_iadd hc dX9_faultOf_224 ?_
    refine x_bipush hc dX9_faultOf_225 kb_65 ?_
    refine x_isub hc dX9_faultOf_227 ?_
    obtain ⟨q19, h19, h⟩ := bd_some h
    refine x_callVv (As := [.int (((100 : Int32) + x3) - (65 : Int32))]) (st := []) (o := 0) hc dX9_faultOf_228 cv_X9_come lk_RX9_101 (q_s hSH sm_0) rfl rfl (q_cn hSH (S_Mo_come h19)) (by decide) (Nat.le_of_ble_eq_true rfl) ?_
    refine x_iconst hc dX9_faultOf_231 kc_5 ?_
    refine x_istore (L2 := [(4, .int (5 : Int32)), (7, .int s0), (0, .ref 0), (2, .int x2), (3, .int x3), (5, .int x5), (6, .int x6)]) hc dX9_faultOf_232 (by decide) rfl ?_
    refine x_goto (tgt := 382) hc dX9_faultOf_234 (by decide) ?_
    exact x_sub (S_Mo_faultOf_L36_J382 hc hSH x2 (5 : Int32) q19 h kr ke kb) [2, 3, 0] rfl

def Mo_faultOf_L36_J206 (x2 : Int32) (x3 : Int32) (x4 : Int32) (x5 : Int32) (x6 : Int32) (M : QM) : Option (((Int32 × QM) ⊕ (Int32 × QM)) ⊕ (Int32 × Int32 × QM)) :=
  Mo_faultOf_L36_J207 x2 x3 x4 x5 x6 (0 : Int32) M

set_option maxRecDepth 20000 in
set_option maxHeartbeats 2000000 in
theorem S_Mo_faultOf_L36_J206 {C : QC} (hc : OKX C RX9 cX9_faultOf 10 1 (some .int)) (hSH : q_SH C = SHM) (x2 : Int32) (x3 : Int32) (x4 : Int32) (x5 : Int32) (x6 : Int32) (M : QM) {res : ((Int32 × QM) ⊕ (Int32 × QM)) ⊕ (Int32 × Int32 × QM)} (h : Mo_faultOf_L36_J206 x2 x3 x4 x5 x6 M = some res) (kr : ∀ x : Int32 × QM, res = .inl (.inl x) → q_r C = some (.int x.1) ∧ q_M C = x.2) (ke : ∀ x : Int32 × QM, res = .inl (.inr x) → WX C 10 573 [(0, .ref 0), (1, .int x.1)] [] x.2) (kb : ∀ x : Int32 × Int32 × QM, res = .inr x → WX C 10 36 [(0, .ref 0), (1, .int x.1), (2, .int x.2.1)] [] x.2.2) : WX C 10 206 [(0, .ref 0), (2, .int x2), (3, .int x3), (4, .int x4), (5, .int x5), (6, .int x6)] [] M := by
  unfold Mo_faultOf_L36_J206 at h
  refine x_iconst hc dX9_faultOf_206 kc_0 ?_
  exact x_sub (S_Mo_faultOf_L36_J207 hc hSH x2 x3 x4 x5 x6 (0 : Int32) M h kr ke kb) [0, 1, 2, 3, 4, 5] rfl

def Mo_faultOf_L36_J193 (x2 : Int32) (x3 : Int32) (x4 : Int32) (x5 : Int32) (x6 : Int32) (M : QM) : Option (((Int32 × QM) ⊕ (Int32 × QM)) ⊕ (Int32 × Int32 × QM)) :=
  (if (12 : Int32) ≤ (M.1 0 10) then Mo_faultOf_L36_J206 x2 x3 x4 x5 x6 M else Mo_faultOf_L36_J207 x2 x3 x4 x5 x6 (1 : Int32) M)

set_option maxRecDepth 20000 in
set_option maxHeartbeats 2000000 in
theorem S_Mo_faultOf_L36_J193 {C : QC} (hc : OKX C RX9 cX9_faultOf 10 1 (some .int)) (hSH : q_SH C = SHM) (x2 : Int32) (x3 : Int32) (x4 : Int32) (x5 : Int32) (x6 : Int32) (M : QM) {res : ((Int32 × QM) ⊕ (Int32 × QM)) ⊕ (Int32 × Int32 × QM)} (h : Mo_faultOf_L36_J193 x2 x3 x4 x5 x6 M = some res) (kr : ∀ x : Int32 × QM, res = .inl (.inl x) → q_r C = some (.int x.1) ∧ q_M C = x.2) (ke : ∀ x : Int32 × QM, res = .inl (.inr x) → WX C 10 573 [(0, .ref 0), (1, .int x.1)] [] x.2) (kb : ∀ x : Int32 × Int32 × QM, res = .inr x → WX C 10 36 [(0, .ref 0), (1, .int x.1), (2, .int x.2.1)] [] x.2.2) : WX C 10 193 [(0, .ref 0), (2, .int x2), (3, .int x3), (4, .int x4), (5, .int x5), (6, .int x6)] [] M := by
  unfold Mo_faultOf_L36_J193 at h
  refine x_aload_n hc dX9_faultOf_193 rfl 0 rfl ?_
  refine x_getI hc dX9_faultOf_194 fl_RX9_92 (q_s hSH sm_0) rfl ?_
  refine x_bipush hc dX9_faultOf_197 kb_12 ?_
  refine x_icmp_ge (tgt := 206) hc dX9_faultOf_199 (by decide) (fun hb => ?_) (fun hb => ?_)
  · have h := ite_t hb h
    exact x_sub (S_Mo_faultOf_L36_J206 hc hSH x2 x3 x4 x5 x6 M h kr ke kb) [0, 1, 2, 3, 4, 5] rfl
  · have h := ite_f hb h
    refine x_iconst hc dX9_faultOf_202 kc_1 ?_
    refine x_goto (tgt := 207) hc dX9_faultOf_203 (by decide) ?_
    exact x_sub (S_Mo_faultOf_L36_J207 hc hSH x2 x3 x4 x5 x6 (1 : Int32) M h kr ke kb) [0, 1, 2, 3, 4, 5] rfl

def Mo_faultOf_L36_J179 (x2 : Int32) (x3 : Int32) (x4 : Int32) (x5 : Int32) (s0 : Int32) (M : QM) : Option (((Int32 × QM) ⊕ (Int32 × QM)) ⊕ (Int32 × Int32 × QM)) :=
  (if x3 = (42 : Int32) then Mo_faultOf_L36_J193 x2 x3 x4 x5 s0 M else (if x3 = (62 : Int32) then Mo_faultOf_L36_J193 x2 x3 x4 x5 s0 M else Mo_faultOf_L36_J206 x2 x3 x4 x5 s0 M))

set_option maxRecDepth 20000 in
set_option maxHeartbeats 2000000 in
theorem S_Mo_faultOf_L36_J179 {C : QC} (hc : OKX C RX9 cX9_faultOf 10 1 (some .int)) (hSH : q_SH C = SHM) (x2 : Int32) (x3 : Int32) (x4 : Int32) (x5 : Int32) (s0 : Int32) (M : QM) {res : ((Int32 × QM) ⊕ (Int32 × QM)) ⊕ (Int32 × Int32 × QM)} (h : Mo_faultOf_L36_J179 x2 x3 x4 x5 s0 M = some res) (kr : ∀ x : Int32 × QM, res = .inl (.inl x) → q_r C = some (.int x.1) ∧ q_M C = x.2) (ke : ∀ x : Int32 × QM, res = .inl (.inr x) → WX C 10 573 [(0, .ref 0), (1, .int x.1)] [] x.2) (kb : ∀ x : Int32 × Int32 × QM, res = .inr x → WX C 10 36 [(0, .ref 0), (1, .int x.1), (2, .int x.2.1)] [] x.2.2) : WX C 10 179 [(0, .ref 0), (2, .int x2), (3, .int x3), (4, .int x4), (5, .int x5)] [.int s0] M := by
  unfold Mo_faultOf_L36_J179 at h
  refine x_istore (L2 := [(6, .int s0), (0, .ref 0), (2, .int x2), (3, .int x3), (4, .int x4), (5, .int x5)]) hc dX9_faultOf_179 (by decide) rfl ?_
  refine x_iload_n hc dX9_faultOf_181 rfl 3 rfl ?_
  refine x_bipush hc dX9_faultOf_182 kb_42 ?_
  refine x_icmp_eq (tgt := 193) hc dX9_faultOf_184 (by decide) (fun hb => ?_) (fun hb => ?_)
  · have h := ite_t hb h
    exact x_sub (S_Mo_faultOf_L36_J193 hc hSH x2 x3 x4 x5 s0 M h kr ke kb) [1, 2, 3, 4, 5, 0] rfl
  · have h := ite_f hb h
    refine x_iload_n hc dX9_faultOf_187 rfl 3 rfl ?_
    refine x_bipush hc dX9_faultOf_188 kb_62 ?_
    refine x_icmp_ne (tgt := 206) hc dX9_faultOf_190 (by decide) (fun hb => ?_) (fun hb => ?_)
    · have h := ite_f hb h
      exact x_sub (S_Mo_faultOf_L36_J206 hc hSH x2 x3 x4 x5 s0 M h kr ke kb) [1, 2, 3, 4, 5, 0] rfl
    · have h := ite_t hb h
      exact x_sub (S_Mo_faultOf_L36_J193 hc hSH x2 x3 x4 x5 s0 M h kr ke kb) [1, 2, 3, 4, 5, 0] rfl

def Mo_faultOf_L36_J174 (x2 : Int32) (x3 : Int32) (x4 : Int32) (x5 : Int32) (M : QM) : Option (((Int32 × QM) ⊕ (Int32 × QM)) ⊕ (Int32 × Int32 × QM)) :=
  Mo_faultOf_L36_J179 x2 x3 x4 x5 (1 : Int32) M

set_option maxRecDepth 20000 in
set_option maxHeartbeats 2000000 in
theorem S_Mo_faultOf_L36_J174 {C : QC} (hc : OKX C RX9 cX9_faultOf 10 1 (some .int)) (hSH : q_SH C = SHM) (x2 : Int32) (x3 : Int32) (x4 : Int32) (x5 : Int32) (M : QM) {res : ((Int32 × QM) ⊕ (Int32 × QM)) ⊕ (Int32 × Int32 × QM)} (h : Mo_faultOf_L36_J174 x2 x3 x4 x5 M = some res) (kr : ∀ x : Int32 × QM, res = .inl (.inl x) → q_r C = some (.int x.1) ∧ q_M C = x.2) (ke : ∀ x : Int32 × QM, res = .inl (.inr x) → WX C 10 573 [(0, .ref 0), (1, .int x.1)] [] x.2) (kb : ∀ x : Int32 × Int32 × QM, res = .inr x → WX C 10 36 [(0, .ref 0), (1, .int x.1), (2, .int x.2.1)] [] x.2.2) : WX C 10 174 [(0, .ref 0), (2, .int x2), (3, .int x3), (4, .int x4), (5, .int x5)] [] M := by
  unfold Mo_faultOf_L36_J174 at h
  refine x_iconst hc dX9_faultOf_174 kc_1 ?_
  refine x_goto (tgt := 179) hc dX9_faultOf_175 (by decide) ?_
  exact x_sub (S_Mo_faultOf_L36_J179 hc hSH x2 x3 x4 x5 (1 : Int32) M h kr ke kb) [0, 1, 2, 3, 4] rfl

def Mo_faultOf_L36_J142 (x2 : Int32) (x3 : Int32) (x4 : Int32) (s0 : Int32) (M : QM) : Option (((Int32 × QM) ⊕ (Int32 × QM)) ⊕ (Int32 × Int32 × QM)) :=
  (if x3 = (110 : Int32) then Mo_faultOf_L36_J174 x2 x3 x4 s0 M else (if x3 = (116 : Int32) then Mo_faultOf_L36_J174 x2 x3 x4 s0 M else (if x3 = (115 : Int32) then Mo_faultOf_L36_J174 x2 x3 x4 s0 M else (if x3 = (46 : Int32) then Mo_faultOf_L36_J174 x2 x3 x4 s0 M else (if x3 = (33 : Int32) then Mo_faultOf_L36_J174 x2 x3 x4 s0 M else Mo_faultOf_L36_J179 x2 x3 x4 s0 (0 : Int32) M)))))

set_option maxRecDepth 20000 in
set_option maxHeartbeats 2000000 in
theorem S_Mo_faultOf_L36_J142 {C : QC} (hc : OKX C RX9 cX9_faultOf 10 1 (some .int)) (hSH : q_SH C = SHM) (x2 : Int32) (x3 : Int32) (x4 : Int32) (s0 : Int32) (M : QM) {res : ((Int32 × QM) ⊕ (Int32 × QM)) ⊕ (Int32 × Int32 × QM)} (h : Mo_faultOf_L36_J142 x2 x3 x4 s0 M = some res) (kr : ∀ x : Int32 × QM, res = .inl (.inl x) → q_r C = some (.int x.1) ∧ q_M C = x.2) (ke : ∀ x : Int32 × QM, res = .inl (.inr x) → WX C 10 573 [(0, .ref 0), (1, .int x.1)] [] x.2) (kb : ∀ x : Int32 × Int32 × QM, res = .inr x → WX C 10 36 [(0, .ref 0), (1, .int x.1), (2, .int x.2.1)] [] x.2.2) : WX C 10 142 [(0, .ref 0), (2, .int x2), (3, .int x3), (4, .int x4)] [.int s0] M := by
  unfold Mo_faultOf_L36_J142 at h
  refine x_istore (L2 := [(5, .int s0), (0, .ref 0), (2, .int x2), (3, .int x3), (4, .int x4)]) hc dX9_faultOf_142 (by decide) rfl ?_
  refine x_iload_n hc dX9_faultOf_144 rfl 3 rfl ?_
  refine x_bipush hc dX9_faultOf_145 kb_110 ?_
  refine x_icmp_eq (tgt := 174) hc dX9_faultOf_147 (by decide) (fun hb => ?_) (fun hb => ?_)
  · have h := ite_t hb h
    exact x_sub (S_Mo_faultOf_L36_J174 hc hSH x2 x3 x4 s0 M h kr ke kb) [1, 2, 3, 4, 0] rfl
  · have h := ite_f hb h
    refine x_iload_n hc dX9_faultOf_150 rfl 3 rfl ?_
    refine x_bipush hc dX9_faultOf_151 kb_116 ?_
    refine x_icmp_eq (tgt := 174) hc dX9_faultOf_153 (by decide) (fun hb => ?_) (fun hb => ?_)
    · have h := ite_t hb h
      exact x_sub (S_Mo_faultOf_L36_J174 hc hSH x2 x3 x4 s0 M h kr ke kb) [1, 2, 3, 4, 0] rfl
    · have h := ite_f hb h
      refine x_iload_n hc dX9_faultOf_156 rfl 3 rfl ?_
      refine x_bipush hc dX9_faultOf_157 kb_115 ?_
      refine x_icmp_eq (tgt := 174) hc dX9_faultOf_159 (by decide) (fun hb => ?_) (fun hb => ?_)
      · have h := ite_t hb h
        exact x_sub (S_Mo_faultOf_L36_J174 hc hSH x2 x3 x4 s0 M h kr ke kb) [1, 2, 3, 4, 0] rfl
      · have h := ite_f hb h
        refine x_iload_n hc dX9_faultOf_162 rfl 3 rfl ?_
        refine x_bipush hc dX9_faultOf_163 kb_46 ?_
        refine x_icmp_eq (tgt := 174) hc dX9_faultOf_165 (by decide) (fun hb => ?_) (fun hb => ?_)
        · have h := ite_t hb h
          exact x_sub (S_Mo_faultOf_L36_J174 hc hSH x2 x3 x4 s0 M h kr ke kb) [1, 2, 3, 4, 0] rfl
        · have h := ite_f hb h
          refine x_iload_n hc dX9_faultOf_168 rfl 3 rfl ?_
          refine x_bipush hc dX9_faultOf_169 kb_33 ?_
          refine x_icmp_ne (tgt := 178) hc dX9_faultOf_171 (by decide) (fun hb => ?_) (fun hb => ?_)
          · have h := ite_f hb h
            refine x_iconst hc dX9_faultOf_178 kc_0 ?_
            exact x_sub (S_Mo_faultOf_L36_J179 hc hSH x2 x3 x4 s0 (0 : Int32) M h kr ke kb) [1, 2, 3, 4, 0] rfl
          · have h := ite_t hb h
            exact x_sub (S_Mo_faultOf_L36_J174 hc hSH x2 x3 x4 s0 M h kr ke kb) [1, 2, 3, 4, 0] rfl

def Mo_faultOf_L36_J137 (x2 : Int32) (x3 : Int32) (x4 : Int32) (M : QM) : Option (((Int32 × QM) ⊕ (Int32 × QM)) ⊕ (Int32 × Int32 × QM)) :=
  Mo_faultOf_L36_J142 x2 x3 x4 (1 : Int32) M

set_option maxRecDepth 20000 in
set_option maxHeartbeats 2000000 in
theorem S_Mo_faultOf_L36_J137 {C : QC} (hc : OKX C RX9 cX9_faultOf 10 1 (some .int)) (hSH : q_SH C = SHM) (x2 : Int32) (x3 : Int32) (x4 : Int32) (M : QM) {res : ((Int32 × QM) ⊕ (Int32 × QM)) ⊕ (Int32 × Int32 × QM)} (h : Mo_faultOf_L36_J137 x2 x3 x4 M = some res) (kr : ∀ x : Int32 × QM, res = .inl (.inl x) → q_r C = some (.int x.1) ∧ q_M C = x.2) (ke : ∀ x : Int32 × QM, res = .inl (.inr x) → WX C 10 573 [(0, .ref 0), (1, .int x.1)] [] x.2) (kb : ∀ x : Int32 × Int32 × QM, res = .inr x → WX C 10 36 [(0, .ref 0), (1, .int x.1), (2, .int x.2.1)] [] x.2.2) : WX C 10 137 [(0, .ref 0), (2, .int x2), (3, .int x3), (4, .int x4)] [] M := by
  unfold Mo_faultOf_L36_J137 at h
  refine x_iconst hc dX9_faultOf_137 kc_1 ?_
  refine x_goto (tgt := 142) hc dX9_faultOf_138 (by decide) ?_
  exact x_sub (S_Mo_faultOf_L36_J142 hc hSH x2 x3 x4 (1 : Int32) M h kr ke kb) [0, 1, 2, 3] rfl

def Mo_faultOf_L36_J115 (x2 : Int32) (s0 : Int32) (M : QM) : Option (((Int32 × QM) ⊕ (Int32 × QM)) ⊕ (Int32 × Int32 × QM)) :=
  Mo_faultOf_L36_J522 x2 s0 M

set_option maxRecDepth 20000 in
set_option maxHeartbeats 2000000 in
theorem S_Mo_faultOf_L36_J115 {C : QC} (hc : OKX C RX9 cX9_faultOf 10 1 (some .int)) (hSH : q_SH C = SHM) (x2 : Int32) (s0 : Int32) (M : QM) {res : ((Int32 × QM) ⊕ (Int32 × QM)) ⊕ (Int32 × Int32 × QM)} (h : Mo_faultOf_L36_J115 x2 s0 M = some res) (kr : ∀ x : Int32 × QM, res = .inl (.inl x) → q_r C = some (.int x.1) ∧ q_M C = x.2) (ke : ∀ x : Int32 × QM, res = .inl (.inr x) → WX C 10 573 [(0, .ref 0), (1, .int x.1)] [] x.2) (kb : ∀ x : Int32 × Int32 × QM, res = .inr x → WX C 10 36 [(0, .ref 0), (1, .int x.1), (2, .int x.2.1)] [] x.2.2) : WX C 10 115 [(0, .ref 0), (2, .int x2)] [.int s0] M := by
  unfold Mo_faultOf_L36_J115 at h
  refine x_istore (L2 := [(4, .int s0), (0, .ref 0), (2, .int x2)]) hc dX9_faultOf_115 (by decide) rfl ?_
  refine x_goto (tgt := 522) hc dX9_faultOf_117 (by decide) ?_
  exact x_sub (S_Mo_faultOf_L36_J522 hc hSH x2 s0 M h kr ke kb) [1, 2, 0] rfl

def Mo_faultOf_B36 (v : Int32 × Int32 × QM) : Option (((Int32 × QM) ⊕ (Int32 × QM)) ⊕ (Int32 × Int32 × QM)) :=
  (if (v.2.2.1 0 0) ≤ v.2.1 then some (.inl (.inr (v.1, v.2.2))) else ck (inb v.2.1 100) ((if v.1 = 0 then Option.bind (Mo_in (v.2.2.1 1 v.2.1.toNatClampNeg) (65 : Int32) (72 : Int32) v.2.2) (fun q20 => (if q20 = 0 then Mo_faultOf_L36_J522 v.2.1 (-6 : Int32) v.2.2 else ck (inb ((v.2.2.1 1 v.2.1.toNatClampNeg) - (65 : Int32)) 8) ((if (v.2.2.1 7 ((v.2.2.1 1 v.2.1.toNatClampNeg) - (65 : Int32)).toNatClampNeg) = (-6 : Int32) then Mo_faultOf_L36_J522 v.2.1 (1 : Int32) (u_i v.2.2 0 14 ((v.2.2.1 1 v.2.1.toNatClampNeg) - (65 : Int32))) else Mo_faultOf_L36_J522 v.2.1 (-6 : Int32) v.2.2)))) else (if v.1 = (1 : Int32) then (if (v.2.2.1 1 v.2.1.toNatClampNeg) = (61 : Int32) then Mo_faultOf_L36_J115 v.2.1 (2 : Int32) v.2.2 else Mo_faultOf_L36_J115 v.2.1 (-6 : Int32) v.2.2) else (if v.1 = (2 : Int32) then (if (v.2.2.1 1 v.2.1.toNatClampNeg) = (123 : Int32) then Mo_faultOf_L36_J137 v.2.1 (v.2.2.1 1 v.2.1.toNatClampNeg) (-6 : Int32) v.2.2 else (if (v.2.2.1 1 v.2.1.toNatClampNeg) = (91 : Int32) then Mo_faultOf_L36_J137 v.2.1 (v.2.2.1 1 v.2.1.toNatClampNeg) (-6 : Int32) v.2.2 else Mo_faultOf_L36_J142 v.2.1 (v.2.2.1 1 v.2.1.toNatClampNeg) (-6 : Int32) (0 : Int32) v.2.2)) else (if v.1 = (3 : Int32) then ck (inb ((v.2.2.1 0 10) - (1 : Int32)) 16) (ck (inb (v.2.2.1 8 ((v.2.2.1 0 10) - (1 : Int32)).toNatClampNeg) 100) ((if (v.2.2.1 5 (v.2.2.1 8 ((v.2.2.1 0 10) - (1 : Int32)).toNatClampNeg).toNatClampNeg) = (123 : Int32) then Mo_faultOf_L36_J420 v.2.1 (v.2.2.1 1 v.2.1.toNatClampNeg) (-6 : Int32) ((v.2.2.1 0 10) - (1 : Int32)) (1 : Int32) v.2.2 else Mo_faultOf_L36_J420 v.2.1 (v.2.2.1 1 v.2.1.toNatClampNeg) (-6 : Int32) ((v.2.2.1 0 10) - (1 : Int32)) (0 : Int32) v.2.2))) else (if v.1 = (4 : Int32) then (if (v.2.2.1 1 v.2.1.toNatClampNeg) = (59 : Int32) then Mo_faultOf_L36_J520 v.2.1 (0 : Int32) v.2.2 else Mo_faultOf_L36_J520 v.2.1 (-6 : Int32) v.2.2) else Mo_faultOf_L36_J522 v.2.1 (-6 : Int32) v.2.2)))))))

set_option maxRecDepth 20000 in
set_option maxHeartbeats 2000000 in
theorem S_Mo_faultOf_B36 {C : QC} (hc : OKX C RX9 cX9_faultOf 10 1 (some .int)) (hSH : q_SH C = SHM) (v : Int32 × Int32 × QM) {res : ((Int32 × QM) ⊕ (Int32 × QM)) ⊕ (Int32 × Int32 × QM)} (h : Mo_faultOf_B36 v = some res) (kr : ∀ x : Int32 × QM, res = .inl (.inl x) → q_r C = some (.int x.1) ∧ q_M C = x.2) (ke : ∀ x : Int32 × QM, res = .inl (.inr x) → WX C 10 573 [(0, .ref 0), (1, .int x.1)] [] x.2) (kb : ∀ x : Int32 × Int32 × QM, res = .inr x → WX C 10 36 [(0, .ref 0), (1, .int x.1), (2, .int x.2.1)] [] x.2.2) : WX C 10 36 [(0, .ref 0), (1, .int v.1), (2, .int v.2.1)] [] v.2.2 := by
  unfold Mo_faultOf_B36 at h
  refine x_iload_n hc dX9_faultOf_36 rfl 2 rfl ?_
  refine x_aload_n hc dX9_faultOf_37 rfl 0 rfl ?_
  refine x_getI hc dX9_faultOf_38 fl_RX9_88 (q_s hSH sm_0) rfl ?_
  refine x_icmp_ge (tgt := 573) hc dX9_faultOf_41 (by decide) (fun hb => ?_) (fun hb => ?_)
  · have h := ite_t hb h
    cases h
    exact x_sub (ke (v.1, v.2.2) rfl) [0, 1] rfl
  · have h := ite_f hb h
    refine x_aload_n hc dX9_faultOf_44 rfl 0 rfl ?_
    refine x_getR hc dX9_faultOf_45 fl_RX9_7 (q_s hSH sm_0) rfl ?_
    refine x_iload_n hc dX9_faultOf_48 rfl 2 rfl ?_
    obtain ⟨b3, h⟩ := ck_some h
    refine x_iald hc dX9_faultOf_49 (q_s hSH sm_1) (inb_in b3) ?_
    refine x_istore_n (L2 := [(3, .int (v.2.2.1 1 v.2.1.toNatClampNeg)), (0, .ref 0), (1, .int v.1), (2, .int v.2.1)]) hc dX9_faultOf_50 rfl (by decide) rfl ?_
    refine x_bipush hc dX9_faultOf_51 kb_m6 ?_
    refine x_istore (L2 := [(4, .int (-6 : Int32)), (3, .int (v.2.2.1 1 v.2.1.toNatClampNeg)), (0, .ref 0), (1, .int v.1), (2, .int v.2.1)]) hc dX9_faultOf_53 (by decide) rfl ?_
    refine x_iload_n hc dX9_faultOf_55 rfl 3 rfl ?_
    refine x_if_ne (tgt := 98) hc dX9_faultOf_56 (by decide) (fun hb => ?_) (fun hb => ?_)
    · have h := ite_f hb h
      refine x_iload_n hc dX9_faultOf_98 rfl 3 rfl ?_
      refine x_iconst hc dX9_faultOf_99 kc_1 ?_
      refine x_icmp_ne (tgt := 120) hc dX9_faultOf_100 (by decide) (fun hb => ?_) (fun hb => ?_)
      · have h := ite_f hb h
        refine x_iload_n hc dX9_faultOf_120 rfl 3 rfl ?_
        refine x_iconst hc dX9_faultOf_121 kc_2 ?_
        refine x_icmp_ne (tgt := 385) hc dX9_faultOf_122 (by decide) (fun hb => ?_) (fun hb => ?_)
        · have h := ite_f hb h
          refine x_iload_n hc dX9_faultOf_385 rfl 3 rfl ?_
          refine x_iconst hc dX9_faultOf_386 kc_3 ?_
          refine x_icmp_ne (tgt := 503) hc dX9_faultOf_387 (by decide) (fun hb => ?_) (fun hb => ?_)
          · have h := ite_f hb h
            refine x_iload_n hc dX9_faultOf_503 rfl 3 rfl ?_
            refine x_iconst hc dX9_faultOf_504 kc_4 ?_
            refine x_icmp_ne (tgt := 522) hc dX9_faultOf_505 (by decide) (fun hb => ?_) (fun hb => ?_)
            · have h := ite_f hb h
              exact x_sub (S_Mo_faultOf_L36_J522 hc hSH v.2.1 (-6 : Int32) v.2.2 h kr ke kb) [2, 4, 0] rfl
            · have h := ite_t hb h
              refine x_iload_n hc dX9_faultOf_508 rfl 1 rfl ?_
              refine x_bipush hc dX9_faultOf_509 kb_59 ?_
              refine x_icmp_ne (tgt := 518) hc dX9_faultOf_511 (by decide) (fun hb => ?_) (fun hb => ?_)
              · have h := ite_f hb h
                refine x_bipush hc dX9_faultOf_518 kb_m6 ?_
                exact x_sub (S_Mo_faultOf_L36_J520 hc hSH v.2.1 (-6 : Int32) v.2.2 h kr ke kb) [2, 4] rfl
              · have h := ite_t hb h
                refine x_iconst hc dX9_faultOf_514 kc_0 ?_
                refine x_goto (tgt := 520) hc dX9_faultOf_515 (by decide) ?_
                exact x_sub (S_Mo_faultOf_L36_J520 hc hSH v.2.1 (0 : Int32) v.2.2 h kr ke kb) [2, 4] rfl
          · have h := ite_t hb h
            refine x_aload_n hc dX9_faultOf_390 rfl 2 rfl ?_
            refine x_getI hc dX9_faultOf_391 fl_RX9_92 (q_s hSH sm_0) rfl ?_
            refine x_iconst hc dX9_faultOf_394 kc_1 ?_
            refine x_isub hc dX9_faultOf_395 ?_
            refine x_istore (L2 := [(5, .int ((v.2.2.1 0 10) - (1 : Int32))), (4, .int (-6 : Int32)), (3, .int (v.2.2.1 1 v.2.1.toNatClampNeg)), (0, .ref 0), (1, .int v.1), (2, .int v.2.1)]) hc dX9_faultOf_396 (by decide) rfl ?_
            refine x_aload_n hc dX9_faultOf_398 rfl 3 rfl ?_
            refine x_getR hc dX9_faultOf_399 fl_RX9_22 (q_s hSH sm_0) rfl ?_
            refine x_aload_n hc dX9_faultOf_402 rfl 3 rfl ?_
            refine x_getR hc dX9_faultOf_403 fl_RX9_31 (q_s hSH sm_0) rfl ?_
            refine x_iload hc dX9_faultOf_406 0 rfl ?_
            obtain ⟨b5, h⟩ := ck_some h
            refine x_iald hc dX9_faultOf_408 (q_s hSH sm_8) (inb_in b5) ?_
            obtain ⟨b6, h⟩ := ck_some h
            refine x_iald hc dX9_faultOf_409 (q_s hSH sm_5) (inb_in b6) ?_
            refine x_bipush hc dX9_faultOf_410 kb_123 ?_
            refine x_icmp_ne (tgt := 419) hc dX9_faultOf_412 (by decide) (fun hb => ?_) (fun hb => ?_)
            · have h := ite_f hb h
              refine x_iconst hc dX9_faultOf_419 kc_0 ?_
              exact x_sub (S_Mo_faultOf_L36_J420 hc hSH v.2.1 (v.2.2.1 1 v.2.1.toNatClampNeg) (-6 : Int32) ((v.2.2.1 0 10) - (1 : Int32)) (0 : Int32) v.2.2 h kr ke kb) [3, 5, 2, 1, 0] rfl
            · have h := ite_t hb h
              refine x_iconst hc dX9_faultOf_415 kc_1 ?_
              refine x_goto (tgt := 420) hc dX9_faultOf_416 (by decide) ?_
              exact x_sub (S_Mo_faultOf_L36_J420 hc hSH v.2.1 (v.2.2.1 1 v.2.1.toNatClampNeg) (-6 : Int32) ((v.2.2.1 0 10) - (1 : Int32)) (1 : Int32) v.2.2 h kr ke kb) [3, 5, 2, 1, 0] rfl
        · have h := ite_t hb h
          refine x_iload_n hc dX9_faultOf_125 rfl 1 rfl ?_
          refine x_bipush hc dX9_faultOf_126 kb_123 ?_
          refine x_icmp_eq (tgt := 137) hc dX9_faultOf_128 (by decide) (fun hb => ?_) (fun hb => ?_)
          · have h := ite_t hb h
            exact x_sub (S_Mo_faultOf_L36_J137 hc hSH v.2.1 (v.2.2.1 1 v.2.1.toNatClampNeg) (-6 : Int32) v.2.2 h kr ke kb) [2, 4, 1, 0] rfl
          · have h := ite_f hb h
            refine x_iload_n hc dX9_faultOf_131 rfl 1 rfl ?_
            refine x_bipush hc dX9_faultOf_132 kb_91 ?_
            refine x_icmp_ne (tgt := 141) hc dX9_faultOf_134 (by decide) (fun hb => ?_) (fun hb => ?_)
            · have h := ite_f hb h
              refine x_iconst hc dX9_faultOf_141 kc_0 ?_
              exact x_sub (S_Mo_faultOf_L36_J142 hc hSH v.2.1 (v.2.2.1 1 v.2.1.toNatClampNeg) (-6 : Int32) (0 : Int32) v.2.2 h kr ke kb) [2, 4, 1, 0] rfl
            · have h := ite_t hb h
              exact x_sub (S_Mo_faultOf_L36_J137 hc hSH v.2.1 (v.2.2.1 1 v.2.1.toNatClampNeg) (-6 : Int32) v.2.2 h kr ke kb) [2, 4, 1, 0] rfl
      · have h := ite_t hb h
        refine x_iload_n hc dX9_faultOf_103 rfl 1 rfl ?_
        refine x_bipush hc dX9_faultOf_104 kb_61 ?_
        refine x_icmp_ne (tgt := 113) hc dX9_faultOf_106 (by decide) (fun hb => ?_) (fun hb => ?_)
        · have h := ite_f hb h
          refine x_bipush hc dX9_faultOf_113 kb_m6 ?_
          exact x_sub (S_Mo_faultOf_L36_J115 hc hSH v.2.1 (-6 : Int32) v.2.2 h kr ke kb) [2, 4] rfl
        · have h := ite_t hb h
          refine x_iconst hc dX9_faultOf_109 kc_2 ?_
          refine x_goto (tgt := 115) hc dX9_faultOf_110 (by decide) ?_
          exact x_sub (S_Mo_faultOf_L36_J115 hc hSH v.2.1 (2 : Int32) v.2.2 h kr ke kb) [2, 4] rfl
    · have h := ite_t hb h
      refine x_iload_n hc dX9_faultOf_59 rfl 1 rfl ?_
      refine x_bipush hc dX9_faultOf_60 kb_65 ?_
      refine x_bipush hc dX9_faultOf_62 kb_72 ?_
      obtain ⟨q20, h20, h⟩ := bd_some h
      refine x_callSi (As := [.int (v.2.2.1 1 v.2.1.toNatClampNeg), .int (65 : Int32), .int (72 : Int32)]) (st := []) hc dX9_faultOf_64 cs_X9_in lk_RX9_84 rfl (q_cn hSH (S_Mo_in h20)) (by decide) (Nat.le_of_ble_eq_true rfl) ?_
      refine x_if_eq (tgt := 522) hc dX9_faultOf_67 (by decide) (fun hb => ?_) (fun hb => ?_)
      · have h := ite_t hb h
        exact x_sub (S_Mo_faultOf_L36_J522 hc hSH v.2.1 (-6 : Int32) v.2.2 h kr ke kb) [2, 4, 0] rfl
      · have h := ite_f hb h
        refine x_aload_n hc dX9_faultOf_70 rfl 2 rfl ?_
        refine x_getR hc dX9_faultOf_71 fl_RX9_28 (q_s hSH sm_0) rfl ?_
        refine x_iload_n hc dX9_faultOf_74 rfl 1 rfl ?_
        refine x_bipush hc dX9_faultOf_75 kb_65 ?_
        refine x_isub hc dX9_faultOf_77 ?_
        obtain ⟨b21, h⟩ := ck_some h
        refine x_iald hc dX9_faultOf_78 (q_s hSH sm_7) (inb_in b21) ?_
        refine x_bipush hc dX9_faultOf_79 kb_m6 ?_
        refine x_icmp_ne (tgt := 522) hc dX9_faultOf_81 (by decide) (fun hb => ?_) (fun hb => ?_)
        · have h := ite_f hb h
          exact x_sub (S_Mo_faultOf_L36_J522 hc hSH v.2.1 (-6 : Int32) v.2.2 h kr ke kb) [2, 4, 0] rfl
        · have h := ite_t hb h
          refine x_aload_n hc dX9_faultOf_84 rfl 2 rfl ?_
          refine x_iload_n hc dX9_faultOf_85 rfl 1 rfl ?_
          refine x_bipush hc dX9_faultOf_86 kb_65 ?_
          refine x_isub hc dX9_faultOf_88 ?_
          refine x_putI hc dX9_faultOf_89 fl_RX9_95 (fw_9_14 _) (q_s hSH sm_0) rfl ?_
          refine x_iconst hc dX9_faultOf_92 kc_1 ?_
          refine x_istore (L2 := [(4, .int (1 : Int32)), (3, .int (v.2.2.1 1 v.2.1.toNatClampNeg)), (0, .ref 0), (1, .int v.1), (2, .int v.2.1)]) hc dX9_faultOf_93 (by decide) rfl ?_
          refine x_goto (tgt := 522) hc dX9_faultOf_95 (by decide) ?_
          exact x_sub (S_Mo_faultOf_L36_J522 hc hSH v.2.1 (1 : Int32) (u_i v.2.2 0 14 ((v.2.2.1 1 v.2.1.toNatClampNeg) - (65 : Int32))) h kr ke kb) [2, 4, 0] rfl

theorem S_Mo_faultOf_L36 {C : QC} (hc : OKX C RX9 cX9_faultOf 10 1 (some .int)) (hSH : q_SH C = SHM) {n : Nat} {v : Int32 × Int32 × QM} {e : (Int32 × QM) ⊕ (Int32 × QM)} (h : iter (Mo_faultOf_B36) n v = some e) (kr : ∀ x : Int32 × QM, e = .inl x → q_r C = some (.int x.1) ∧ q_M C = x.2) (ke : ∀ x : Int32 × QM, e = .inr x → WX C 10 573 [(0, .ref 0), (1, .int x.1)] [] x.2) : WX C 10 36 [(0, .ref 0), (1, .int v.1), (2, .int v.2.1)] [] v.2.2 :=
  iter_W (Wh := fun v => WX C 10 36 [(0, .ref 0), (1, .int v.1), (2, .int v.2.1)] [] v.2.2) (fun a res hB k1 k2 => S_Mo_faultOf_B36 hc hSH a hB (fun x hx => kr x (k1 _ hx).symm) (fun x hx => ke x (k1 _ hx).symm) k2) n v h

def Mo_faultOf (M : QM) : Option (Int32 × QM) :=
  Option.bind (iter (Mo_faultOf_B14 (0 : Int32)) FU ((0 : Int32), u_i (u_i M 0 6 (0 : Int32)) 0 10 (0 : Int32))) (fun e2 => Option.bind (iter (Mo_faultOf_B36) FU ((0 : Int32), (0 : Int32), e2)) (fun e22 => Sum.elim (fun r22 => some r22) (fun y22 => (if y22.1 = (4 : Int32) then some ((-6 : Int32), y22.2) else some (y22.2.1 0 0, y22.2))) e22))

set_option maxRecDepth 20000 in
set_option maxHeartbeats 2000000 in
theorem S_Mo_faultOf  {M : QM} {res : Int32 × QM} (h : Mo_faultOf M = some res) : Cn yX9_faultOf cX9_faultOf 10 (some .int) 1 SHM [.ref 0] M (some (.int res.1)) res.2 := by
  refine q_enter (L := [(0, .ref 0)]) (by decide) (Nat.le_of_ble_eq_true rfl) rfl ?_
  intro C hc hSH hr hM
  have hc : OKX C RX9 cX9_faultOf 10 1 (some .int) := hc
  unfold Mo_faultOf at h
  refine x_iconst hc dX9_faultOf_0 kc_0 ?_
  refine x_istore_n (L2 := [(1, .int (0 : Int32)), (0, .ref 0)]) hc dX9_faultOf_1 rfl (by decide) rfl ?_
  refine x_aload_n hc dX9_faultOf_2 rfl 1 rfl ?_
  refine x_iconst hc dX9_faultOf_3 kc_0 ?_
  refine x_putI hc dX9_faultOf_4 fl_RX9_98 (fw_9_6 _) (q_s hSH sm_0) rfl ?_
  refine x_aload_n hc dX9_faultOf_7 rfl 1 rfl ?_
  refine x_iconst hc dX9_faultOf_8 kc_0 ?_
  refine x_putI hc dX9_faultOf_9 fl_RX9_92 (fw_9_10 _) (q_s hSH sm_0) rfl ?_
  refine x_iconst hc dX9_faultOf_12 kc_0 ?_
  refine x_istore_n (L2 := [(2, .int (0 : Int32)), (1, .int (0 : Int32)), (0, .ref 0)]) hc dX9_faultOf_13 rfl (by decide) rfl ?_
  obtain ⟨e2, h2, h⟩ := bd_some h
  refine x_sub (S_Mo_faultOf_L14 hc hSH (0 : Int32) (v := ((0 : Int32), u_i (u_i M 0 6 (0 : Int32)) 0 10 (0 : Int32))) h2 (fun x hx => ?_)) [2, 1, 0] rfl
  subst hx
  refine x_iconst hc dX9_faultOf_34 kc_0 ?_
  refine x_istore_n (L2 := [(2, .int (0 : Int32)), (0, .ref 0), (1, .int (0 : Int32))]) hc dX9_faultOf_35 rfl (by decide) rfl ?_
  obtain ⟨e22, h22, h⟩ := bd_some h
  refine x_sub (S_Mo_faultOf_L36 hc hSH (v := ((0 : Int32), (0 : Int32), e2)) h22 (fun r22 hx => ?_) (fun y22 hx => ?_)) [1, 2, 0] rfl
  · subst hx
    have h := sum_l h
    cases h
    exact ⟨hr, hM⟩
  · subst hx
    have h := sum_r h
    refine x_iload_n hc dX9_faultOf_573 rfl 1 rfl ?_
    refine x_iconst hc dX9_faultOf_574 kc_4 ?_
    refine x_icmp_ne (tgt := 583) hc dX9_faultOf_575 (by decide) (fun hb => ?_) (fun hb => ?_)
    · have h := ite_f hb h
      refine x_aload_n hc dX9_faultOf_583 rfl 0 rfl ?_
      refine x_getI hc dX9_faultOf_584 fl_RX9_88 (q_s hSH sm_0) rfl ?_
      cases h
      exact x_iret hc dX9_faultOf_587 hr hM
    · have h := ite_t hb h
      refine x_bipush hc dX9_faultOf_578 kb_m6 ?_
      refine x_goto (tgt := 587) hc dX9_faultOf_580 (by decide) ?_
      cases h
      exact x_iret hc dX9_faultOf_587 hr hM

def Mo_fault (M : QM) : Option (Int32 × QM) :=
  Option.bind (Mo_faultOf M) (fun q1 => some (q1.1, q1.2))

set_option maxRecDepth 20000 in
set_option maxHeartbeats 2000000 in
theorem S_Mo_fault  {M : QM} {res : Int32 × QM} (h : Mo_fault M = some res) : Cn yX9_fault cX9_fault 1 (some .int) 2 SHM [.ref 0] M (some (.int res.1)) res.2 := by
  refine q_enter (L := [(0, .ref 0)]) (by decide) (Nat.le_of_ble_eq_true rfl) rfl ?_
  intro C hc hSH hr hM
  have hc : OKX C RX9 cX9_fault 1 2 (some .int) := hc
  unfold Mo_fault at h
  refine x_aload_n hc dX9_fault_0 rfl 0 rfl ?_
  obtain ⟨q1, h1, h⟩ := bd_some h
  refine x_callVi (As := []) (st := []) (o := 0) hc dX9_fault_1 cv_X9_faultOf lk_RX9_109 (q_s hSH sm_0) rfl rfl (q_cn hSH (S_Mo_faultOf h1)) (by decide) (Nat.le_of_ble_eq_true rfl) ?_
  cases h
  exact x_iret hc dX9_fault_4 hr hM

def Mo_slipOf_L14_J414 (x2 : Int32) (x4 : Int32) (M : QM) : Option (((Int32 × QM) ⊕ (Int32 × QM)) ⊕ (Int32 × Int32 × QM)) :=
  (if 0 ≤ x4 then some (.inr (x4, x2 + (1 : Int32), M)) else some (.inl (.inl (x2, M))))

set_option maxRecDepth 20000 in
set_option maxHeartbeats 2000000 in
theorem S_Mo_slipOf_L14_J414 {C : QC} (hc : OKX C RX9 cX9_slipOf 6 1 (some .int)) (hSH : q_SH C = SHM) (x2 : Int32) (x4 : Int32) (M : QM) {res : ((Int32 × QM) ⊕ (Int32 × QM)) ⊕ (Int32 × Int32 × QM)} (h : Mo_slipOf_L14_J414 x2 x4 M = some res) (kr : ∀ x : Int32 × QM, res = .inl (.inl x) → q_r C = some (.int x.1) ∧ q_M C = x.2) (ke : ∀ x : Int32 × QM, res = .inl (.inr x) → WX C 6 430 [(0, .ref 0), (1, .int x.1)] [] x.2) (kb : ∀ x : Int32 × Int32 × QM, res = .inr x → WX C 6 14 [(0, .ref 0), (1, .int x.1), (2, .int x.2.1)] [] x.2.2) : WX C 6 414 [(0, .ref 0), (2, .int x2), (4, .int x4)] [] M := by
  unfold Mo_slipOf_L14_J414 at h
  refine x_iload hc dX9_slipOf_414 2 rfl ?_
  refine x_if_ge (tgt := 421) hc dX9_slipOf_416 (by decide) (fun hb => ?_) (fun hb => ?_)
  · have h := ite_t hb h
    refine x_iload hc dX9_slipOf_421 2 rfl ?_
    refine x_istore_n (L2 := [(1, .int x4), (0, .ref 0), (2, .int x2), (4, .int x4)]) hc dX9_slipOf_423 rfl (by decide) rfl ?_
    refine x_iinc (v := x2 + (1 : Int32)) (L2 := [(2, .int (x2 + (1 : Int32))), (1, .int x4), (0, .ref 0), (4, .int x4)]) hc dX9_slipOf_424 2 rfl (by rw [kc_1]) (by decide) rfl ?_
    refine x_goto (tgt := 14) hc dX9_slipOf_427 (by decide) ?_
    cases h
    exact x_sub (kb (x4, x2 + (1 : Int32), M) rfl) [2, 1, 0] rfl
  · have h := ite_f hb h
    refine x_iload_n hc dX9_slipOf_419 rfl 1 rfl ?_
    cases h
    exact x_iret hc dX9_slipOf_420 (kr _ rfl).1 (kr _ rfl).2

def Mo_slipOf_L14_J412 (x2 : Int32) (s0 : Int32) (M : QM) : Option (((Int32 × QM) ⊕ (Int32 × QM)) ⊕ (Int32 × Int32 × QM)) :=
  Mo_slipOf_L14_J414 x2 s0 M

set_option maxRecDepth 20000 in
set_option maxHeartbeats 2000000 in
theorem S_Mo_slipOf_L14_J412 {C : QC} (hc : OKX C RX9 cX9_slipOf 6 1 (some .int)) (hSH : q_SH C = SHM) (x2 : Int32) (s0 : Int32) (M : QM) {res : ((Int32 × QM) ⊕ (Int32 × QM)) ⊕ (Int32 × Int32 × QM)} (h : Mo_slipOf_L14_J412 x2 s0 M = some res) (kr : ∀ x : Int32 × QM, res = .inl (.inl x) → q_r C = some (.int x.1) ∧ q_M C = x.2) (ke : ∀ x : Int32 × QM, res = .inl (.inr x) → WX C 6 430 [(0, .ref 0), (1, .int x.1)] [] x.2) (kb : ∀ x : Int32 × Int32 × QM, res = .inr x → WX C 6 14 [(0, .ref 0), (1, .int x.1), (2, .int x.2.1)] [] x.2.2) : WX C 6 412 [(0, .ref 0), (2, .int x2)] [.int s0] M := by
  unfold Mo_slipOf_L14_J412 at h
  refine x_istore (L2 := [(4, .int s0), (0, .ref 0), (2, .int x2)]) hc dX9_slipOf_412 (by decide) rfl ?_
  exact x_sub (S_Mo_slipOf_L14_J414 hc hSH x2 s0 M h kr ke kb) [1, 2, 0] rfl

def Mo_slipOf_L14_J354 (x2 : Int32) (x4 : Int32) (x5 : Int32) (M : QM) : Option (((Int32 × QM) ⊕ (Int32 × QM)) ⊕ (Int32 × Int32 × QM)) :=
  (if x5 = 0 then Mo_slipOf_L14_J414 x2 x4 M else (if (M.1 0 27) = 0 then Mo_slipOf_L14_J412 x2 (6 : Int32) M else ck (inb ((M.1 0 27) - (1 : Int32)) 101) ((if (M.1 17 ((M.1 0 27) - (1 : Int32)).toNatClampNeg) = (123 : Int32) then Mo_slipOf_L14_J412 x2 (2 : Int32) M else ck (inb ((M.1 0 27) - (1 : Int32)) 101) ((if (M.1 17 ((M.1 0 27) - (1 : Int32)).toNatClampNeg) = (91 : Int32) then Mo_slipOf_L14_J412 x2 (4 : Int32) M else Mo_slipOf_L14_J412 x2 (5 : Int32) M))))))

set_option maxRecDepth 20000 in
set_option maxHeartbeats 2000000 in
theorem S_Mo_slipOf_L14_J354 {C : QC} (hc : OKX C RX9 cX9_slipOf 6 1 (some .int)) (hSH : q_SH C = SHM) (x2 : Int32) (x4 : Int32) (x5 : Int32) (M : QM) {res : ((Int32 × QM) ⊕ (Int32 × QM)) ⊕ (Int32 × Int32 × QM)} (h : Mo_slipOf_L14_J354 x2 x4 x5 M = some res) (kr : ∀ x : Int32 × QM, res = .inl (.inl x) → q_r C = some (.int x.1) ∧ q_M C = x.2) (ke : ∀ x : Int32 × QM, res = .inl (.inr x) → WX C 6 430 [(0, .ref 0), (1, .int x.1)] [] x.2) (kb : ∀ x : Int32 × Int32 × QM, res = .inr x → WX C 6 14 [(0, .ref 0), (1, .int x.1), (2, .int x.2.1)] [] x.2.2) : WX C 6 354 [(0, .ref 0), (2, .int x2), (4, .int x4), (5, .int x5)] [] M := by
  unfold Mo_slipOf_L14_J354 at h
  refine x_iload hc dX9_slipOf_354 3 rfl ?_
  refine x_if_eq (tgt := 414) hc dX9_slipOf_356 (by decide) (fun hb => ?_) (fun hb => ?_)
  · have h := ite_t hb h
    exact x_sub (S_Mo_slipOf_L14_J414 hc hSH x2 x4 M h kr ke kb) [0, 1, 2] rfl
  · have h := ite_f hb h
    refine x_aload_n hc dX9_slipOf_359 rfl 0 rfl ?_
    refine x_getI hc dX9_slipOf_360 fl_RX9_172 (q_s hSH sm_0) rfl ?_
    refine x_if_ne (tgt := 371) hc dX9_slipOf_363 (by decide) (fun hb => ?_) (fun hb => ?_)
    · have h := ite_f hb h
      refine x_aload_n hc dX9_slipOf_371 rfl 0 rfl ?_
      refine x_getR hc dX9_slipOf_372 fl_RX9_59 (q_s hSH sm_0) rfl ?_
      refine x_aload_n hc dX9_slipOf_375 rfl 0 rfl ?_
      refine x_getI hc dX9_slipOf_376 fl_RX9_172 (q_s hSH sm_0) rfl ?_
      refine x_iconst hc dX9_slipOf_379 kc_1 ?_
      refine x_isub hc dX9_slipOf_380 ?_
      obtain ⟨b3, h⟩ := ck_some h
      refine x_iald hc dX9_slipOf_381 (q_s hSH sm_17) (inb_in b3) ?_
      refine x_bipush hc dX9_slipOf_382 kb_123 ?_
      refine x_icmp_ne (tgt := 391) hc dX9_slipOf_384 (by decide) (fun hb => ?_) (fun hb => ?_)
      · have h := ite_f hb h
        refine x_aload_n hc dX9_slipOf_391 rfl 0 rfl ?_
        refine x_getR hc dX9_slipOf_392 fl_RX9_59 (q_s hSH sm_0) rfl ?_
        refine x_aload_n hc dX9_slipOf_395 rfl 0 rfl ?_
        refine x_getI hc dX9_slipOf_396 fl_RX9_172 (q_s hSH sm_0) rfl ?_
        refine x_iconst hc dX9_slipOf_399 kc_1 ?_
        refine x_isub hc dX9_slipOf_400 ?_
        obtain ⟨b4, h⟩ := ck_some h
        refine x_iald hc dX9_slipOf_401 (q_s hSH sm_17) (inb_in b4) ?_
        refine x_bipush hc dX9_slipOf_402 kb_91 ?_
        refine x_icmp_ne (tgt := 411) hc dX9_slipOf_404 (by decide) (fun hb => ?_) (fun hb => ?_)
        · have h := ite_f hb h
          refine x_iconst hc dX9_slipOf_411 kc_5 ?_
          exact x_sub (S_Mo_slipOf_L14_J412 hc hSH x2 (5 : Int32) M h kr ke kb) [0, 1] rfl
        · have h := ite_t hb h
          refine x_iconst hc dX9_slipOf_407 kc_4 ?_
          refine x_goto (tgt := 412) hc dX9_slipOf_408 (by decide) ?_
          exact x_sub (S_Mo_slipOf_L14_J412 hc hSH x2 (4 : Int32) M h kr ke kb) [0, 1] rfl
      · have h := ite_t hb h
        refine x_iconst hc dX9_slipOf_387 kc_2 ?_
        refine x_goto (tgt := 412) hc dX9_slipOf_388 (by decide) ?_
        exact x_sub (S_Mo_slipOf_L14_J412 hc hSH x2 (2 : Int32) M h kr ke kb) [0, 1] rfl
    · have h := ite_t hb h
      refine x_bipush hc dX9_slipOf_366 kb_6 ?_
      refine x_goto (tgt := 412) hc dX9_slipOf_368 (by decide) ?_
      exact x_sub (S_Mo_slipOf_L14_J412 hc hSH x2 (6 : Int32) M h kr ke kb) [0, 1] rfl

def Mo_slipOf_L14_J177 (x1 : Int32) (x2 : Int32) (x3 : Int32) (x4 : Int32) (x5 : Int32) (s0 : Int32) (s1 : Int32) (M : QM) : Option (((Int32 × QM) ⊕ (Int32 × QM)) ⊕ (Int32 × Int32 × QM)) :=
  (if x1 = (5 : Int32) then (if x3 = (41 : Int32) then Mo_slipOf_L14_J354 x2 x4 (1 : Int32) (u_i (u_i M 0 24 (s1 + s0)) 0 27 (((u_i M 0 24 (s1 + s0)).1 0 27) - (1 : Int32))) else Mo_slipOf_L14_J354 x2 x4 x5 (u_i M 0 24 (s1 + s0))) else Mo_slipOf_L14_J354 x2 x4 x5 (u_i M 0 24 (s1 + s0)))

set_option maxRecDepth 20000 in
set_option maxHeartbeats 2000000 in
theorem S_Mo_slipOf_L14_J177 {C : QC} (hc : OKX C RX9 cX9_slipOf 6 1 (some .int)) (hSH : q_SH C = SHM) (x1 : Int32) (x2 : Int32) (x3 : Int32) (x4 : Int32) (x5 : Int32) (s0 : Int32) (s1 : Int32) (M : QM) {res : ((Int32 × QM) ⊕ (Int32 × QM)) ⊕ (Int32 × Int32 × QM)} (h : Mo_slipOf_L14_J177 x1 x2 x3 x4 x5 s0 s1 M = some res) (kr : ∀ x : Int32 × QM, res = .inl (.inl x) → q_r C = some (.int x.1) ∧ q_M C = x.2) (ke : ∀ x : Int32 × QM, res = .inl (.inr x) → WX C 6 430 [(0, .ref 0), (1, .int x.1)] [] x.2) (kb : ∀ x : Int32 × Int32 × QM, res = .inr x → WX C 6 14 [(0, .ref 0), (1, .int x.1), (2, .int x.2.1)] [] x.2.2) : WX C 6 177 [(0, .ref 0), (1, .int x1), (2, .int x2), (3, .int x3), (4, .int x4), (5, .int x5)] [.int s0, .int s1, .ref 0] M := by
  unfold Mo_slipOf_L14_J177 at h
  refine x_iadd hc dX9_slipOf_177 ?_
  refine x_putI hc dX9_slipOf_178 fl_RX9_169 (fw_9_24 _) (q_s hSH sm_0) rfl ?_
  refine x_iload_n hc dX9_slipOf_181 rfl 1 rfl ?_
  refine x_iconst hc dX9_slipOf_182 kc_5 ?_
  refine x_icmp_ne (tgt := 354) hc dX9_slipOf_183 (by decide) (fun hb => ?_) (fun hb => ?_)
  · have h := ite_f hb h
    exact x_sub (S_Mo_slipOf_L14_J354 hc hSH x2 x4 x5 (u_i M 0 24 (s1 + s0)) h kr ke kb) [0, 2, 4, 5] rfl
  · have h := ite_t hb h
    refine x_iload_n hc dX9_slipOf_186 rfl 3 rfl ?_
    refine x_bipush hc dX9_slipOf_187 kb_41 ?_
    refine x_icmp_ne (tgt := 354) hc dX9_slipOf_189 (by decide) (fun hb => ?_) (fun hb => ?_)
    · have h := ite_f hb h
      exact x_sub (S_Mo_slipOf_L14_J354 hc hSH x2 x4 x5 (u_i M 0 24 (s1 + s0)) h kr ke kb) [0, 2, 4, 5] rfl
    · have h := ite_t hb h
      refine x_aload_n hc dX9_slipOf_192 rfl 0 rfl ?_
      refine x_dup hc dX9_slipOf_193 rfl ?_
      refine x_getI hc dX9_slipOf_194 fl_RX9_172 (q_s hSH sm_0) rfl ?_
      refine x_iconst hc dX9_slipOf_197 kc_1 ?_
      refine x_isub hc dX9_slipOf_198 ?_
      refine x_putI hc dX9_slipOf_199 fl_RX9_172 (fw_9_27 _) (q_s hSH sm_0) rfl ?_
      refine x_iconst hc dX9_slipOf_202 kc_1 ?_
      refine x_istore (L2 := [(5, .int (1 : Int32)), (0, .ref 0), (1, .int x1), (2, .int x2), (3, .int x3), (4, .int x4)]) hc dX9_slipOf_203 (by decide) rfl ?_
      refine x_goto (tgt := 354) hc dX9_slipOf_205 (by decide) ?_
      exact x_sub (S_Mo_slipOf_L14_J354 hc hSH x2 x4 (1 : Int32) (u_i (u_i M 0 24 (s1 + s0)) 0 27 (((u_i M 0 24 (s1 + s0)).1 0 27) - (1 : Int32))) h kr ke kb) [1, 3, 5, 0] rfl

def Mo_slipOf_L14_J172 (x1 : Int32) (x2 : Int32) (x3 : Int32) (x4 : Int32) (x5 : Int32) (s0 : Int32) (M : QM) : Option (((Int32 × QM) ⊕ (Int32 × QM)) ⊕ (Int32 × Int32 × QM)) :=
  Mo_slipOf_L14_J177 x1 x2 x3 x4 x5 (1 : Int32) s0 M

set_option maxRecDepth 20000 in
set_option maxHeartbeats 2000000 in
theorem S_Mo_slipOf_L14_J172 {C : QC} (hc : OKX C RX9 cX9_slipOf 6 1 (some .int)) (hSH : q_SH C = SHM) (x1 : Int32) (x2 : Int32) (x3 : Int32) (x4 : Int32) (x5 : Int32) (s0 : Int32) (M : QM) {res : ((Int32 × QM) ⊕ (Int32 × QM)) ⊕ (Int32 × Int32 × QM)} (h : Mo_slipOf_L14_J172 x1 x2 x3 x4 x5 s0 M = some res) (kr : ∀ x : Int32 × QM, res = .inl (.inl x) → q_r C = some (.int x.1) ∧ q_M C = x.2) (ke : ∀ x : Int32 × QM, res = .inl (.inr x) → WX C 6 430 [(0, .ref 0), (1, .int x.1)] [] x.2) (kb : ∀ x : Int32 × Int32 × QM, res = .inr x → WX C 6 14 [(0, .ref 0), (1, .int x.1), (2, .int x.2.1)] [] x.2.2) : WX C 6 172 [(0, .ref 0), (1, .int x1), (2, .int x2), (3, .int x3), (4, .int x4), (5, .int x5)] [.int s0, .ref 0] M := by
  unfold Mo_slipOf_L14_J172 at h
  refine x_iconst hc dX9_slipOf_172 kc_1 ?_
  refine x_goto (tgt := 177) hc dX9_slipOf_173 (by decide) ?_
  exact x_sub (S_Mo_slipOf_L14_J177 hc hSH x1 x2 x3 x4 x5 (1 : Int32) s0 M h kr ke kb) [0, 1, 2, 3, 4, 5] rfl

def Mo_slipOf_L14_J157 (x1 : Int32) (x2 : Int32) (x3 : Int32) (x4 : Int32) (x5 : Int32) (M : QM) : Option (((Int32 × QM) ⊕ (Int32 × QM)) ⊕ (Int32 × Int32 × QM)) :=
  (if x5 = 0 then (if x4 < 0 then Mo_slipOf_L14_J177 x1 x2 x3 x4 x5 (0 : Int32) (M.1 0 24) M else Mo_slipOf_L14_J172 x1 x2 x3 x4 x5 (M.1 0 24) M) else Mo_slipOf_L14_J172 x1 x2 x3 x4 x5 (M.1 0 24) M)

set_option maxRecDepth 20000 in
set_option maxHeartbeats 2000000 in
theorem S_Mo_slipOf_L14_J157 {C : QC} (hc : OKX C RX9 cX9_slipOf 6 1 (some .int)) (hSH : q_SH C = SHM) (x1 : Int32) (x2 : Int32) (x3 : Int32) (x4 : Int32) (x5 : Int32) (M : QM) {res : ((Int32 × QM) ⊕ (Int32 × QM)) ⊕ (Int32 × Int32 × QM)} (h : Mo_slipOf_L14_J157 x1 x2 x3 x4 x5 M = some res) (kr : ∀ x : Int32 × QM, res = .inl (.inl x) → q_r C = some (.int x.1) ∧ q_M C = x.2) (ke : ∀ x : Int32 × QM, res = .inl (.inr x) → WX C 6 430 [(0, .ref 0), (1, .int x.1)] [] x.2) (kb : ∀ x : Int32 × Int32 × QM, res = .inr x → WX C 6 14 [(0, .ref 0), (1, .int x.1), (2, .int x.2.1)] [] x.2.2) : WX C 6 157 [(0, .ref 0), (1, .int x1), (2, .int x2), (3, .int x3), (4, .int x4), (5, .int x5)] [] M := by
  unfold Mo_slipOf_L14_J157 at h
  refine x_aload_n hc dX9_slipOf_157 rfl 0 rfl ?_
  refine x_dup hc dX9_slipOf_158 rfl ?_
  refine x_getI hc dX9_slipOf_159 fl_RX9_169 (q_s hSH sm_0) rfl ?_
  refine x_iload hc dX9_slipOf_162 5 rfl ?_
  refine x_if_ne (tgt := 172) hc dX9_slipOf_164 (by decide) (fun hb => ?_) (fun hb => ?_)
  · have h := ite_f hb h
    exact x_sub (S_Mo_slipOf_L14_J172 hc hSH x1 x2 x3 x4 x5 (M.1 0 24) M h kr ke kb) [0, 1, 2, 3, 4, 5] rfl
  · have h := ite_t hb h
    refine x_iload hc dX9_slipOf_167 4 rfl ?_
    refine x_if_lt (tgt := 176) hc dX9_slipOf_169 (by decide) (fun hb => ?_) (fun hb => ?_)
    · have h := ite_t hb h
      refine x_iconst hc dX9_slipOf_176 kc_0 ?_
      exact x_sub (S_Mo_slipOf_L14_J177 hc hSH x1 x2 x3 x4 x5 (0 : Int32) (M.1 0 24) M h kr ke kb) [0, 1, 2, 3, 4, 5] rfl
    · have h := ite_f hb h
      exact x_sub (S_Mo_slipOf_L14_J172 hc hSH x1 x2 x3 x4 x5 (M.1 0 24) M h kr ke kb) [0, 1, 2, 3, 4, 5] rfl

def Mo_slipOf_L14_J68 (x1 : Int32) (x2 : Int32) (x3 : Int32) (x4 : Int32) (M : QM) : Option (((Int32 × QM) ⊕ (Int32 × QM)) ⊕ (Int32 × Int32 × QM)) :=
  Mo_slipOf_L14_J157 x1 x2 x3 x4 (1 : Int32) M

set_option maxRecDepth 20000 in
set_option maxHeartbeats 2000000 in
theorem S_Mo_slipOf_L14_J68 {C : QC} (hc : OKX C RX9 cX9_slipOf 6 1 (some .int)) (hSH : q_SH C = SHM) (x1 : Int32) (x2 : Int32) (x3 : Int32) (x4 : Int32) (M : QM) {res : ((Int32 × QM) ⊕ (Int32 × QM)) ⊕ (Int32 × Int32 × QM)} (h : Mo_slipOf_L14_J68 x1 x2 x3 x4 M = some res) (kr : ∀ x : Int32 × QM, res = .inl (.inl x) → q_r C = some (.int x.1) ∧ q_M C = x.2) (ke : ∀ x : Int32 × QM, res = .inl (.inr x) → WX C 6 430 [(0, .ref 0), (1, .int x.1)] [] x.2) (kb : ∀ x : Int32 × Int32 × QM, res = .inr x → WX C 6 14 [(0, .ref 0), (1, .int x.1), (2, .int x.2.1)] [] x.2.2) : WX C 6 68 [(0, .ref 0), (1, .int x1), (2, .int x2), (3, .int x3), (4, .int x4)] [] M := by
  unfold Mo_slipOf_L14_J68 at h
  refine x_iconst hc dX9_slipOf_68 kc_1 ?_
  refine x_istore (L2 := [(5, .int (1 : Int32)), (0, .ref 0), (1, .int x1), (2, .int x2), (3, .int x3), (4, .int x4)]) hc dX9_slipOf_69 (by decide) rfl ?_
  refine x_goto (tgt := 157) hc dX9_slipOf_71 (by decide) ?_
  exact x_sub (S_Mo_slipOf_L14_J157 hc hSH x1 x2 x3 x4 (1 : Int32) M h kr ke kb) [1, 2, 3, 4, 5, 0] rfl

def Mo_slipOf_L14_J155 (x1 : Int32) (x2 : Int32) (x3 : Int32) (x5 : Int32) (s0 : Int32) (M : QM) : Option (((Int32 × QM) ⊕ (Int32 × QM)) ⊕ (Int32 × Int32 × QM)) :=
  Mo_slipOf_L14_J157 x1 x2 x3 s0 x5 M

set_option maxRecDepth 20000 in
set_option maxHeartbeats 2000000 in
theorem S_Mo_slipOf_L14_J155 {C : QC} (hc : OKX C RX9 cX9_slipOf 6 1 (some .int)) (hSH : q_SH C = SHM) (x1 : Int32) (x2 : Int32) (x3 : Int32) (x5 : Int32) (s0 : Int32) (M : QM) {res : ((Int32 × QM) ⊕ (Int32 × QM)) ⊕ (Int32 × Int32 × QM)} (h : Mo_slipOf_L14_J155 x1 x2 x3 x5 s0 M = some res) (kr : ∀ x : Int32 × QM, res = .inl (.inl x) → q_r C = some (.int x.1) ∧ q_M C = x.2) (ke : ∀ x : Int32 × QM, res = .inl (.inr x) → WX C 6 430 [(0, .ref 0), (1, .int x.1)] [] x.2) (kb : ∀ x : Int32 × Int32 × QM, res = .inr x → WX C 6 14 [(0, .ref 0), (1, .int x.1), (2, .int x.2.1)] [] x.2.2) : WX C 6 155 [(0, .ref 0), (1, .int x1), (2, .int x2), (3, .int x3), (5, .int x5)] [.int s0] M := by
  unfold Mo_slipOf_L14_J155 at h
  refine x_istore (L2 := [(4, .int s0), (0, .ref 0), (1, .int x1), (2, .int x2), (3, .int x3), (5, .int x5)]) hc dX9_slipOf_155 (by decide) rfl ?_
  exact x_sub (S_Mo_slipOf_L14_J157 hc hSH x1 x2 x3 s0 x5 M h kr ke kb) [1, 2, 3, 4, 0, 5] rfl

def Mo_slipOf_L14_J104 (x1 : Int32) (x2 : Int32) (x3 : Int32) (x5 : Int32) (M : QM) : Option (((Int32 × QM) ⊕ (Int32 × QM)) ⊕ (Int32 × Int32 × QM)) :=
  ck (inb (M.1 0 27) 101) (ck (inb ((u_i M 17 (M.1 0 27).toNatClampNeg x3).1 0 27) 101) ((if x3 = (123 : Int32) then Mo_slipOf_L14_J155 x1 x2 x3 x5 (2 : Int32) (u_i (u_i (u_i M 17 (M.1 0 27).toNatClampNeg x3) 18 ((u_i M 17 (M.1 0 27).toNatClampNeg x3).1 0 27).toNatClampNeg (-1 : Int32)) 0 27 (((u_i (u_i M 17 (M.1 0 27).toNatClampNeg x3) 18 ((u_i M 17 (M.1 0 27).toNatClampNeg x3).1 0 27).toNatClampNeg (-1 : Int32)).1 0 27) + (1 : Int32))) else (if x3 = (91 : Int32) then Mo_slipOf_L14_J155 x1 x2 x3 x5 (3 : Int32) (u_i (u_i (u_i M 17 (M.1 0 27).toNatClampNeg x3) 18 ((u_i M 17 (M.1 0 27).toNatClampNeg x3).1 0 27).toNatClampNeg (-1 : Int32)) 0 27 (((u_i (u_i M 17 (M.1 0 27).toNatClampNeg x3) 18 ((u_i M 17 (M.1 0 27).toNatClampNeg x3).1 0 27).toNatClampNeg (-1 : Int32)).1 0 27) + (1 : Int32))) else Mo_slipOf_L14_J155 x1 x2 x3 x5 (5 : Int32) (u_i (u_i (u_i M 17 (M.1 0 27).toNatClampNeg x3) 18 ((u_i M 17 (M.1 0 27).toNatClampNeg x3).1 0 27).toNatClampNeg (-1 : Int32)) 0 27 (((u_i (u_i M 17 (M.1 0 27).toNatClampNeg x3) 18 ((u_i M 17 (M.1 0 27).toNatClampNeg x3).1 0 27).toNatClampNeg (-1 : Int32)).1 0 27) + (1 : Int32)))))))

set_option maxRecDepth 20000 in
set_option maxHeartbeats 2000000 in
theorem S_Mo_slipOf_L14_J104 {C : QC} (hc : OKX C RX9 cX9_slipOf 6 1 (some .int)) (hSH : q_SH C = SHM) (x1 : Int32) (x2 : Int32) (x3 : Int32) (x5 : Int32) (M : QM) {res : ((Int32 × QM) ⊕ (Int32 × QM)) ⊕ (Int32 × Int32 × QM)} (h : Mo_slipOf_L14_J104 x1 x2 x3 x5 M = some res) (kr : ∀ x : Int32 × QM, res = .inl (.inl x) → q_r C = some (.int x.1) ∧ q_M C = x.2) (ke : ∀ x : Int32 × QM, res = .inl (.inr x) → WX C 6 430 [(0, .ref 0), (1, .int x.1)] [] x.2) (kb : ∀ x : Int32 × Int32 × QM, res = .inr x → WX C 6 14 [(0, .ref 0), (1, .int x.1), (2, .int x.2.1)] [] x.2.2) : WX C 6 104 [(0, .ref 0), (1, .int x1), (2, .int x2), (3, .int x3), (5, .int x5)] [] M := by
  unfold Mo_slipOf_L14_J104 at h
  refine x_aload_n hc dX9_slipOf_104 rfl 0 rfl ?_
  refine x_getR hc dX9_slipOf_105 fl_RX9_59 (q_s hSH sm_0) rfl ?_
  refine x_aload_n hc dX9_slipOf_108 rfl 0 rfl ?_
  refine x_getI hc dX9_slipOf_109 fl_RX9_172 (q_s hSH sm_0) rfl ?_
  refine x_iload_n hc dX9_slipOf_112 rfl 3 rfl ?_
  obtain ⟨b5, h⟩ := ck_some h
  refine x_iast hc dX9_slipOf_113 (q_s hSH sm_17) (inb_in b5) ?_
  refine x_aload_n hc dX9_slipOf_114 rfl 0 rfl ?_
  refine x_getR hc dX9_slipOf_115 fl_RX9_62 (q_s hSH sm_0) rfl ?_
  refine x_aload_n hc dX9_slipOf_118 rfl 0 rfl ?_
  refine x_getI hc dX9_slipOf_119 fl_RX9_172 (q_s hSH sm_0) rfl ?_
  refine x_iconst hc dX9_slipOf_122 kc_m1 ?_
  obtain ⟨b6, h⟩ := ck_some h
  refine x_iast hc dX9_slipOf_123 (q_s hSH sm_18) (inb_in b6) ?_
  refine x_aload_n hc dX9_slipOf_124 rfl 0 rfl ?_
  refine x_dup hc dX9_slipOf_125 rfl ?_
  refine x_getI hc dX9_slipOf_126 fl_RX9_172 (q_s hSH sm_0) rfl ?_
  refine x_iconst hc dX9_slipOf_129 kc_1 ?_
  refine x_iadd hc dX9_slipOf_130 ?_
  refine x_putI hc dX9_slipOf_131 fl_RX9_172 (fw_9_27 _) (q_s hSH sm_0) rfl ?_
  refine x_iload_n hc dX9_slipOf_134 rfl 3 rfl ?_
  refine x_bipush hc dX9_slipOf_135 kb_123 ?_
  refine x_icmp_ne (tgt := 144) hc dX9_slipOf_137 (by decide) (fun hb => ?_) (fun hb => ?_)
  · have h := ite_f hb h
    refine x_iload_n hc dX9_slipOf_144 rfl 3 rfl ?_
    refine x_bipush hc dX9_slipOf_145 kb_91 ?_
    refine x_icmp_ne (tgt := 154) hc dX9_slipOf_147 (by decide) (fun hb => ?_) (fun hb => ?_)
    · have h := ite_f hb h
      refine x_iconst hc dX9_slipOf_154 kc_5 ?_
      exact x_sub (S_Mo_slipOf_L14_J155 hc hSH x1 x2 x3 x5 (5 : Int32) (u_i (u_i (u_i M 17 (M.1 0 27).toNatClampNeg x3) 18 ((u_i M 17 (M.1 0 27).toNatClampNeg x3).1 0 27).toNatClampNeg (-1 : Int32)) 0 27 (((u_i (u_i M 17 (M.1 0 27).toNatClampNeg x3) 18 ((u_i M 17 (M.1 0 27).toNatClampNeg x3).1 0 27).toNatClampNeg (-1 : Int32)).1 0 27) + (1 : Int32))) h kr ke kb) [0, 1, 2, 3, 4] rfl
    · have h := ite_t hb h
      refine x_iconst hc dX9_slipOf_150 kc_3 ?_
      refine x_goto (tgt := 155) hc dX9_slipOf_151 (by decide) ?_
      exact x_sub (S_Mo_slipOf_L14_J155 hc hSH x1 x2 x3 x5 (3 : Int32) (u_i (u_i (u_i M 17 (M.1 0 27).toNatClampNeg x3) 18 ((u_i M 17 (M.1 0 27).toNatClampNeg x3).1 0 27).toNatClampNeg (-1 : Int32)) 0 27 (((u_i (u_i M 17 (M.1 0 27).toNatClampNeg x3) 18 ((u_i M 17 (M.1 0 27).toNatClampNeg x3).1 0 27).toNatClampNeg (-1 : Int32)).1 0 27) + (1 : Int32))) h kr ke kb) [0, 1, 2, 3, 4] rfl
  · have h := ite_t hb h
    refine x_iconst hc dX9_slipOf_140 kc_2 ?_
    refine x_goto (tgt := 155) hc dX9_slipOf_141 (by decide) ?_
    exact x_sub (S_Mo_slipOf_L14_J155 hc hSH x1 x2 x3 x5 (2 : Int32) (u_i (u_i (u_i M 17 (M.1 0 27).toNatClampNeg x3) 18 ((u_i M 17 (M.1 0 27).toNatClampNeg x3).1 0 27).toNatClampNeg (-1 : Int32)) 0 27 (((u_i (u_i M 17 (M.1 0 27).toNatClampNeg x3) 18 ((u_i M 17 (M.1 0 27).toNatClampNeg x3).1 0 27).toNatClampNeg (-1 : Int32)).1 0 27) + (1 : Int32))) h kr ke kb) [0, 1, 2, 3, 4] rfl

def Mo_slipOf_L14_J45 (x1 : Int32) (x2 : Int32) (x3 : Int32) (x4 : Int32) (x5 : Int32) (M : QM) : Option (((Int32 × QM) ⊕ (Int32 × QM)) ⊕ (Int32 × Int32 × QM)) :=
  Option.bind (Mo_in x3 (48 : Int32) (57 : Int32) M) (fun q2 => (if q2 = 0 then (if x3 = (84 : Int32) then Mo_slipOf_L14_J68 x1 x2 x3 x4 M else (if x3 = (70 : Int32) then Mo_slipOf_L14_J68 x1 x2 x3 x4 M else (if x3 = (36 : Int32) then Mo_slipOf_L14_J157 x1 x2 x3 (1 : Int32) x5 M else (if x3 = (123 : Int32) then Mo_slipOf_L14_J104 x1 x2 x3 x5 M else (if x3 = (91 : Int32) then Mo_slipOf_L14_J104 x1 x2 x3 x5 M else (if x3 = (40 : Int32) then Mo_slipOf_L14_J104 x1 x2 x3 x5 M else Mo_slipOf_L14_J157 x1 x2 x3 x4 x5 M)))))) else Mo_slipOf_L14_J68 x1 x2 x3 x4 M))

set_option maxRecDepth 20000 in
set_option maxHeartbeats 2000000 in
theorem S_Mo_slipOf_L14_J45 {C : QC} (hc : OKX C RX9 cX9_slipOf 6 1 (some .int)) (hSH : q_SH C = SHM) (x1 : Int32) (x2 : Int32) (x3 : Int32) (x4 : Int32) (x5 : Int32) (M : QM) {res : ((Int32 × QM) ⊕ (Int32 × QM)) ⊕ (Int32 × Int32 × QM)} (h : Mo_slipOf_L14_J45 x1 x2 x3 x4 x5 M = some res) (kr : ∀ x : Int32 × QM, res = .inl (.inl x) → q_r C = some (.int x.1) ∧ q_M C = x.2) (ke : ∀ x : Int32 × QM, res = .inl (.inr x) → WX C 6 430 [(0, .ref 0), (1, .int x.1)] [] x.2) (kb : ∀ x : Int32 × Int32 × QM, res = .inr x → WX C 6 14 [(0, .ref 0), (1, .int x.1), (2, .int x.2.1)] [] x.2.2) : WX C 6 45 [(0, .ref 0), (1, .int x1), (2, .int x2), (3, .int x3), (4, .int x4), (5, .int x5)] [] M := by
  unfold Mo_slipOf_L14_J45 at h
  refine x_iload_n hc dX9_slipOf_45 rfl 3 rfl ?_
  refine x_bipush hc dX9_slipOf_46 kb_48 ?_
  refine x_bipush hc dX9_slipOf_48 kb_57 ?_
  obtain ⟨q2, h2, h⟩ := bd_some h
  refine x_callSi (As := [.int x3, .int (48 : Int32), .int (57 : Int32)]) (st := []) hc dX9_slipOf_50 cs_X9_in lk_RX9_84 rfl (q_cn hSH (S_Mo_in h2)) (by decide) (Nat.le_of_ble_eq_true rfl) ?_
  refine x_if_ne (tgt := 68) hc dX9_slipOf_53 (by decide) (fun hb => ?_) (fun hb => ?_)
  · have h := ite_f hb h
    exact x_sub (S_Mo_slipOf_L14_J68 hc hSH x1 x2 x3 x4 M h kr ke kb) [0, 1, 2, 3, 4] rfl
  · have h := ite_t hb h
    refine x_iload_n hc dX9_slipOf_56 rfl 3 rfl ?_
    refine x_bipush hc dX9_slipOf_57 kb_84 ?_
    refine x_icmp_eq (tgt := 68) hc dX9_slipOf_59 (by decide) (fun hb => ?_) (fun hb => ?_)
    · have h := ite_t hb h
      exact x_sub (S_Mo_slipOf_L14_J68 hc hSH x1 x2 x3 x4 M h kr ke kb) [0, 1, 2, 3, 4] rfl
    · have h := ite_f hb h
      refine x_iload_n hc dX9_slipOf_62 rfl 3 rfl ?_
      refine x_bipush hc dX9_slipOf_63 kb_70 ?_
      refine x_icmp_ne (tgt := 74) hc dX9_slipOf_65 (by decide) (fun hb => ?_) (fun hb => ?_)
      · have h := ite_f hb h
        refine x_iload_n hc dX9_slipOf_74 rfl 3 rfl ?_
        refine x_bipush hc dX9_slipOf_75 kb_36 ?_
        refine x_icmp_ne (tgt := 86) hc dX9_slipOf_77 (by decide) (fun hb => ?_) (fun hb => ?_)
        · have h := ite_f hb h
          refine x_iload_n hc dX9_slipOf_86 rfl 3 rfl ?_
          refine x_bipush hc dX9_slipOf_87 kb_123 ?_
          refine x_icmp_eq (tgt := 104) hc dX9_slipOf_89 (by decide) (fun hb => ?_) (fun hb => ?_)
          · have h := ite_t hb h
            exact x_sub (S_Mo_slipOf_L14_J104 hc hSH x1 x2 x3 x5 M h kr ke kb) [0, 1, 2, 3, 5] rfl
          · have h := ite_f hb h
            refine x_iload_n hc dX9_slipOf_92 rfl 3 rfl ?_
            refine x_bipush hc dX9_slipOf_93 kb_91 ?_
            refine x_icmp_eq (tgt := 104) hc dX9_slipOf_95 (by decide) (fun hb => ?_) (fun hb => ?_)
            · have h := ite_t hb h
              exact x_sub (S_Mo_slipOf_L14_J104 hc hSH x1 x2 x3 x5 M h kr ke kb) [0, 1, 2, 3, 5] rfl
            · have h := ite_f hb h
              refine x_iload_n hc dX9_slipOf_98 rfl 3 rfl ?_
              refine x_bipush hc dX9_slipOf_99 kb_40 ?_
              refine x_icmp_ne (tgt := 157) hc dX9_slipOf_101 (by decide) (fun hb => ?_) (fun hb => ?_)
              · have h := ite_f hb h
                exact x_sub (S_Mo_slipOf_L14_J157 hc hSH x1 x2 x3 x4 x5 M h kr ke kb) [0, 1, 2, 3, 4, 5] rfl
              · have h := ite_t hb h
                exact x_sub (S_Mo_slipOf_L14_J104 hc hSH x1 x2 x3 x5 M h kr ke kb) [0, 1, 2, 3, 5] rfl
        · have h := ite_t hb h
          refine x_iconst hc dX9_slipOf_80 kc_1 ?_
          refine x_istore (L2 := [(4, .int (1 : Int32)), (0, .ref 0), (1, .int x1), (2, .int x2), (3, .int x3), (5, .int x5)]) hc dX9_slipOf_81 (by decide) rfl ?_
          refine x_goto (tgt := 157) hc dX9_slipOf_83 (by decide) ?_
          exact x_sub (S_Mo_slipOf_L14_J157 hc hSH x1 x2 x3 (1 : Int32) x5 M h kr ke kb) [1, 2, 3, 4, 0, 5] rfl
      · have h := ite_t hb h
        exact x_sub (S_Mo_slipOf_L14_J68 hc hSH x1 x2 x3 x4 M h kr ke kb) [0, 1, 2, 3, 4] rfl

def Mo_slipOf_L14_J325 (x2 : Int32) (x5 : Int32) (s0 : Int32) (M : QM) : Option (((Int32 × QM) ⊕ (Int32 × QM)) ⊕ (Int32 × Int32 × QM)) :=
  Mo_slipOf_L14_J354 x2 s0 x5 M

set_option maxRecDepth 20000 in
set_option maxHeartbeats 2000000 in
theorem S_Mo_slipOf_L14_J325 {C : QC} (hc : OKX C RX9 cX9_slipOf 6 1 (some .int)) (hSH : q_SH C = SHM) (x2 : Int32) (x5 : Int32) (s0 : Int32) (M : QM) {res : ((Int32 × QM) ⊕ (Int32 × QM)) ⊕ (Int32 × Int32 × QM)} (h : Mo_slipOf_L14_J325 x2 x5 s0 M = some res) (kr : ∀ x : Int32 × QM, res = .inl (.inl x) → q_r C = some (.int x.1) ∧ q_M C = x.2) (ke : ∀ x : Int32 × QM, res = .inl (.inr x) → WX C 6 430 [(0, .ref 0), (1, .int x.1)] [] x.2) (kb : ∀ x : Int32 × Int32 × QM, res = .inr x → WX C 6 14 [(0, .ref 0), (1, .int x.1), (2, .int x.2.1)] [] x.2.2) : WX C 6 325 [(0, .ref 0), (2, .int x2), (5, .int x5)] [.int s0] M := by
  unfold Mo_slipOf_L14_J325 at h
  refine x_istore (L2 := [(4, .int s0), (0, .ref 0), (2, .int x2), (5, .int x5)]) hc dX9_slipOf_325 (by decide) rfl ?_
  refine x_goto (tgt := 354) hc dX9_slipOf_327 (by decide) ?_
  exact x_sub (S_Mo_slipOf_L14_J354 hc hSH x2 s0 x5 M h kr ke kb) [1, 2, 0, 3] rfl

def Mo_slipOf_L14_J281 (x2 : Int32) (x3 : Int32) (x4 : Int32) (x5 : Int32) (M : QM) : Option (((Int32 × QM) ⊕ (Int32 × QM)) ⊕ (Int32 × Int32 × QM)) :=
  (if x3 = (125 : Int32) then Mo_slipOf_L14_J354 x2 x4 (1 : Int32) (u_i M 0 27 ((M.1 0 27) - (1 : Int32))) else Mo_slipOf_L14_J354 x2 x4 x5 M)

set_option maxRecDepth 20000 in
set_option maxHeartbeats 2000000 in
theorem S_Mo_slipOf_L14_J281 {C : QC} (hc : OKX C RX9 cX9_slipOf 6 1 (some .int)) (hSH : q_SH C = SHM) (x2 : Int32) (x3 : Int32) (x4 : Int32) (x5 : Int32) (M : QM) {res : ((Int32 × QM) ⊕ (Int32 × QM)) ⊕ (Int32 × Int32 × QM)} (h : Mo_slipOf_L14_J281 x2 x3 x4 x5 M = some res) (kr : ∀ x : Int32 × QM, res = .inl (.inl x) → q_r C = some (.int x.1) ∧ q_M C = x.2) (ke : ∀ x : Int32 × QM, res = .inl (.inr x) → WX C 6 430 [(0, .ref 0), (1, .int x.1)] [] x.2) (kb : ∀ x : Int32 × Int32 × QM, res = .inr x → WX C 6 14 [(0, .ref 0), (1, .int x.1), (2, .int x.2.1)] [] x.2.2) : WX C 6 281 [(0, .ref 0), (2, .int x2), (3, .int x3), (4, .int x4), (5, .int x5)] [] M := by
  unfold Mo_slipOf_L14_J281 at h
  refine x_iload_n hc dX9_slipOf_281 rfl 2 rfl ?_
  refine x_bipush hc dX9_slipOf_282 kb_125 ?_
  refine x_icmp_ne (tgt := 354) hc dX9_slipOf_284 (by decide) (fun hb => ?_) (fun hb => ?_)
  · have h := ite_f hb h
    exact x_sub (S_Mo_slipOf_L14_J354 hc hSH x2 x4 x5 M h kr ke kb) [0, 1, 3, 4] rfl
  · have h := ite_t hb h
    refine x_aload_n hc dX9_slipOf_287 rfl 0 rfl ?_
    refine x_dup hc dX9_slipOf_288 rfl ?_
    refine x_getI hc dX9_slipOf_289 fl_RX9_172 (q_s hSH sm_0) rfl ?_
    refine x_iconst hc dX9_slipOf_292 kc_1 ?_
    refine x_isub hc dX9_slipOf_293 ?_
    refine x_putI hc dX9_slipOf_294 fl_RX9_172 (fw_9_27 _) (q_s hSH sm_0) rfl ?_
    refine x_iconst hc dX9_slipOf_297 kc_1 ?_
    refine x_istore (L2 := [(5, .int (1 : Int32)), (0, .ref 0), (2, .int x2), (3, .int x3), (4, .int x4)]) hc dX9_slipOf_298 (by decide) rfl ?_
    refine x_goto (tgt := 354) hc dX9_slipOf_300 (by decide) ?_
    exact x_sub (S_Mo_slipOf_L14_J354 hc hSH x2 x4 (1 : Int32) (u_i M 0 27 ((M.1 0 27) - (1 : Int32))) h kr ke kb) [1, 2, 4, 0] rfl

def Mo_slipOf_B14 (v : Int32 × Int32 × QM) : Option (((Int32 × QM) ⊕ (Int32 × QM)) ⊕ (Int32 × Int32 × QM)) :=
  (if (v.2.2.1 0 0) ≤ v.2.1 then some (.inl (.inr (v.1, v.2.2))) else ck (inb v.2.1 100) ((if v.1 = 0 then Mo_slipOf_L14_J45 v.1 v.2.1 (v.2.2.1 1 v.2.1.toNatClampNeg) (-6 : Int32) (0 : Int32) v.2.2 else (if v.1 = (5 : Int32) then Mo_slipOf_L14_J45 v.1 v.2.1 (v.2.2.1 1 v.2.1.toNatClampNeg) (-6 : Int32) (0 : Int32) v.2.2 else (if v.1 = (1 : Int32) then Option.bind (Mo_in (v.2.2.1 1 v.2.1.toNatClampNeg) (97 : Int32) (122 : Int32) v.2.2) (fun q11 => Mo_slipOf_L14_J354 v.2.1 (-6 : Int32) q11 v.2.2) else (if v.1 = (2 : Int32) then Option.bind (Mo_in (v.2.2.1 1 v.2.1.toNatClampNeg) (97 : Int32) (104 : Int32) v.2.2) (fun q8 => (if q8 = 0 then Mo_slipOf_L14_J281 v.2.1 (v.2.2.1 1 v.2.1.toNatClampNeg) (-6 : Int32) (0 : Int32) v.2.2 else ck (inb ((v.2.2.1 0 27) - (1 : Int32)) 101) ((if ((v.2.2.1 1 v.2.1.toNatClampNeg) - (97 : Int32)) ≤ (v.2.2.1 18 ((v.2.2.1 0 27) - (1 : Int32)).toNatClampNeg) then Mo_slipOf_L14_J281 v.2.1 (v.2.2.1 1 v.2.1.toNatClampNeg) (-6 : Int32) (0 : Int32) v.2.2 else ck (inb ((v.2.2.1 0 27) - (1 : Int32)) 101) (Mo_slipOf_L14_J354 v.2.1 (0 : Int32) (0 : Int32) (u_i v.2.2 18 ((v.2.2.1 0 27) - (1 : Int32)).toNatClampNeg ((v.2.2.1 1 v.2.1.toNatClampNeg) - (97 : Int32)))))))) else (if v.1 = (3 : Int32) then Option.bind (Mo_in (v.2.2.1 1 v.2.1.toNatClampNeg) (97 : Int32) (104 : Int32) v.2.2) (fun q7 => (if q7 = 0 then Mo_slipOf_L14_J325 v.2.1 (0 : Int32) (-6 : Int32) v.2.2 else Mo_slipOf_L14_J325 v.2.1 (0 : Int32) (0 : Int32) v.2.2)) else (if v.1 = (4 : Int32) then (if (v.2.2.1 1 v.2.1.toNatClampNeg) = (93 : Int32) then Mo_slipOf_L14_J354 v.2.1 (-6 : Int32) (1 : Int32) (u_i v.2.2 0 27 ((v.2.2.1 0 27) - (1 : Int32))) else Mo_slipOf_L14_J354 v.2.1 (-6 : Int32) (0 : Int32) v.2.2) else Mo_slipOf_L14_J354 v.2.1 (-6 : Int32) (0 : Int32) v.2.2))))))))

set_option maxRecDepth 20000 in
set_option maxHeartbeats 2000000 in
theorem S_Mo_slipOf_B14 {C : QC} (hc : OKX C RX9 cX9_slipOf 6 1 (some .int)) (hSH : q_SH C = SHM) (v : Int32 × Int32 × QM) {res : ((Int32 × QM) ⊕ (Int32 × QM)) ⊕ (Int32 × Int32 × QM)} (h : Mo_slipOf_B14 v = some res) (kr : ∀ x : Int32 × QM, res = .inl (.inl x) → q_r C = some (.int x.1) ∧ q_M C = x.2) (ke : ∀ x : Int32 × QM, res = .inl (.inr x) → WX C 6 430 [(0, .ref 0), (1, .int x.1)] [] x.2) (kb : ∀ x : Int32 × Int32 × QM, res = .inr x → WX C 6 14 [(0, .ref 0), (1, .int x.1), (2, .int x.2.1)] [] x.2.2) : WX C 6 14 [(0, .ref 0), (1, .int v.1), (2, .int v.2.1)] [] v.2.2 := by
  unfold Mo_slipOf_B14 at h
  refine x_iload_n hc dX9_slipOf_14 rfl 2 rfl ?_
  refine x_aload_n hc dX9_slipOf_15 rfl 0 rfl ?_
  refine x_getI hc dX9_slipOf_16 fl_RX9_88 (q_s hSH sm_0) rfl ?_
  refine x_icmp_ge (tgt := 430) hc dX9_slipOf_19 (by decide) (fun hb => ?_) (fun hb => ?_)
  · have h := ite_t hb h
    cases h
    exact x_sub (ke (v.1, v.2.2) rfl) [0, 1] rfl
  · have h := ite_f hb h
    refine x_aload_n hc dX9_slipOf_22 rfl 0 rfl ?_
    refine x_getR hc dX9_slipOf_23 fl_RX9_7 (q_s hSH sm_0) rfl ?_
    refine x_iload_n hc dX9_slipOf_26 rfl 2 rfl ?_
    obtain ⟨b1, h⟩ := ck_some h
    refine x_iald hc dX9_slipOf_27 (q_s hSH sm_1) (inb_in b1) ?_
    refine x_istore_n (L2 := [(3, .int (v.2.2.1 1 v.2.1.toNatClampNeg)), (0, .ref 0), (1, .int v.1), (2, .int v.2.1)]) hc dX9_slipOf_28 rfl (by decide) rfl ?_
    refine x_bipush hc dX9_slipOf_29 kb_m6 ?_
    refine x_istore (L2 := [(4, .int (-6 : Int32)), (3, .int (v.2.2.1 1 v.2.1.toNatClampNeg)), (0, .ref 0), (1, .int v.1), (2, .int v.2.1)]) hc dX9_slipOf_31 (by decide) rfl ?_
    refine x_iconst hc dX9_slipOf_33 kc_0 ?_
    refine x_istore (L2 := [(5, .int (0 : Int32)), (4, .int (-6 : Int32)), (3, .int (v.2.2.1 1 v.2.1.toNatClampNeg)), (0, .ref 0), (1, .int v.1), (2, .int v.2.1)]) hc dX9_slipOf_34 (by decide) rfl ?_
    refine x_iload_n hc dX9_slipOf_36 rfl 4 rfl ?_
    refine x_if_eq (tgt := 45) hc dX9_slipOf_37 (by decide) (fun hb => ?_) (fun hb => ?_)
    · have h := ite_t hb h
      exact x_sub (S_Mo_slipOf_L14_J45 hc hSH v.1 v.2.1 (v.2.2.1 1 v.2.1.toNatClampNeg) (-6 : Int32) (0 : Int32) v.2.2 h kr ke kb) [3, 4, 5, 2, 1, 0] rfl
    · have h := ite_f hb h
      refine x_iload_n hc dX9_slipOf_40 rfl 4 rfl ?_
      refine x_iconst hc dX9_slipOf_41 kc_5 ?_
      refine x_icmp_ne (tgt := 208) hc dX9_slipOf_42 (by decide) (fun hb => ?_) (fun hb => ?_)
      · have h := ite_f hb h
        refine x_iload_n hc dX9_slipOf_208 rfl 4 rfl ?_
        refine x_iconst hc dX9_slipOf_209 kc_1 ?_
        refine x_icmp_ne (tgt := 226) hc dX9_slipOf_210 (by decide) (fun hb => ?_) (fun hb => ?_)
        · have h := ite_f hb h
          refine x_iload_n hc dX9_slipOf_226 rfl 4 rfl ?_
          refine x_iconst hc dX9_slipOf_227 kc_2 ?_
          refine x_icmp_ne (tgt := 303) hc dX9_slipOf_228 (by decide) (fun hb => ?_) (fun hb => ?_)
          · have h := ite_f hb h
            refine x_iload_n hc dX9_slipOf_303 rfl 4 rfl ?_
            refine x_iconst hc dX9_slipOf_304 kc_3 ?_
            refine x_icmp_ne (tgt := 330) hc dX9_slipOf_305 (by decide) (fun hb => ?_) (fun hb => ?_)
            · have h := ite_f hb h
              refine x_iload_n hc dX9_slipOf_330 rfl 4 rfl ?_
              refine x_iconst hc dX9_slipOf_331 kc_4 ?_
              refine x_icmp_ne (tgt := 354) hc dX9_slipOf_332 (by decide) (fun hb => ?_) (fun hb => ?_)
              · have h := ite_f hb h
                exact x_sub (S_Mo_slipOf_L14_J354 hc hSH v.2.1 (-6 : Int32) (0 : Int32) v.2.2 h kr ke kb) [3, 5, 1, 0] rfl
              · have h := ite_t hb h
                refine x_iload_n hc dX9_slipOf_335 rfl 2 rfl ?_
                refine x_bipush hc dX9_slipOf_336 kb_93 ?_
                refine x_icmp_ne (tgt := 354) hc dX9_slipOf_338 (by decide) (fun hb => ?_) (fun hb => ?_)
                · have h := ite_f hb h
                  exact x_sub (S_Mo_slipOf_L14_J354 hc hSH v.2.1 (-6 : Int32) (0 : Int32) v.2.2 h kr ke kb) [3, 5, 1, 0] rfl
                · have h := ite_t hb h
                  refine x_aload_n hc dX9_slipOf_341 rfl 3 rfl ?_
                  refine x_dup hc dX9_slipOf_342 rfl ?_
                  refine x_getI hc dX9_slipOf_343 fl_RX9_172 (q_s hSH sm_0) rfl ?_
                  refine x_iconst hc dX9_slipOf_346 kc_1 ?_
                  refine x_isub hc dX9_slipOf_347 ?_
                  refine x_putI hc dX9_slipOf_348 fl_RX9_172 (fw_9_27 _) (q_s hSH sm_0) rfl ?_
                  refine x_iconst hc dX9_slipOf_351 kc_1 ?_
                  refine x_istore (L2 := [(5, .int (1 : Int32)), (4, .int (-6 : Int32)), (3, .int (v.2.2.1 1 v.2.1.toNatClampNeg)), (0, .ref 0), (1, .int v.1), (2, .int v.2.1)]) hc dX9_slipOf_352 (by decide) rfl ?_
                  exact x_sub (S_Mo_slipOf_L14_J354 hc hSH v.2.1 (-6 : Int32) (1 : Int32) (u_i v.2.2 0 27 ((v.2.2.1 0 27) - (1 : Int32))) h kr ke kb) [3, 5, 1, 0] rfl
            · have h := ite_t hb h
              refine x_iload_n hc dX9_slipOf_308 rfl 2 rfl ?_
              refine x_bipush hc dX9_slipOf_309 kb_97 ?_
              refine x_bipush hc dX9_slipOf_311 kb_104 ?_
              obtain ⟨q7, h7, h⟩ := bd_some h
              refine x_callSi (As := [.int (v.2.2.1 1 v.2.1.toNatClampNeg), .int (97 : Int32), .int (104 : Int32)]) (st := []) hc dX9_slipOf_313 cs_X9_in lk_RX9_84 rfl (q_cn hSH (S_Mo_in h7)) (by decide) (Nat.le_of_ble_eq_true rfl) ?_
              refine x_if_eq (tgt := 323) hc dX9_slipOf_316 (by decide) (fun hb => ?_) (fun hb => ?_)
              · have h := ite_t hb h
                refine x_bipush hc dX9_slipOf_323 kb_m6 ?_
                exact x_sub (S_Mo_slipOf_L14_J325 hc hSH v.2.1 (0 : Int32) (-6 : Int32) v.2.2 h kr ke kb) [3, 5, 0] rfl
              · have h := ite_f hb h
                refine x_iconst hc dX9_slipOf_319 kc_0 ?_
                refine x_goto (tgt := 325) hc dX9_slipOf_320 (by decide) ?_
                exact x_sub (S_Mo_slipOf_L14_J325 hc hSH v.2.1 (0 : Int32) (0 : Int32) v.2.2 h kr ke kb) [3, 5, 0] rfl
          · have h := ite_t hb h
            refine x_iload_n hc dX9_slipOf_231 rfl 2 rfl ?_
            refine x_bipush hc dX9_slipOf_232 kb_97 ?_
            refine x_bipush hc dX9_slipOf_234 kb_104 ?_
            obtain ⟨q8, h8, h⟩ := bd_some h
            refine x_callSi (As := [.int (v.2.2.1 1 v.2.1.toNatClampNeg), .int (97 : Int32), .int (104 : Int32)]) (st := []) hc dX9_slipOf_236 cs_X9_in lk_RX9_84 rfl (q_cn hSH (S_Mo_in h8)) (by decide) (Nat.le_of_ble_eq_true rfl) ?_
            refine x_if_eq (tgt := 281) hc dX9_slipOf_239 (by decide) (fun hb => ?_) (fun hb => ?_)
            · have h := ite_t hb h
              exact x_sub (S_Mo_slipOf_L14_J281 hc hSH v.2.1 (v.2.2.1 1 v.2.1.toNatClampNeg) (-6 : Int32) (0 : Int32) v.2.2 h kr ke kb) [3, 5, 2, 1, 0] rfl
            · have h := ite_f hb h
              refine x_iload_n hc dX9_slipOf_242 rfl 2 rfl ?_
              refine x_bipush hc dX9_slipOf_243 kb_97 ?_
              refine x_isub hc dX9_slipOf_245 ?_
              refine x_aload_n hc dX9_slipOf_246 rfl 3 rfl ?_
              refine x_getR hc dX9_slipOf_247 fl_RX9_62 (q_s hSH sm_0) rfl ?_
              refine x_aload_n hc dX9_slipOf_250 rfl 3 rfl ?_
              refine x_getI hc dX9_slipOf_251 fl_RX9_172 (q_s hSH sm_0) rfl ?_
              refine x_iconst hc dX9_slipOf_254 kc_1 ?_
              refine x_isub hc dX9_slipOf_255 ?_
              obtain ⟨b9, h⟩ := ck_some h
              refine x_iald hc dX9_slipOf_256 (q_s hSH sm_18) (inb_in b9) ?_
              refine x_icmp_le (tgt := 281) hc dX9_slipOf_257 (by decide) (fun hb => ?_) (fun hb => ?_)
              · have h := ite_t hb h
                exact x_sub (S_Mo_slipOf_L14_J281 hc hSH v.2.1 (v.2.2.1 1 v.2.1.toNatClampNeg) (-6 : Int32) (0 : Int32) v.2.2 h kr ke kb) [3, 5, 2, 1, 0] rfl
              · have h := ite_f hb h
                refine x_aload_n hc dX9_slipOf_260 rfl 3 rfl ?_
                refine x_getR hc dX9_slipOf_261 fl_RX9_62 (q_s hSH sm_0) rfl ?_
                refine x_aload_n hc dX9_slipOf_264 rfl 3 rfl ?_
                refine x_getI hc dX9_slipOf_265 fl_RX9_172 (q_s hSH sm_0) rfl ?_
                refine x_iconst hc dX9_slipOf_268 kc_1 ?_
                refine x_isub hc dX9_slipOf_269 ?_
                refine x_iload_n hc dX9_slipOf_270 rfl 2 rfl ?_
                refine x_bipush hc dX9_slipOf_271 kb_97 ?_
                refine x_isub hc dX9_slipOf_273 ?_
                obtain ⟨b10, h⟩ := ck_some h
                refine x_iast hc dX9_slipOf_274 (q_s hSH sm_18) (inb_in b10) ?_
                refine x_iconst hc dX9_slipOf_275 kc_0 ?_
                refine x_istore (L2 := [(4, .int (0 : Int32)), (5, .int (0 : Int32)), (3, .int (v.2.2.1 1 v.2.1.toNatClampNeg)), (0, .ref 0), (1, .int v.1), (2, .int v.2.1)]) hc dX9_slipOf_276 (by decide) rfl ?_
                refine x_goto (tgt := 354) hc dX9_slipOf_278 (by decide) ?_
                exact x_sub (S_Mo_slipOf_L14_J354 hc hSH v.2.1 (0 : Int32) (0 : Int32) (u_i v.2.2 18 ((v.2.2.1 0 27) - (1 : Int32)).toNatClampNeg ((v.2.2.1 1 v.2.1.toNatClampNeg) - (97 : Int32))) h kr ke kb) [3, 5, 0, 1] rfl
        · have h := ite_t hb h
          refine x_iload_n hc dX9_slipOf_213 rfl 2 rfl ?_
          refine x_bipush hc dX9_slipOf_214 kb_97 ?_
          refine x_bipush hc dX9_slipOf_216 kb_122 ?_
          obtain ⟨q11, h11, h⟩ := bd_some h
          refine x_callSi (As := [.int (v.2.2.1 1 v.2.1.toNatClampNeg), .int (97 : Int32), .int (122 : Int32)]) (st := []) hc dX9_slipOf_218 cs_X9_in lk_RX9_84 rfl (q_cn hSH (S_Mo_in h11)) (by decide) (Nat.le_of_ble_eq_true rfl) ?_
          refine x_istore (L2 := [(5, .int q11), (4, .int (-6 : Int32)), (3, .int (v.2.2.1 1 v.2.1.toNatClampNeg)), (0, .ref 0), (1, .int v.1), (2, .int v.2.1)]) hc dX9_slipOf_221 (by decide) rfl ?_
          refine x_goto (tgt := 354) hc dX9_slipOf_223 (by decide) ?_
          exact x_sub (S_Mo_slipOf_L14_J354 hc hSH v.2.1 (-6 : Int32) q11 v.2.2 h kr ke kb) [3, 5, 1, 0] rfl
      · have h := ite_t hb h
        exact x_sub (S_Mo_slipOf_L14_J45 hc hSH v.1 v.2.1 (v.2.2.1 1 v.2.1.toNatClampNeg) (-6 : Int32) (0 : Int32) v.2.2 h kr ke kb) [3, 4, 5, 2, 1, 0] rfl

theorem S_Mo_slipOf_L14 {C : QC} (hc : OKX C RX9 cX9_slipOf 6 1 (some .int)) (hSH : q_SH C = SHM) {n : Nat} {v : Int32 × Int32 × QM} {e : (Int32 × QM) ⊕ (Int32 × QM)} (h : iter (Mo_slipOf_B14) n v = some e) (kr : ∀ x : Int32 × QM, e = .inl x → q_r C = some (.int x.1) ∧ q_M C = x.2) (ke : ∀ x : Int32 × QM, e = .inr x → WX C 6 430 [(0, .ref 0), (1, .int x.1)] [] x.2) : WX C 6 14 [(0, .ref 0), (1, .int v.1), (2, .int v.2.1)] [] v.2.2 :=
  iter_W (Wh := fun v => WX C 6 14 [(0, .ref 0), (1, .int v.1), (2, .int v.2.1)] [] v.2.2) (fun a res hB k1 k2 => S_Mo_slipOf_B14 hc hSH a hB (fun x hx => kr x (k1 _ hx).symm) (fun x hx => ke x (k1 _ hx).symm) k2) n v h

def Mo_slipOf (M : QM) : Option (Int32 × QM) :=
  Option.bind (iter (Mo_slipOf_B14) FU ((0 : Int32), (0 : Int32), u_i (u_i M 0 24 (0 : Int32)) 0 27 (0 : Int32))) (fun e12 => Sum.elim (fun r12 => some r12) (fun y12 => (if y12.1 = (6 : Int32) then some ((-6 : Int32), y12.2) else some (y12.2.1 0 0, y12.2))) e12)

set_option maxRecDepth 20000 in
set_option maxHeartbeats 2000000 in
theorem S_Mo_slipOf  {M : QM} {res : Int32 × QM} (h : Mo_slipOf M = some res) : Cn yX9_slipOf cX9_slipOf 6 (some .int) 1 SHM [.ref 0] M (some (.int res.1)) res.2 := by
  refine q_enter (L := [(0, .ref 0)]) (by decide) (Nat.le_of_ble_eq_true rfl) rfl ?_
  intro C hc hSH hr hM
  have hc : OKX C RX9 cX9_slipOf 6 1 (some .int) := hc
  unfold Mo_slipOf at h
  refine x_iconst hc dX9_slipOf_0 kc_0 ?_
  refine x_istore_n (L2 := [(1, .int (0 : Int32)), (0, .ref 0)]) hc dX9_slipOf_1 rfl (by decide) rfl ?_
  refine x_aload_n hc dX9_slipOf_2 rfl 1 rfl ?_
  refine x_iconst hc dX9_slipOf_3 kc_0 ?_
  refine x_putI hc dX9_slipOf_4 fl_RX9_169 (fw_9_24 _) (q_s hSH sm_0) rfl ?_
  refine x_aload_n hc dX9_slipOf_7 rfl 1 rfl ?_
  refine x_iconst hc dX9_slipOf_8 kc_0 ?_
  refine x_putI hc dX9_slipOf_9 fl_RX9_172 (fw_9_27 _) (q_s hSH sm_0) rfl ?_
  refine x_iconst hc dX9_slipOf_12 kc_0 ?_
  refine x_istore_n (L2 := [(2, .int (0 : Int32)), (1, .int (0 : Int32)), (0, .ref 0)]) hc dX9_slipOf_13 rfl (by decide) rfl ?_
  obtain ⟨e12, h12, h⟩ := bd_some h
  refine x_sub (S_Mo_slipOf_L14 hc hSH (v := ((0 : Int32), (0 : Int32), u_i (u_i M 0 24 (0 : Int32)) 0 27 (0 : Int32))) h12 (fun r12 hx => ?_) (fun y12 hx => ?_)) [2, 1, 0] rfl
  · subst hx
    have h := sum_l h
    cases h
    exact ⟨hr, hM⟩
  · subst hx
    have h := sum_r h
    refine x_iload_n hc dX9_slipOf_430 rfl 1 rfl ?_
    refine x_bipush hc dX9_slipOf_431 kb_6 ?_
    refine x_icmp_ne (tgt := 441) hc dX9_slipOf_433 (by decide) (fun hb => ?_) (fun hb => ?_)
    · have h := ite_f hb h
      refine x_aload_n hc dX9_slipOf_441 rfl 0 rfl ?_
      refine x_getI hc dX9_slipOf_442 fl_RX9_88 (q_s hSH sm_0) rfl ?_
      cases h
      exact x_iret hc dX9_slipOf_445 hr hM
    · have h := ite_t hb h
      refine x_bipush hc dX9_slipOf_436 kb_m6 ?_
      refine x_goto (tgt := 445) hc dX9_slipOf_438 (by decide) ?_
      cases h
      exact x_iret hc dX9_slipOf_445 hr hM

def Mo_inner_J23 (x1 : Int32) (s0 : Int32) (M : QM) : Option (Int32) :=
  (if 0 ≤ s0 then ck (inb s0 60) ((if (M.1 2 s0.toNatClampNeg) = (42 : Int32) then ck (inb ((8 : Int32) * s0) 480) (some (M.1 3 ((8 : Int32) * s0).toNatClampNeg)) else ck (inb (((8 : Int32) * s0) + x1) 480) (some (M.1 3 (((8 : Int32) * s0) + x1).toNatClampNeg)))) else some (-6 : Int32))

set_option maxRecDepth 20000 in
set_option maxHeartbeats 2000000 in
theorem S_Mo_inner_J23 {C : QC} (hc : OKX C RX9 cX9_inner 3 0 (some .int)) (hSH : q_SH C = SHM) (x1 : Int32) (s0 : Int32) (M : QM) {res : Int32} (h : Mo_inner_J23 x1 s0 M = some res) (hr : q_r C = some (.int res)) (hM : q_M C = M) : WX C 3 23 [(0, .ref 0), (1, .int x1)] [.int s0] M := by
  unfold Mo_inner_J23 at h
  refine x_istore_n (L2 := [(2, .int s0), (0, .ref 0), (1, .int x1)]) hc dX9_inner_23 rfl (by decide) rfl ?_
  refine x_iload_n hc dX9_inner_24 rfl 0 rfl ?_
  refine x_if_ge (tgt := 33) hc dX9_inner_25 (by decide) (fun hb => ?_) (fun hb => ?_)
  · have h := ite_t hb h
    refine x_aload_n hc dX9_inner_33 rfl 1 rfl ?_
    refine x_getR hc dX9_inner_34 fl_RX9_13 (q_s hSH sm_0) rfl ?_
    refine x_iload_n hc dX9_inner_37 rfl 0 rfl ?_
    obtain ⟨b2, h⟩ := ck_some h
    refine x_iald hc dX9_inner_38 (q_s hSH sm_2) (inb_in b2) ?_
    refine x_bipush hc dX9_inner_39 kb_42 ?_
    refine x_icmp_ne (tgt := 56) hc dX9_inner_41 (by decide) (fun hb => ?_) (fun hb => ?_)
    · have h := ite_f hb h
      refine x_aload_n hc dX9_inner_56 rfl 1 rfl ?_
      refine x_getR hc dX9_inner_57 fl_RX9_16 (q_s hSH sm_0) rfl ?_
      refine x_bipush hc dX9_inner_60 kb_8 ?_
      refine x_iload_n hc dX9_inner_62 rfl 0 rfl ?_
      refine x_imul hc dX9_inner_63 ?_
      refine x_iload_n hc dX9_inner_64 rfl 2 rfl ?_
      refine x_iadd hc dX9_inner_65 ?_
      obtain ⟨b3, h⟩ := ck_some h
      refine x_iald hc dX9_inner_66 (q_s hSH sm_3) (inb_in b3) ?_
      cases h
      exact x_iret hc dX9_inner_67 hr hM
    · have h := ite_t hb h
      refine x_aload_n hc dX9_inner_44 rfl 1 rfl ?_
      refine x_getR hc dX9_inner_45 fl_RX9_16 (q_s hSH sm_0) rfl ?_
      refine x_bipush hc dX9_inner_48 kb_8 ?_
      refine x_iload_n hc dX9_inner_50 rfl 0 rfl ?_
      refine x_imul hc dX9_inner_51 ?_
      obtain ⟨b4, h⟩ := ck_some h
      refine x_iald hc dX9_inner_52 (q_s hSH sm_3) (inb_in b4) ?_
      refine x_goto (tgt := 67) hc dX9_inner_53 (by decide) ?_
      cases h
      exact x_iret hc dX9_inner_67 hr hM
  · have h := ite_f hb h
    refine x_bipush hc dX9_inner_28 kb_m6 ?_
    refine x_goto (tgt := 67) hc dX9_inner_30 (by decide) ?_
    cases h
    exact x_iret hc dX9_inner_67 hr hM

def Mo_inner (p1 : Int32) (M : QM) : Option (Int32) :=
  (if (M.1 0 27) = 0 then Mo_inner_J23 p1 (-6 : Int32) M else ck (inb ((M.1 0 27) - (1 : Int32)) 101) (Mo_inner_J23 p1 (M.1 19 ((M.1 0 27) - (1 : Int32)).toNatClampNeg) M))

set_option maxRecDepth 20000 in
set_option maxHeartbeats 2000000 in
theorem S_Mo_inner  {p1 : Int32} {M : QM} {res : Int32} (h : Mo_inner p1 M = some res) : Cn yX9_inner cX9_inner 3 (some .int) 0 SHM [.ref 0, .int p1] M (some (.int res)) M := by
  refine q_enter (L := [(0, .ref 0), (1, .int p1)]) (by decide) (Nat.le_of_ble_eq_true rfl) rfl ?_
  intro C hc hSH hr hM
  have hc : OKX C RX9 cX9_inner 3 0 (some .int) := hc
  unfold Mo_inner at h
  refine x_aload_n hc dX9_inner_0 rfl 0 rfl ?_
  refine x_getI hc dX9_inner_1 fl_RX9_172 (q_s hSH sm_0) rfl ?_
  refine x_if_ne (tgt := 12) hc dX9_inner_4 (by decide) (fun hb => ?_) (fun hb => ?_)
  · have h := ite_f hb h
    refine x_aload_n hc dX9_inner_12 rfl 0 rfl ?_
    refine x_getR hc dX9_inner_13 fl_RX9_65 (q_s hSH sm_0) rfl ?_
    refine x_aload_n hc dX9_inner_16 rfl 0 rfl ?_
    refine x_getI hc dX9_inner_17 fl_RX9_172 (q_s hSH sm_0) rfl ?_
    refine x_iconst hc dX9_inner_20 kc_1 ?_
    refine x_isub hc dX9_inner_21 ?_
    obtain ⟨b1, h⟩ := ck_some h
    refine x_iald hc dX9_inner_22 (q_s hSH sm_19) (inb_in b1) ?_
    exact x_sub (S_Mo_inner_J23 hc hSH p1 (M.1 19 ((M.1 0 27) - (1 : Int32)).toNatClampNeg) M h hr hM) [0, 1] rfl
  · have h := ite_t hb h
    refine x_bipush hc dX9_inner_7 kb_m6 ?_
    refine x_goto (tgt := 23) hc dX9_inner_9 (by decide) ?_
    exact x_sub (S_Mo_inner_J23 hc hSH p1 (-6 : Int32) M h hr hM) [0, 1] rfl

def Mo_fits_B133 (x3 : Int32) (x4 : Int32) (x8 : Int32) (M : QM) (v : Int32) : Option (((Int32 × QM) ⊕ (Unit)) ⊕ (Int32)) :=
  (if (8 : Int32) ≤ v then some (.inl (.inr ())) else (if x4 = (125 : Int32) then (if x8 < 0 then some (.inl (.inr ())) else ck (inb (((8 : Int32) * x8) + v) 480) ((if (M.1 3 (((8 : Int32) * x8) + v).toNatClampNeg) < 0 then some (.inr (v + (1 : Int32))) else ck (inb (M.1 0 27) 101) ((if (((M.1 20 (M.1 0 27).toNatClampNeg) >>> (v &&& 31)) &&& (1 : Int32)) = 0 then some (.inl (.inl (x3, M))) else some (.inr (v + (1 : Int32)))))))) else some (.inl (.inr ()))))

set_option maxRecDepth 20000 in
set_option maxHeartbeats 2000000 in
theorem S_Mo_fits_B133 {C : QC} (hc : OKX C RX9 cX9_fits 10 2 (some .int)) (hSH : q_SH C = SHM) (x3 : Int32) (x4 : Int32) (x8 : Int32) (M : QM) (v : Int32) {res : ((Int32 × QM) ⊕ (Unit)) ⊕ (Int32)} (h : Mo_fits_B133 x3 x4 x8 M v = some res) (kr : ∀ x : Int32 × QM, res = .inl (.inl x) → q_r C = some (.int x.1) ∧ q_M C = x.2) (ke : ∀ x : Unit, res = .inl (.inr x) → WX C 10 193 [(0, .ref 0), (3, .int x3)] [] M) (kb : ∀ x : Int32, res = .inr x → WX C 10 133 [(0, .ref 0), (3, .int x3), (4, .int x4), (8, .int x8), (9, .int x)] [] M) : WX C 10 133 [(0, .ref 0), (3, .int x3), (4, .int x4), (8, .int x8), (9, .int v)] [] M := by
  unfold Mo_fits_B133 at h
  refine x_iload hc dX9_fits_133 4 rfl ?_
  refine x_bipush hc dX9_fits_135 kb_8 ?_
  refine x_icmp_ge (tgt := 193) hc dX9_fits_137 (by decide) (fun hb => ?_) (fun hb => ?_)
  · have h := ite_t hb h
    cases h
    exact x_sub (ke () rfl) [0, 1] rfl
  · have h := ite_f hb h
    refine x_iload hc dX9_fits_140 2 rfl ?_
    refine x_bipush hc dX9_fits_142 kb_125 ?_
    refine x_icmp_ne (tgt := 193) hc dX9_fits_144 (by decide) (fun hb => ?_) (fun hb => ?_)
    · have h := ite_f hb h
      cases h
      exact x_sub (ke () rfl) [0, 1] rfl
    · have h := ite_t hb h
      refine x_iload hc dX9_fits_147 3 rfl ?_
      refine x_if_lt (tgt := 193) hc dX9_fits_149 (by decide) (fun hb => ?_) (fun hb => ?_)
      · have h := ite_t hb h
        cases h
        exact x_sub (ke () rfl) [0, 1] rfl
      · have h := ite_f hb h
        refine x_aload_n hc dX9_fits_152 rfl 0 rfl ?_
        refine x_getR hc dX9_fits_153 fl_RX9_16 (q_s hSH sm_0) rfl ?_
        refine x_bipush hc dX9_fits_156 kb_8 ?_
        refine x_iload hc dX9_fits_158 3 rfl ?_
        refine x_imul hc dX9_fits_160 ?_
        refine x_iload hc dX9_fits_161 4 rfl ?_
        refine x_iadd hc dX9_fits_163 ?_
        obtain ⟨b5, h⟩ := ck_some h
        refine x_iald hc dX9_fits_164 (q_s hSH sm_3) (inb_in b5) ?_
        refine x_if_lt (tgt := 187) hc dX9_fits_165 (by decide) (fun hb => ?_) (fun hb => ?_)
        · have h := ite_t hb h
          refine x_iinc (v := v + (1 : Int32)) (L2 := [(9, .int (v + (1 : Int32))), (0, .ref 0), (3, .int x3), (4, .int x4), (8, .int x8)]) hc dX9_fits_187 4 rfl (by rw [kc_1]) (by decide) rfl ?_
          refine x_goto (tgt := 133) hc dX9_fits_190 (by decide) ?_
          cases h
          exact x_sub (kb (v + (1 : Int32)) rfl) [1, 2, 3, 4, 0] rfl
        · have h := ite_f hb h
          refine x_aload_n hc dX9_fits_168 rfl 0 rfl ?_
          refine x_getR hc dX9_fits_169 fl_RX9_68 (q_s hSH sm_0) rfl ?_
          refine x_aload_n hc dX9_fits_172 rfl 0 rfl ?_
          refine x_getI hc dX9_fits_173 fl_RX9_172 (q_s hSH sm_0) rfl ?_
          obtain ⟨b6, h⟩ := ck_some h
          refine x_iald hc dX9_fits_176 (q_s hSH sm_20) (inb_in b6) ?_
          refine x_iload hc dX9_fits_177 4 rfl ?_
          refine x_ishr hc dX9_fits_179 ?_
          refine x_iconst hc dX9_fits_180 kc_1 ?_
          refine x_iand hc dX9_fits_181 ?_
          refine x_if_ne (tgt := 187) hc dX9_fits_182 (by decide) (fun hb => ?_) (fun hb => ?_)
          · have h := ite_f hb h
            refine x_iinc (v := v + (1 : Int32)) (L2 := [(9, .int (v + (1 : Int32))), (0, .ref 0), (3, .int x3), (4, .int x4), (8, .int x8)]) hc dX9_fits_187 4 rfl (by rw [kc_1]) (by decide) rfl ?_
            refine x_goto (tgt := 133) hc dX9_fits_190 (by decide) ?_
            cases h
            exact x_sub (kb (v + (1 : Int32)) rfl) [1, 2, 3, 4, 0] rfl
          · have h := ite_t hb h
            refine x_iload_n hc dX9_fits_185 rfl 1 rfl ?_
            cases h
            exact x_iret hc dX9_fits_186 (kr _ rfl).1 (kr _ rfl).2

theorem S_Mo_fits_L133 {C : QC} (hc : OKX C RX9 cX9_fits 10 2 (some .int)) (hSH : q_SH C = SHM) (x3 : Int32) (x4 : Int32) (x8 : Int32) (M : QM) {n : Nat} {v : Int32} {e : (Int32 × QM) ⊕ (Unit)} (h : iter (Mo_fits_B133 x3 x4 x8 M) n v = some e) (kr : ∀ x : Int32 × QM, e = .inl x → q_r C = some (.int x.1) ∧ q_M C = x.2) (ke : ∀ x : Unit, e = .inr x → WX C 10 193 [(0, .ref 0), (3, .int x3)] [] M) : WX C 10 133 [(0, .ref 0), (3, .int x3), (4, .int x4), (8, .int x8), (9, .int v)] [] M :=
  iter_W (Wh := fun v => WX C 10 133 [(0, .ref 0), (3, .int x3), (4, .int x4), (8, .int x8), (9, .int v)] [] M) (fun a res hB k1 k2 => S_Mo_fits_B133 hc hSH x3 x4 x8 M a hB (fun x hx => kr x (k1 _ hx).symm) (fun x hx => ke x (k1 _ hx).symm) k2) n v h

def Mo_fits_L29_J486 (x3 : Int32) (M : QM) : Option (((Int32 × QM) ⊕ (QM)) ⊕ (Int32 × Int32 × QM)) :=
  (if (M.1 0 27) ≤ 0 then some (.inr ((100000 : Int32), x3, M)) else ck (inb ((M.1 0 27) - (1 : Int32)) 101) ((if (M.1 17 ((M.1 0 27) - (1 : Int32)).toNatClampNeg) = (40 : Int32) then Option.bind (Mo_inner (0 : Int32) M) (fun q9 => some (.inr (q9, x3, M))) else some (.inr ((100000 : Int32), x3, M)))))

set_option maxRecDepth 20000 in
set_option maxHeartbeats 2000000 in
theorem S_Mo_fits_L29_J486 {C : QC} (hc : OKX C RX9 cX9_fits 10 2 (some .int)) (hSH : q_SH C = SHM) (x3 : Int32) (M : QM) {res : ((Int32 × QM) ⊕ (QM)) ⊕ (Int32 × Int32 × QM)} (h : Mo_fits_L29_J486 x3 M = some res) (kr : ∀ x : Int32 × QM, res = .inl (.inl x) → q_r C = some (.int x.1) ∧ q_M C = x.2) (ke : ∀ x : QM, res = .inl (.inr x) → WX C 10 523 [] [] x) (kb : ∀ x : Int32 × Int32 × QM, res = .inr x → WX C 10 29 [(0, .ref 0), (2, .int x.1), (3, .int x.2.1)] [] x.2.2) : WX C 10 486 [(0, .ref 0), (3, .int x3)] [] M := by
  unfold Mo_fits_L29_J486 at h
  refine x_aload_n hc dX9_fits_486 rfl 0 rfl ?_
  refine x_getI hc dX9_fits_487 fl_RX9_172 (q_s hSH sm_0) rfl ?_
  refine x_if_le (tgt := 517) hc dX9_fits_490 (by decide) (fun hb => ?_) (fun hb => ?_)
  · have h := ite_t hb h
    refine x_ldc hc dX9_fits_517 kd_RX9_137 ?_
    refine x_istore_n (L2 := [(2, .int (100000 : Int32)), (0, .ref 0), (3, .int x3)]) hc dX9_fits_519 rfl (by decide) rfl ?_
    refine x_goto (tgt := 29) hc dX9_fits_520 (by decide) ?_
    cases h
    exact x_sub (kb ((100000 : Int32), x3, M) rfl) [1, 0, 2] rfl
  · have h := ite_f hb h
    refine x_aload_n hc dX9_fits_493 rfl 0 rfl ?_
    refine x_getR hc dX9_fits_494 fl_RX9_59 (q_s hSH sm_0) rfl ?_
    refine x_aload_n hc dX9_fits_497 rfl 0 rfl ?_
    refine x_getI hc dX9_fits_498 fl_RX9_172 (q_s hSH sm_0) rfl ?_
    refine x_iconst hc dX9_fits_501 kc_1 ?_
    refine x_isub hc dX9_fits_502 ?_
    obtain ⟨b8, h⟩ := ck_some h
    refine x_iald hc dX9_fits_503 (q_s hSH sm_17) (inb_in b8) ?_
    refine x_bipush hc dX9_fits_504 kb_40 ?_
    refine x_icmp_ne (tgt := 517) hc dX9_fits_506 (by decide) (fun hb => ?_) (fun hb => ?_)
    · have h := ite_f hb h
      refine x_ldc hc dX9_fits_517 kd_RX9_137 ?_
      refine x_istore_n (L2 := [(2, .int (100000 : Int32)), (0, .ref 0), (3, .int x3)]) hc dX9_fits_519 rfl (by decide) rfl ?_
      refine x_goto (tgt := 29) hc dX9_fits_520 (by decide) ?_
      cases h
      exact x_sub (kb ((100000 : Int32), x3, M) rfl) [1, 0, 2] rfl
    · have h := ite_t hb h
      refine x_aload_n hc dX9_fits_509 rfl 0 rfl ?_
      refine x_iconst hc dX9_fits_510 kc_0 ?_
      obtain ⟨q9, h9, h⟩ := bd_some h
      refine x_callVi (As := [.int (0 : Int32)]) (st := []) (o := 0) hc dX9_fits_511 cv_X9_inner lk_RX9_178 (q_s hSH sm_0) rfl rfl (q_cn hSH (S_Mo_inner h9)) (by decide) (Nat.le_of_ble_eq_true rfl) ?_
      refine x_goto (tgt := 519) hc dX9_fits_514 (by decide) ?_
      refine x_istore_n (L2 := [(2, .int q9), (0, .ref 0), (3, .int x3)]) hc dX9_fits_519 rfl (by decide) rfl ?_
      refine x_goto (tgt := 29) hc dX9_fits_520 (by decide) ?_
      cases h
      exact x_sub (kb (q9, x3, M) rfl) [1, 0, 2] rfl

def Mo_fits_L29_J193 (x3 : Int32) (M : QM) : Option (((Int32 × QM) ⊕ (QM)) ⊕ (Int32 × Int32 × QM)) :=
  Mo_fits_L29_J486 (x3 + (1 : Int32)) M

set_option maxRecDepth 20000 in
set_option maxHeartbeats 2000000 in
theorem S_Mo_fits_L29_J193 {C : QC} (hc : OKX C RX9 cX9_fits 10 2 (some .int)) (hSH : q_SH C = SHM) (x3 : Int32) (M : QM) {res : ((Int32 × QM) ⊕ (QM)) ⊕ (Int32 × Int32 × QM)} (h : Mo_fits_L29_J193 x3 M = some res) (kr : ∀ x : Int32 × QM, res = .inl (.inl x) → q_r C = some (.int x.1) ∧ q_M C = x.2) (ke : ∀ x : QM, res = .inl (.inr x) → WX C 10 523 [] [] x) (kb : ∀ x : Int32 × Int32 × QM, res = .inr x → WX C 10 29 [(0, .ref 0), (2, .int x.1), (3, .int x.2.1)] [] x.2.2) : WX C 10 193 [(0, .ref 0), (3, .int x3)] [] M := by
  unfold Mo_fits_L29_J193 at h
  refine x_iinc (v := x3 + (1 : Int32)) (L2 := [(3, .int (x3 + (1 : Int32))), (0, .ref 0)]) hc dX9_fits_193 1 rfl (by rw [kc_1]) (by decide) rfl ?_
  refine x_goto (tgt := 486) hc dX9_fits_196 (by decide) ?_
  exact x_sub (S_Mo_fits_L29_J486 hc hSH (x3 + (1 : Int32)) M h kr ke kb) [1, 0] rfl

def Mo_fits_L29_J109 (x3 : Int32) (x4 : Int32) (M : QM) : Option (((Int32 × QM) ⊕ (QM)) ⊕ (Int32 × Int32 × QM)) :=
  ck (inb ((u_i M 0 27 ((M.1 0 27) - (1 : Int32))).1 0 27) 101) (Option.bind (iter (Mo_fits_B133 x3 x4 ((u_i M 0 27 ((M.1 0 27) - (1 : Int32))).1 19 ((u_i M 0 27 ((M.1 0 27) - (1 : Int32))).1 0 27).toNatClampNeg) (u_i M 0 27 ((M.1 0 27) - (1 : Int32)))) FU (0 : Int32)) (fun e7 => Sum.elim (fun r7 => some (.inl (.inl r7))) (fun y7 => Mo_fits_L29_J193 x3 (u_i M 0 27 ((M.1 0 27) - (1 : Int32)))) e7))

set_option maxRecDepth 20000 in
set_option maxHeartbeats 2000000 in
theorem S_Mo_fits_L29_J109 {C : QC} (hc : OKX C RX9 cX9_fits 10 2 (some .int)) (hSH : q_SH C = SHM) (x3 : Int32) (x4 : Int32) (M : QM) {res : ((Int32 × QM) ⊕ (QM)) ⊕ (Int32 × Int32 × QM)} (h : Mo_fits_L29_J109 x3 x4 M = some res) (kr : ∀ x : Int32 × QM, res = .inl (.inl x) → q_r C = some (.int x.1) ∧ q_M C = x.2) (ke : ∀ x : QM, res = .inl (.inr x) → WX C 10 523 [] [] x) (kb : ∀ x : Int32 × Int32 × QM, res = .inr x → WX C 10 29 [(0, .ref 0), (2, .int x.1), (3, .int x.2.1)] [] x.2.2) : WX C 10 109 [(0, .ref 0), (3, .int x3), (4, .int x4)] [] M := by
  unfold Mo_fits_L29_J109 at h
  refine x_aload_n hc dX9_fits_109 rfl 0 rfl ?_
  refine x_dup hc dX9_fits_110 rfl ?_
  refine x_getI hc dX9_fits_111 fl_RX9_172 (q_s hSH sm_0) rfl ?_
  refine x_iconst hc dX9_fits_114 kc_1 ?_
  refine x_isub hc dX9_fits_115 ?_
  refine x_putI hc dX9_fits_116 fl_RX9_172 (fw_9_27 _) (q_s hSH sm_0) rfl ?_
  refine x_aload_n hc dX9_fits_119 rfl 0 rfl ?_
  refine x_getR hc dX9_fits_120 fl_RX9_65 (q_s hSH sm_0) rfl ?_
  refine x_aload_n hc dX9_fits_123 rfl 0 rfl ?_
  refine x_getI hc dX9_fits_124 fl_RX9_172 (q_s hSH sm_0) rfl ?_
  obtain ⟨b4, h⟩ := ck_some h
  refine x_iald hc dX9_fits_127 (q_s hSH sm_19) (inb_in b4) ?_
  refine x_istore (L2 := [(8, .int ((u_i M 0 27 ((M.1 0 27) - (1 : Int32))).1 19 ((u_i M 0 27 ((M.1 0 27) - (1 : Int32))).1 0 27).toNatClampNeg)), (0, .ref 0), (3, .int x3), (4, .int x4)]) hc dX9_fits_128 (by decide) rfl ?_
  refine x_iconst hc dX9_fits_130 kc_0 ?_
  refine x_istore (L2 := [(9, .int (0 : Int32)), (8, .int ((u_i M 0 27 ((M.1 0 27) - (1 : Int32))).1 19 ((u_i M 0 27 ((M.1 0 27) - (1 : Int32))).1 0 27).toNatClampNeg)), (0, .ref 0), (3, .int x3), (4, .int x4)]) hc dX9_fits_131 (by decide) rfl ?_
  obtain ⟨e7, h7, h⟩ := bd_some h
  refine x_sub (S_Mo_fits_L133 hc hSH x3 x4 ((u_i M 0 27 ((M.1 0 27) - (1 : Int32))).1 19 ((u_i M 0 27 ((M.1 0 27) - (1 : Int32))).1 0 27).toNatClampNeg) (u_i M 0 27 ((M.1 0 27) - (1 : Int32))) (v := (0 : Int32)) h7 (fun r7 hx => ?_) (fun y7 hx => ?_)) [2, 3, 4, 1, 0] rfl
  · subst hx
    have h := sum_l h
    cases h
    exact kr _ rfl
  · subst hx
    have h := sum_r h
    exact x_sub (S_Mo_fits_L29_J193 hc hSH x3 (u_i M 0 27 ((M.1 0 27) - (1 : Int32))) h kr ke kb) [0, 1] rfl

def Mo_fits_L29_J332 (x3 : Int32) (s0 : Int32) (s1 : Int32) (M : QM) : Option (((Int32 × QM) ⊕ (QM)) ⊕ (Int32 × Int32 × QM)) :=
  Option.bind (Mo_begin s1 s0 M) (fun q10 => Mo_fits_L29_J486 (x3 + (1 : Int32)) q10)

set_option maxRecDepth 20000 in
set_option maxHeartbeats 2000000 in
theorem S_Mo_fits_L29_J332 {C : QC} (hc : OKX C RX9 cX9_fits 10 2 (some .int)) (hSH : q_SH C = SHM) (x3 : Int32) (s0 : Int32) (s1 : Int32) (M : QM) {res : ((Int32 × QM) ⊕ (QM)) ⊕ (Int32 × Int32 × QM)} (h : Mo_fits_L29_J332 x3 s0 s1 M = some res) (kr : ∀ x : Int32 × QM, res = .inl (.inl x) → q_r C = some (.int x.1) ∧ q_M C = x.2) (ke : ∀ x : QM, res = .inl (.inr x) → WX C 10 523 [] [] x) (kb : ∀ x : Int32 × Int32 × QM, res = .inr x → WX C 10 29 [(0, .ref 0), (2, .int x.1), (3, .int x.2.1)] [] x.2.2) : WX C 10 332 [(0, .ref 0), (3, .int x3)] [.int s0, .int s1, .ref 0] M := by
  unfold Mo_fits_L29_J332 at h
  obtain ⟨q10, h10, h⟩ := bd_some h
  refine x_callVv (As := [.int s1, .int s0]) (st := []) (o := 0) hc dX9_fits_332 cv_X9_begin lk_RX9_181 (q_s hSH sm_0) rfl rfl (q_cn hSH (S_Mo_begin h10)) (by decide) (Nat.le_of_ble_eq_true rfl) ?_
  refine x_iinc (v := x3 + (1 : Int32)) (L2 := [(3, .int (x3 + (1 : Int32))), (0, .ref 0)]) hc dX9_fits_335 1 rfl (by rw [kc_1]) (by decide) rfl ?_
  refine x_goto (tgt := 486) hc dX9_fits_338 (by decide) ?_
  exact x_sub (S_Mo_fits_L29_J486 hc hSH (x3 + (1 : Int32)) q10 h kr ke kb) [1, 0] rfl

def Mo_fits_L29_J317 (x3 : Int32) (x4 : Int32) (x5 : Int32) (x7 : Int32) (M : QM) : Option (((Int32 × QM) ⊕ (QM)) ⊕ (Int32 × Int32 × QM)) :=
  (if x7 = 0 then Mo_fits_L29_J332 x3 x5 x4 M else Mo_fits_L29_J332 x3 (-6 : Int32) x4 M)

set_option maxRecDepth 20000 in
set_option maxHeartbeats 2000000 in
theorem S_Mo_fits_L29_J317 {C : QC} (hc : OKX C RX9 cX9_fits 10 2 (some .int)) (hSH : q_SH C = SHM) (x3 : Int32) (x4 : Int32) (x5 : Int32) (x7 : Int32) (M : QM) {res : ((Int32 × QM) ⊕ (QM)) ⊕ (Int32 × Int32 × QM)} (h : Mo_fits_L29_J317 x3 x4 x5 x7 M = some res) (kr : ∀ x : Int32 × QM, res = .inl (.inl x) → q_r C = some (.int x.1) ∧ q_M C = x.2) (ke : ∀ x : QM, res = .inl (.inr x) → WX C 10 523 [] [] x) (kb : ∀ x : Int32 × Int32 × QM, res = .inr x → WX C 10 29 [(0, .ref 0), (2, .int x.1), (3, .int x.2.1)] [] x.2.2) : WX C 10 317 [(0, .ref 0), (3, .int x3), (4, .int x4), (5, .int x5), (7, .int x7)] [] M := by
  unfold Mo_fits_L29_J317 at h
  refine x_aload_n hc dX9_fits_317 rfl 0 rfl ?_
  refine x_iload hc dX9_fits_318 2 rfl ?_
  refine x_iload hc dX9_fits_320 4 rfl ?_
  refine x_if_eq (tgt := 330) hc dX9_fits_322 (by decide) (fun hb => ?_) (fun hb => ?_)
  · have h := ite_t hb h
    refine x_iload hc dX9_fits_330 3 rfl ?_
    exact x_sub (S_Mo_fits_L29_J332 hc hSH x3 x5 x4 M h kr ke kb) [0, 1] rfl
  · have h := ite_f hb h
    refine x_bipush hc dX9_fits_325 kb_m6 ?_
    refine x_goto (tgt := 332) hc dX9_fits_327 (by decide) ?_
    exact x_sub (S_Mo_fits_L29_J332 hc hSH x3 (-6 : Int32) x4 M h kr ke kb) [0, 1] rfl

def Mo_fits_L29_J312 (x3 : Int32) (x4 : Int32) (x5 : Int32) (x7 : Int32) (s0 : Int32) (s1 : Int32) (M : QM) : Option (((Int32 × QM) ⊕ (QM)) ⊕ (Int32 × Int32 × QM)) :=
  (if s1 = s0 then Mo_fits_L29_J317 x3 x4 x5 x7 M else some (.inl (.inl (x3, M))))

set_option maxRecDepth 20000 in
set_option maxHeartbeats 2000000 in
theorem S_Mo_fits_L29_J312 {C : QC} (hc : OKX C RX9 cX9_fits 10 2 (some .int)) (hSH : q_SH C = SHM) (x3 : Int32) (x4 : Int32) (x5 : Int32) (x7 : Int32) (s0 : Int32) (s1 : Int32) (M : QM) {res : ((Int32 × QM) ⊕ (QM)) ⊕ (Int32 × Int32 × QM)} (h : Mo_fits_L29_J312 x3 x4 x5 x7 s0 s1 M = some res) (kr : ∀ x : Int32 × QM, res = .inl (.inl x) → q_r C = some (.int x.1) ∧ q_M C = x.2) (ke : ∀ x : QM, res = .inl (.inr x) → WX C 10 523 [] [] x) (kb : ∀ x : Int32 × Int32 × QM, res = .inr x → WX C 10 29 [(0, .ref 0), (2, .int x.1), (3, .int x.2.1)] [] x.2.2) : WX C 10 312 [(0, .ref 0), (3, .int x3), (4, .int x4), (5, .int x5), (7, .int x7)] [.int s0, .int s1] M := by
  unfold Mo_fits_L29_J312 at h
  refine x_icmp_eq (tgt := 317) hc dX9_fits_312 (by decide) (fun hb => ?_) (fun hb => ?_)
  · have h := ite_t hb h
    exact x_sub (S_Mo_fits_L29_J317 hc hSH x3 x4 x5 x7 M h kr ke kb) [0, 1, 2, 3, 4] rfl
  · have h := ite_f hb h
    refine x_iload_n hc dX9_fits_315 rfl 1 rfl ?_
    cases h
    exact x_iret hc dX9_fits_316 (kr _ rfl).1 (kr _ rfl).2

def Mo_fits_L29_J291 (x3 : Int32) (x4 : Int32) (x5 : Int32) (x6 : Int32) (x7 : Int32) (M : QM) : Option (((Int32 × QM) ⊕ (QM)) ⊕ (Int32 × Int32 × QM)) :=
  (if x7 = 0 then (if x4 = (123 : Int32) then Mo_fits_L29_J312 x3 x4 x5 x7 (123 : Int32) x6 M else Mo_fits_L29_J312 x3 x4 x5 x7 (42 : Int32) x6 M) else Mo_fits_L29_J317 x3 x4 x5 x7 M)

set_option maxRecDepth 20000 in
set_option maxHeartbeats 2000000 in
theorem S_Mo_fits_L29_J291 {C : QC} (hc : OKX C RX9 cX9_fits 10 2 (some .int)) (hSH : q_SH C = SHM) (x3 : Int32) (x4 : Int32) (x5 : Int32) (x6 : Int32) (x7 : Int32) (M : QM) {res : ((Int32 × QM) ⊕ (QM)) ⊕ (Int32 × Int32 × QM)} (h : Mo_fits_L29_J291 x3 x4 x5 x6 x7 M = some res) (kr : ∀ x : Int32 × QM, res = .inl (.inl x) → q_r C = some (.int x.1) ∧ q_M C = x.2) (ke : ∀ x : QM, res = .inl (.inr x) → WX C 10 523 [] [] x) (kb : ∀ x : Int32 × Int32 × QM, res = .inr x → WX C 10 29 [(0, .ref 0), (2, .int x.1), (3, .int x.2.1)] [] x.2.2) : WX C 10 291 [(0, .ref 0), (3, .int x3), (4, .int x4), (5, .int x5), (6, .int x6), (7, .int x7)] [] M := by
  unfold Mo_fits_L29_J291 at h
  refine x_iload hc dX9_fits_291 5 rfl ?_
  refine x_if_ne (tgt := 317) hc dX9_fits_293 (by decide) (fun hb => ?_) (fun hb => ?_)
  · have h := ite_f hb h
    exact x_sub (S_Mo_fits_L29_J317 hc hSH x3 x4 x5 x7 M h kr ke kb) [0, 1, 2, 3, 5] rfl
  · have h := ite_t hb h
    refine x_iload hc dX9_fits_296 4 rfl ?_
    refine x_iload hc dX9_fits_298 2 rfl ?_
    refine x_bipush hc dX9_fits_300 kb_123 ?_
    refine x_icmp_ne (tgt := 310) hc dX9_fits_302 (by decide) (fun hb => ?_) (fun hb => ?_)
    · have h := ite_f hb h
      refine x_bipush hc dX9_fits_310 kb_42 ?_
      exact x_sub (S_Mo_fits_L29_J312 hc hSH x3 x4 x5 x7 (42 : Int32) x6 M h kr ke kb) [0, 1, 2, 3, 5] rfl
    · have h := ite_t hb h
      refine x_bipush hc dX9_fits_305 kb_123 ?_
      refine x_goto (tgt := 312) hc dX9_fits_307 (by decide) ?_
      exact x_sub (S_Mo_fits_L29_J312 hc hSH x3 x4 x5 x7 (123 : Int32) x6 M h kr ke kb) [0, 1, 2, 3, 5] rfl

def Mo_fits_L29_J484 (s0 : Int32) (s1 : Int32) (M : QM) : Option (((Int32 × QM) ⊕ (QM)) ⊕ (Int32 × Int32 × QM)) :=
  Mo_fits_L29_J486 (s1 + s0) M

set_option maxRecDepth 20000 in
set_option maxHeartbeats 2000000 in
theorem S_Mo_fits_L29_J484 {C : QC} (hc : OKX C RX9 cX9_fits 10 2 (some .int)) (hSH : q_SH C = SHM) (s0 : Int32) (s1 : Int32) (M : QM) {res : ((Int32 × QM) ⊕ (QM)) ⊕ (Int32 × Int32 × QM)} (h : Mo_fits_L29_J484 s0 s1 M = some res) (kr : ∀ x : Int32 × QM, res = .inl (.inl x) → q_r C = some (.int x.1) ∧ q_M C = x.2) (ke : ∀ x : QM, res = .inl (.inr x) → WX C 10 523 [] [] x) (kb : ∀ x : Int32 × Int32 × QM, res = .inr x → WX C 10 29 [(0, .ref 0), (2, .int x.1), (3, .int x.2.1)] [] x.2.2) : WX C 10 484 [(0, .ref 0)] [.int s0, .int s1] M := by
  unfold Mo_fits_L29_J484 at h
  refine x_iadd hc dX9_fits_484 ?_
  refine x_istore_n (L2 := [(3, .int (s1 + s0)), (0, .ref 0)]) hc dX9_fits_485 rfl (by decide) rfl ?_
  exact x_sub (S_Mo_fits_L29_J486 hc hSH (s1 + s0) M h kr ke kb) [1, 0] rfl

def Mo_fits_L29_J471 (x3 : Int32) (x4 : Int32) (M : QM) : Option (((Int32 × QM) ⊕ (QM)) ⊕ (Int32 × Int32 × QM)) :=
  (if x4 = (36 : Int32) then Mo_fits_L29_J484 (2 : Int32) x3 M else Mo_fits_L29_J484 (1 : Int32) x3 M)

set_option maxRecDepth 20000 in
set_option maxHeartbeats 2000000 in
theorem S_Mo_fits_L29_J471 {C : QC} (hc : OKX C RX9 cX9_fits 10 2 (some .int)) (hSH : q_SH C = SHM) (x3 : Int32) (x4 : Int32) (M : QM) {res : ((Int32 × QM) ⊕ (QM)) ⊕ (Int32 × Int32 × QM)} (h : Mo_fits_L29_J471 x3 x4 M = some res) (kr : ∀ x : Int32 × QM, res = .inl (.inl x) → q_r C = some (.int x.1) ∧ q_M C = x.2) (ke : ∀ x : QM, res = .inl (.inr x) → WX C 10 523 [] [] x) (kb : ∀ x : Int32 × Int32 × QM, res = .inr x → WX C 10 29 [(0, .ref 0), (2, .int x.1), (3, .int x.2.1)] [] x.2.2) : WX C 10 471 [(0, .ref 0), (3, .int x3), (4, .int x4)] [] M := by
  unfold Mo_fits_L29_J471 at h
  refine x_iload_n hc dX9_fits_471 rfl 1 rfl ?_
  refine x_iload hc dX9_fits_472 2 rfl ?_
  refine x_bipush hc dX9_fits_474 kb_36 ?_
  refine x_icmp_ne (tgt := 483) hc dX9_fits_476 (by decide) (fun hb => ?_) (fun hb => ?_)
  · have h := ite_f hb h
    refine x_iconst hc dX9_fits_483 kc_1 ?_
    exact x_sub (S_Mo_fits_L29_J484 hc hSH (1 : Int32) x3 M h kr ke kb) [0] rfl
  · have h := ite_t hb h
    refine x_iconst hc dX9_fits_479 kc_2 ?_
    refine x_goto (tgt := 484) hc dX9_fits_480 (by decide) ?_
    exact x_sub (S_Mo_fits_L29_J484 hc hSH (2 : Int32) x3 M h kr ke kb) [0] rfl

def Mo_fits_L29_J455 (x3 : Int32) (x4 : Int32) (x6 : Int32) (x7 : Int32) (s0 : Int32) (M : QM) : Option (((Int32 × QM) ⊕ (QM)) ⊕ (Int32 × Int32 × QM)) :=
  (if x7 = 0 then (if x6 = s0 then Mo_fits_L29_J471 x3 x4 M else some (.inl (.inl (x3, M)))) else Mo_fits_L29_J471 x3 x4 M)

set_option maxRecDepth 20000 in
set_option maxHeartbeats 2000000 in
theorem S_Mo_fits_L29_J455 {C : QC} (hc : OKX C RX9 cX9_fits 10 2 (some .int)) (hSH : q_SH C = SHM) (x3 : Int32) (x4 : Int32) (x6 : Int32) (x7 : Int32) (s0 : Int32) (M : QM) {res : ((Int32 × QM) ⊕ (QM)) ⊕ (Int32 × Int32 × QM)} (h : Mo_fits_L29_J455 x3 x4 x6 x7 s0 M = some res) (kr : ∀ x : Int32 × QM, res = .inl (.inl x) → q_r C = some (.int x.1) ∧ q_M C = x.2) (ke : ∀ x : QM, res = .inl (.inr x) → WX C 10 523 [] [] x) (kb : ∀ x : Int32 × Int32 × QM, res = .inr x → WX C 10 29 [(0, .ref 0), (2, .int x.1), (3, .int x.2.1)] [] x.2.2) : WX C 10 455 [(0, .ref 0), (3, .int x3), (4, .int x4), (6, .int x6), (7, .int x7)] [.int s0] M := by
  unfold Mo_fits_L29_J455 at h
  refine x_istore (L2 := [(8, .int s0), (0, .ref 0), (3, .int x3), (4, .int x4), (6, .int x6), (7, .int x7)]) hc dX9_fits_455 (by decide) rfl ?_
  refine x_iload hc dX9_fits_457 5 rfl ?_
  refine x_if_ne (tgt := 471) hc dX9_fits_459 (by decide) (fun hb => ?_) (fun hb => ?_)
  · have h := ite_f hb h
    exact x_sub (S_Mo_fits_L29_J471 hc hSH x3 x4 M h kr ke kb) [1, 2, 3] rfl
  · have h := ite_t hb h
    refine x_iload hc dX9_fits_462 4 rfl ?_
    refine x_iload hc dX9_fits_464 0 rfl ?_
    refine x_icmp_eq (tgt := 471) hc dX9_fits_466 (by decide) (fun hb => ?_) (fun hb => ?_)
    · have h := ite_t hb h
      exact x_sub (S_Mo_fits_L29_J471 hc hSH x3 x4 M h kr ke kb) [1, 2, 3] rfl
    · have h := ite_f hb h
      refine x_iload_n hc dX9_fits_469 rfl 2 rfl ?_
      cases h
      exact x_iret hc dX9_fits_470 (kr _ rfl).1 (kr _ rfl).2

def Mo_fits_L29_J448 (x3 : Int32) (x4 : Int32) (x6 : Int32) (x7 : Int32) (M : QM) : Option (((Int32 × QM) ⊕ (QM)) ⊕ (Int32 × Int32 × QM)) :=
  Mo_fits_L29_J455 x3 x4 x6 x7 (116 : Int32) M

set_option maxRecDepth 20000 in
set_option maxHeartbeats 2000000 in
theorem S_Mo_fits_L29_J448 {C : QC} (hc : OKX C RX9 cX9_fits 10 2 (some .int)) (hSH : q_SH C = SHM) (x3 : Int32) (x4 : Int32) (x6 : Int32) (x7 : Int32) (M : QM) {res : ((Int32 × QM) ⊕ (QM)) ⊕ (Int32 × Int32 × QM)} (h : Mo_fits_L29_J448 x3 x4 x6 x7 M = some res) (kr : ∀ x : Int32 × QM, res = .inl (.inl x) → q_r C = some (.int x.1) ∧ q_M C = x.2) (ke : ∀ x : QM, res = .inl (.inr x) → WX C 10 523 [] [] x) (kb : ∀ x : Int32 × Int32 × QM, res = .inr x → WX C 10 29 [(0, .ref 0), (2, .int x.1), (3, .int x.2.1)] [] x.2.2) : WX C 10 448 [(0, .ref 0), (3, .int x3), (4, .int x4), (6, .int x6), (7, .int x7)] [] M := by
  unfold Mo_fits_L29_J448 at h
  refine x_bipush hc dX9_fits_448 kb_116 ?_
  refine x_goto (tgt := 455) hc dX9_fits_450 (by decide) ?_
  exact x_sub (S_Mo_fits_L29_J455 hc hSH x3 x4 x6 x7 (116 : Int32) M h kr ke kb) [0, 1, 2, 3, 4] rfl

def Mo_fits_L29_J406 (x3 : Int32) (x8 : Int32) (s0 : Int32) (s1 : Int32) (M : QM) : Option (((Int32 × QM) ⊕ (QM)) ⊕ (Int32 × Int32 × QM)) :=
  Option.bind (Mo_begin s1 s0 M) (fun q12 => Option.bind (Mo_inner x8 q12) (fun q13 => some (.inr (q13, x3 + (2 : Int32), q12))))

set_option maxRecDepth 20000 in
set_option maxHeartbeats 2000000 in
theorem S_Mo_fits_L29_J406 {C : QC} (hc : OKX C RX9 cX9_fits 10 2 (some .int)) (hSH : q_SH C = SHM) (x3 : Int32) (x8 : Int32) (s0 : Int32) (s1 : Int32) (M : QM) {res : ((Int32 × QM) ⊕ (QM)) ⊕ (Int32 × Int32 × QM)} (h : Mo_fits_L29_J406 x3 x8 s0 s1 M = some res) (kr : ∀ x : Int32 × QM, res = .inl (.inl x) → q_r C = some (.int x.1) ∧ q_M C = x.2) (ke : ∀ x : QM, res = .inl (.inr x) → WX C 10 523 [] [] x) (kb : ∀ x : Int32 × Int32 × QM, res = .inr x → WX C 10 29 [(0, .ref 0), (2, .int x.1), (3, .int x.2.1)] [] x.2.2) : WX C 10 406 [(0, .ref 0), (3, .int x3), (8, .int x8)] [.int s0, .int s1, .ref 0] M := by
  unfold Mo_fits_L29_J406 at h
  obtain ⟨q12, h12, h⟩ := bd_some h
  refine x_callVv (As := [.int s1, .int s0]) (st := []) (o := 0) hc dX9_fits_406 cv_X9_begin lk_RX9_181 (q_s hSH sm_0) rfl rfl (q_cn hSH (S_Mo_begin h12)) (by decide) (Nat.le_of_ble_eq_true rfl) ?_
  refine x_aload_n hc dX9_fits_409 rfl 0 rfl ?_
  refine x_iload hc dX9_fits_410 2 rfl ?_
  obtain ⟨q13, h13, h⟩ := bd_some h
  refine x_callVi (As := [.int x8]) (st := []) (o := 0) hc dX9_fits_412 cv_X9_inner lk_RX9_178 (q_s hSH sm_0) rfl rfl (q_cn hSH (S_Mo_inner h13)) (by decide) (Nat.le_of_ble_eq_true rfl) ?_
  refine x_istore_n (L2 := [(2, .int q13), (0, .ref 0), (3, .int x3), (8, .int x8)]) hc dX9_fits_415 rfl (by decide) rfl ?_
  refine x_iinc (v := x3 + (2 : Int32)) (L2 := [(3, .int (x3 + (2 : Int32))), (2, .int q13), (0, .ref 0), (8, .int x8)]) hc dX9_fits_416 2 rfl (by rw [kc_2]) (by decide) rfl ?_
  refine x_goto (tgt := 29) hc dX9_fits_419 (by decide) ?_
  cases h
  exact x_sub (kb (q13, x3 + (2 : Int32), q12) rfl) [2, 1, 0] rfl

def Mo_fits_L29_J391 (x3 : Int32) (x4 : Int32) (x5 : Int32) (x7 : Int32) (x8 : Int32) (M : QM) : Option (((Int32 × QM) ⊕ (QM)) ⊕ (Int32 × Int32 × QM)) :=
  (if x7 = 0 then Mo_fits_L29_J406 x3 x8 x5 x4 M else Mo_fits_L29_J406 x3 x8 (-6 : Int32) x4 M)

set_option maxRecDepth 20000 in
set_option maxHeartbeats 2000000 in
theorem S_Mo_fits_L29_J391 {C : QC} (hc : OKX C RX9 cX9_fits 10 2 (some .int)) (hSH : q_SH C = SHM) (x3 : Int32) (x4 : Int32) (x5 : Int32) (x7 : Int32) (x8 : Int32) (M : QM) {res : ((Int32 × QM) ⊕ (QM)) ⊕ (Int32 × Int32 × QM)} (h : Mo_fits_L29_J391 x3 x4 x5 x7 x8 M = some res) (kr : ∀ x : Int32 × QM, res = .inl (.inl x) → q_r C = some (.int x.1) ∧ q_M C = x.2) (ke : ∀ x : QM, res = .inl (.inr x) → WX C 10 523 [] [] x) (kb : ∀ x : Int32 × Int32 × QM, res = .inr x → WX C 10 29 [(0, .ref 0), (2, .int x.1), (3, .int x.2.1)] [] x.2.2) : WX C 10 391 [(0, .ref 0), (3, .int x3), (4, .int x4), (5, .int x5), (7, .int x7), (8, .int x8)] [] M := by
  unfold Mo_fits_L29_J391 at h
  refine x_aload_n hc dX9_fits_391 rfl 0 rfl ?_
  refine x_iload hc dX9_fits_392 2 rfl ?_
  refine x_iload hc dX9_fits_394 4 rfl ?_
  refine x_if_eq (tgt := 404) hc dX9_fits_396 (by decide) (fun hb => ?_) (fun hb => ?_)
  · have h := ite_t hb h
    refine x_iload hc dX9_fits_404 3 rfl ?_
    exact x_sub (S_Mo_fits_L29_J406 hc hSH x3 x8 x5 x4 M h kr ke kb) [0, 1, 5] rfl
  · have h := ite_f hb h
    refine x_bipush hc dX9_fits_399 kb_m6 ?_
    refine x_goto (tgt := 406) hc dX9_fits_401 (by decide) ?_
    exact x_sub (S_Mo_fits_L29_J406 hc hSH x3 x8 (-6 : Int32) x4 M h kr ke kb) [0, 1, 5] rfl

def Mo_fits_L29_J277 (x3 : Int32) (x4 : Int32) (x5 : Int32) (x6 : Int32) (x7 : Int32) (M : QM) : Option (((Int32 × QM) ⊕ (QM)) ⊕ (Int32 × Int32 × QM)) :=
  (if x4 = (123 : Int32) then Mo_fits_L29_J291 x3 x4 x5 x6 x7 M else (if x4 = (40 : Int32) then Mo_fits_L29_J291 x3 x4 x5 x6 x7 M else (if x4 = (91 : Int32) then ck (inb (x3 + (1 : Int32)) 100) ((if x7 = 0 then (if x6 = (91 : Int32) then ck (inb (((8 : Int32) * x5) + ((M.1 1 (x3 + (1 : Int32)).toNatClampNeg) - (97 : Int32))) 480) ((if 0 ≤ (M.1 3 (((8 : Int32) * x5) + ((M.1 1 (x3 + (1 : Int32)).toNatClampNeg) - (97 : Int32))).toNatClampNeg) then Mo_fits_L29_J391 x3 x4 x5 x7 ((M.1 1 (x3 + (1 : Int32)).toNatClampNeg) - (97 : Int32)) M else some (.inl (.inl (x3, M))))) else some (.inl (.inl (x3, M)))) else Mo_fits_L29_J391 x3 x4 x5 x7 ((M.1 1 (x3 + (1 : Int32)).toNatClampNeg) - (97 : Int32)) M)) else (if x4 = (36 : Int32) then Mo_fits_L29_J455 x3 x4 x6 x7 (115 : Int32) M else (if x4 = (84 : Int32) then Mo_fits_L29_J448 x3 x4 x6 x7 M else (if x4 = (70 : Int32) then Mo_fits_L29_J448 x3 x4 x6 x7 M else Mo_fits_L29_J455 x3 x4 x6 x7 (110 : Int32) M))))))

set_option maxRecDepth 20000 in
set_option maxHeartbeats 2000000 in
theorem S_Mo_fits_L29_J277 {C : QC} (hc : OKX C RX9 cX9_fits 10 2 (some .int)) (hSH : q_SH C = SHM) (x3 : Int32) (x4 : Int32) (x5 : Int32) (x6 : Int32) (x7 : Int32) (M : QM) {res : ((Int32 × QM) ⊕ (QM)) ⊕ (Int32 × Int32 × QM)} (h : Mo_fits_L29_J277 x3 x4 x5 x6 x7 M = some res) (kr : ∀ x : Int32 × QM, res = .inl (.inl x) → q_r C = some (.int x.1) ∧ q_M C = x.2) (ke : ∀ x : QM, res = .inl (.inr x) → WX C 10 523 [] [] x) (kb : ∀ x : Int32 × Int32 × QM, res = .inr x → WX C 10 29 [(0, .ref 0), (2, .int x.1), (3, .int x.2.1)] [] x.2.2) : WX C 10 277 [(0, .ref 0), (3, .int x3), (4, .int x4), (5, .int x5), (6, .int x6), (7, .int x7)] [] M := by
  unfold Mo_fits_L29_J277 at h
  refine x_iload hc dX9_fits_277 2 rfl ?_
  refine x_bipush hc dX9_fits_279 kb_123 ?_
  refine x_icmp_eq (tgt := 291) hc dX9_fits_281 (by decide) (fun hb => ?_) (fun hb => ?_)
  · have h := ite_t hb h
    exact x_sub (S_Mo_fits_L29_J291 hc hSH x3 x4 x5 x6 x7 M h kr ke kb) [0, 1, 2, 3, 4, 5] rfl
  · have h := ite_f hb h
    refine x_iload hc dX9_fits_284 2 rfl ?_
    refine x_bipush hc dX9_fits_286 kb_40 ?_
    refine x_icmp_ne (tgt := 341) hc dX9_fits_288 (by decide) (fun hb => ?_) (fun hb => ?_)
    · have h := ite_f hb h
      refine x_iload hc dX9_fits_341 2 rfl ?_
      refine x_bipush hc dX9_fits_343 kb_91 ?_
      refine x_icmp_ne (tgt := 422) hc dX9_fits_345 (by decide) (fun hb => ?_) (fun hb => ?_)
      · have h := ite_f hb h
        refine x_iload hc dX9_fits_422 2 rfl ?_
        refine x_bipush hc dX9_fits_424 kb_36 ?_
        refine x_icmp_ne (tgt := 434) hc dX9_fits_426 (by decide) (fun hb => ?_) (fun hb => ?_)
        · have h := ite_f hb h
          refine x_iload hc dX9_fits_434 2 rfl ?_
          refine x_bipush hc dX9_fits_436 kb_84 ?_
          refine x_icmp_eq (tgt := 448) hc dX9_fits_438 (by decide) (fun hb => ?_) (fun hb => ?_)
          · have h := ite_t hb h
            exact x_sub (S_Mo_fits_L29_J448 hc hSH x3 x4 x6 x7 M h kr ke kb) [0, 1, 2, 4, 5] rfl
          · have h := ite_f hb h
            refine x_iload hc dX9_fits_441 2 rfl ?_
            refine x_bipush hc dX9_fits_443 kb_70 ?_
            refine x_icmp_ne (tgt := 453) hc dX9_fits_445 (by decide) (fun hb => ?_) (fun hb => ?_)
            · have h := ite_f hb h
              refine x_bipush hc dX9_fits_453 kb_110 ?_
              exact x_sub (S_Mo_fits_L29_J455 hc hSH x3 x4 x6 x7 (110 : Int32) M h kr ke kb) [0, 1, 2, 4, 5] rfl
            · have h := ite_t hb h
              exact x_sub (S_Mo_fits_L29_J448 hc hSH x3 x4 x6 x7 M h kr ke kb) [0, 1, 2, 4, 5] rfl
        · have h := ite_t hb h
          refine x_bipush hc dX9_fits_429 kb_115 ?_
          refine x_goto (tgt := 455) hc dX9_fits_431 (by decide) ?_
          exact x_sub (S_Mo_fits_L29_J455 hc hSH x3 x4 x6 x7 (115 : Int32) M h kr ke kb) [0, 1, 2, 4, 5] rfl
      · have h := ite_t hb h
        refine x_aload_n hc dX9_fits_348 rfl 0 rfl ?_
        refine x_getR hc dX9_fits_349 fl_RX9_7 (q_s hSH sm_0) rfl ?_
        refine x_iload_n hc dX9_fits_352 rfl 1 rfl ?_
        refine x_iconst hc dX9_fits_353 kc_1 ?_
        refine x_iadd hc dX9_fits_354 ?_
        obtain ⟨b11, h⟩ := ck_some h
        refine x_iald hc dX9_fits_355 (q_s hSH sm_1) (inb_in b11) ?_
        refine x_bipush hc dX9_fits_356 kb_97 ?_
        refine x_isub hc dX9_fits_358 ?_
        refine x_istore (L2 := [(8, .int ((M.1 1 (x3 + (1 : Int32)).toNatClampNeg) - (97 : Int32))), (0, .ref 0), (3, .int x3), (4, .int x4), (5, .int x5), (6, .int x6), (7, .int x7)]) hc dX9_fits_359 (by decide) rfl ?_
        refine x_iload hc dX9_fits_361 6 rfl ?_
        refine x_if_ne (tgt := 391) hc dX9_fits_363 (by decide) (fun hb => ?_) (fun hb => ?_)
        · have h := ite_f hb h
          exact x_sub (S_Mo_fits_L29_J391 hc hSH x3 x4 x5 x7 ((M.1 1 (x3 + (1 : Int32)).toNatClampNeg) - (97 : Int32)) M h kr ke kb) [1, 2, 3, 4, 6, 0] rfl
        · have h := ite_t hb h
          refine x_iload hc dX9_fits_366 5 rfl ?_
          refine x_bipush hc dX9_fits_368 kb_91 ?_
          refine x_icmp_ne (tgt := 389) hc dX9_fits_370 (by decide) (fun hb => ?_) (fun hb => ?_)
          · have h := ite_f hb h
            refine x_iload_n hc dX9_fits_389 rfl 2 rfl ?_
            cases h
            exact x_iret hc dX9_fits_390 (kr _ rfl).1 (kr _ rfl).2
          · have h := ite_t hb h
            refine x_aload_n hc dX9_fits_373 rfl 1 rfl ?_
            refine x_getR hc dX9_fits_374 fl_RX9_16 (q_s hSH sm_0) rfl ?_
            refine x_bipush hc dX9_fits_377 kb_8 ?_
            refine x_iload hc dX9_fits_379 4 rfl ?_
            refine x_imul hc dX9_fits_381 ?_
            refine x_iload hc dX9_fits_382 0 rfl ?_
            refine x_iadd hc dX9_fits_384 ?_
            obtain ⟨b14, h⟩ := ck_some h
            refine x_iald hc dX9_fits_385 (q_s hSH sm_3) (inb_in b14) ?_
            refine x_if_ge (tgt := 391) hc dX9_fits_386 (by decide) (fun hb => ?_) (fun hb => ?_)
            · have h := ite_t hb h
              exact x_sub (S_Mo_fits_L29_J391 hc hSH x3 x4 x5 x7 ((M.1 1 (x3 + (1 : Int32)).toNatClampNeg) - (97 : Int32)) M h kr ke kb) [1, 2, 3, 4, 6, 0] rfl
            · have h := ite_f hb h
              refine x_iload_n hc dX9_fits_389 rfl 2 rfl ?_
              cases h
              exact x_iret hc dX9_fits_390 (kr _ rfl).1 (kr _ rfl).2
    · have h := ite_t hb h
      exact x_sub (S_Mo_fits_L29_J291 hc hSH x3 x4 x5 x6 x7 M h kr ke kb) [0, 1, 2, 3, 4, 5] rfl

def Mo_fits_L29_J86 (x2 : Int32) (x3 : Int32) (x4 : Int32) (x5 : Int32) (x6 : Int32) (s0 : Int32) (M : QM) : Option (((Int32 × QM) ⊕ (QM)) ⊕ (Int32 × Int32 × QM)) :=
  (if x4 = (125 : Int32) then Mo_fits_L29_J109 x3 x4 M else (if x4 = (93 : Int32) then Mo_fits_L29_J109 x3 x4 M else (if x4 = (41 : Int32) then Mo_fits_L29_J109 x3 x4 M else (if (M.1 0 27) ≤ 0 then Mo_fits_L29_J277 x3 x4 x5 x6 s0 M else ck (inb ((M.1 0 27) - (1 : Int32)) 101) ((if (M.1 17 ((M.1 0 27) - (1 : Int32)).toNatClampNeg) = (123 : Int32) then Option.bind (Mo_in x4 (97 : Int32) (104 : Int32) M) (fun q16 => (if q16 = 0 then Mo_fits_L29_J277 x3 x4 x5 x6 s0 M else (if x2 = (100000 : Int32) then ck (inb ((M.1 0 27) - (1 : Int32)) 101) (ck (inb ((M.1 0 27) - (1 : Int32)) 101) (Option.bind (Mo_inner (x4 - (97 : Int32)) (u_i M 20 ((M.1 0 27) - (1 : Int32)).toNatClampNeg ((M.1 20 ((M.1 0 27) - (1 : Int32)).toNatClampNeg) ||| ((1 : Int32) <<< ((x4 - (97 : Int32)) &&& 31))))) (fun q19 => some (.inr (q19, x3 + (1 : Int32), u_i M 20 ((M.1 0 27) - (1 : Int32)).toNatClampNeg ((M.1 20 ((M.1 0 27) - (1 : Int32)).toNatClampNeg) ||| ((1 : Int32) <<< ((x4 - (97 : Int32)) &&& 31)))))))) else Mo_fits_L29_J277 x3 x4 x5 x6 s0 M))) else Mo_fits_L29_J277 x3 x4 x5 x6 s0 M))))))

set_option maxRecDepth 20000 in
set_option maxHeartbeats 2000000 in
theorem S_Mo_fits_L29_J86 {C : QC} (hc : OKX C RX9 cX9_fits 10 2 (some .int)) (hSH : q_SH C = SHM) (x2 : Int32) (x3 : Int32) (x4 : Int32) (x5 : Int32) (x6 : Int32) (s0 : Int32) (M : QM) {res : ((Int32 × QM) ⊕ (QM)) ⊕ (Int32 × Int32 × QM)} (h : Mo_fits_L29_J86 x2 x3 x4 x5 x6 s0 M = some res) (kr : ∀ x : Int32 × QM, res = .inl (.inl x) → q_r C = some (.int x.1) ∧ q_M C = x.2) (ke : ∀ x : QM, res = .inl (.inr x) → WX C 10 523 [] [] x) (kb : ∀ x : Int32 × Int32 × QM, res = .inr x → WX C 10 29 [(0, .ref 0), (2, .int x.1), (3, .int x.2.1)] [] x.2.2) : WX C 10 86 [(0, .ref 0), (2, .int x2), (3, .int x3), (4, .int x4), (5, .int x5), (6, .int x6)] [.int s0] M := by
  unfold Mo_fits_L29_J86 at h
  refine x_istore (L2 := [(7, .int s0), (0, .ref 0), (2, .int x2), (3, .int x3), (4, .int x4), (5, .int x5), (6, .int x6)]) hc dX9_fits_86 (by decide) rfl ?_
  refine x_iload hc dX9_fits_88 4 rfl ?_
  refine x_bipush hc dX9_fits_90 kb_125 ?_
  refine x_icmp_eq (tgt := 109) hc dX9_fits_92 (by decide) (fun hb => ?_) (fun hb => ?_)
  · have h := ite_t hb h
    exact x_sub (S_Mo_fits_L29_J109 hc hSH x3 x4 M h kr ke kb) [1, 3, 4] rfl
  · have h := ite_f hb h
    refine x_iload hc dX9_fits_95 4 rfl ?_
    refine x_bipush hc dX9_fits_97 kb_93 ?_
    refine x_icmp_eq (tgt := 109) hc dX9_fits_99 (by decide) (fun hb => ?_) (fun hb => ?_)
    · have h := ite_t hb h
      exact x_sub (S_Mo_fits_L29_J109 hc hSH x3 x4 M h kr ke kb) [1, 3, 4] rfl
    · have h := ite_f hb h
      refine x_iload hc dX9_fits_102 4 rfl ?_
      refine x_bipush hc dX9_fits_104 kb_41 ?_
      refine x_icmp_ne (tgt := 199) hc dX9_fits_106 (by decide) (fun hb => ?_) (fun hb => ?_)
      · have h := ite_f hb h
        refine x_aload_n hc dX9_fits_199 rfl 1 rfl ?_
        refine x_getI hc dX9_fits_200 fl_RX9_172 (q_s hSH sm_0) rfl ?_
        refine x_if_le (tgt := 277) hc dX9_fits_203 (by decide) (fun hb => ?_) (fun hb => ?_)
        · have h := ite_t hb h
          exact x_sub (S_Mo_fits_L29_J277 hc hSH x3 x4 x5 x6 s0 M h kr ke kb) [1, 3, 4, 5, 6, 0] rfl
        · have h := ite_f hb h
          refine x_aload_n hc dX9_fits_206 rfl 1 rfl ?_
          refine x_getR hc dX9_fits_207 fl_RX9_59 (q_s hSH sm_0) rfl ?_
          refine x_aload_n hc dX9_fits_210 rfl 1 rfl ?_
          refine x_getI hc dX9_fits_211 fl_RX9_172 (q_s hSH sm_0) rfl ?_
          refine x_iconst hc dX9_fits_214 kc_1 ?_
          refine x_isub hc dX9_fits_215 ?_
          obtain ⟨b15, h⟩ := ck_some h
          refine x_iald hc dX9_fits_216 (q_s hSH sm_17) (inb_in b15) ?_
          refine x_bipush hc dX9_fits_217 kb_123 ?_
          refine x_icmp_ne (tgt := 277) hc dX9_fits_219 (by decide) (fun hb => ?_) (fun hb => ?_)
          · have h := ite_f hb h
            exact x_sub (S_Mo_fits_L29_J277 hc hSH x3 x4 x5 x6 s0 M h kr ke kb) [1, 3, 4, 5, 6, 0] rfl
          · have h := ite_t hb h
            refine x_iload hc dX9_fits_222 4 rfl ?_
            refine x_bipush hc dX9_fits_224 kb_97 ?_
            refine x_bipush hc dX9_fits_226 kb_104 ?_
            obtain ⟨q16, h16, h⟩ := bd_some h
            refine x_callSi (As := [.int x4, .int (97 : Int32), .int (104 : Int32)]) (st := []) hc dX9_fits_228 cs_X9_in lk_RX9_84 rfl (q_cn hSH (S_Mo_in h16)) (by decide) (Nat.le_of_ble_eq_true rfl) ?_
            refine x_if_eq (tgt := 277) hc dX9_fits_231 (by decide) (fun hb => ?_) (fun hb => ?_)
            · have h := ite_t hb h
              exact x_sub (S_Mo_fits_L29_J277 hc hSH x3 x4 x5 x6 s0 M h kr ke kb) [1, 3, 4, 5, 6, 0] rfl
            · have h := ite_f hb h
              refine x_iload_n hc dX9_fits_234 rfl 2 rfl ?_
              refine x_ldc hc dX9_fits_235 kd_RX9_137 ?_
              refine x_icmp_ne (tgt := 277) hc dX9_fits_237 (by decide) (fun hb => ?_) (fun hb => ?_)
              · have h := ite_f hb h
                exact x_sub (S_Mo_fits_L29_J277 hc hSH x3 x4 x5 x6 s0 M h kr ke kb) [1, 3, 4, 5, 6, 0] rfl
              · have h := ite_t hb h
                refine x_aload_n hc dX9_fits_240 rfl 1 rfl ?_
                refine x_getR hc dX9_fits_241 fl_RX9_68 (q_s hSH sm_0) rfl ?_
                refine x_aload_n hc dX9_fits_244 rfl 1 rfl ?_
                refine x_getI hc dX9_fits_245 fl_RX9_172 (q_s hSH sm_0) rfl ?_
                refine x_iconst hc dX9_fits_248 kc_1 ?_
                refine x_isub hc dX9_fits_249 ?_
                refine x_dup2 hc dX9_fits_250 rfl rfl ?_
                obtain ⟨b17, h⟩ := ck_some h
                refine x_iald hc dX9_fits_251 (q_s hSH sm_20) (inb_in b17) ?_
                refine x_iconst hc dX9_fits_252 kc_1 ?_
                refine x_iload hc dX9_fits_253 4 rfl ?_
                refine x_bipush hc dX9_fits_255 kb_97 ?_
                refine x_isub hc dX9_fits_257 ?_
                refine x_ishl hc dX9_fits_258 ?_
                refine x_ior hc dX9_fits_259 ?_
                obtain ⟨b18, h⟩ := ck_some h
                refine x_iast hc dX9_fits_260 (q_s hSH sm_20) (inb_in b18) ?_
                refine x_aload_n hc dX9_fits_261 rfl 1 rfl ?_
                refine x_iload hc dX9_fits_262 4 rfl ?_
                refine x_bipush hc dX9_fits_264 kb_97 ?_
                refine x_isub hc dX9_fits_266 ?_
                obtain ⟨q19, h19, h⟩ := bd_some h
                refine x_callVi (As := [.int (x4 - (97 : Int32))]) (st := []) (o := 0) hc dX9_fits_267 cv_X9_inner lk_RX9_178 (q_s hSH sm_0) rfl rfl (q_cn hSH (S_Mo_inner h19)) (by decide) (Nat.le_of_ble_eq_true rfl) ?_
                refine x_istore_n (L2 := [(2, .int q19), (7, .int s0), (0, .ref 0), (3, .int x3), (4, .int x4), (5, .int x5), (6, .int x6)]) hc dX9_fits_270 rfl (by decide) rfl ?_
                refine x_iinc (v := x3 + (1 : Int32)) (L2 := [(3, .int (x3 + (1 : Int32))), (2, .int q19), (7, .int s0), (0, .ref 0), (4, .int x4), (5, .int x5), (6, .int x6)]) hc dX9_fits_271 3 rfl (by rw [kc_1]) (by decide) rfl ?_
                refine x_goto (tgt := 29) hc dX9_fits_274 (by decide) ?_
                cases h
                exact x_sub (kb (q19, x3 + (1 : Int32), u_i M 20 ((M.1 0 27) - (1 : Int32)).toNatClampNeg ((M.1 20 ((M.1 0 27) - (1 : Int32)).toNatClampNeg) ||| ((1 : Int32) <<< ((x4 - (97 : Int32)) &&& 31)))) rfl) [3, 1, 0] rfl
      · have h := ite_t hb h
        exact x_sub (S_Mo_fits_L29_J109 hc hSH x3 x4 M h kr ke kb) [1, 3, 4] rfl

def Mo_fits_L29_J72 (x2 : Int32) (x3 : Int32) (x4 : Int32) (x5 : Int32) (s0 : Int32) (M : QM) : Option (((Int32 × QM) ⊕ (QM)) ⊕ (Int32 × Int32 × QM)) :=
  (if s0 = (46 : Int32) then Mo_fits_L29_J86 x2 x3 x4 x5 s0 (1 : Int32) M else Mo_fits_L29_J86 x2 x3 x4 x5 s0 (0 : Int32) M)

set_option maxRecDepth 20000 in
set_option maxHeartbeats 2000000 in
theorem S_Mo_fits_L29_J72 {C : QC} (hc : OKX C RX9 cX9_fits 10 2 (some .int)) (hSH : q_SH C = SHM) (x2 : Int32) (x3 : Int32) (x4 : Int32) (x5 : Int32) (s0 : Int32) (M : QM) {res : ((Int32 × QM) ⊕ (QM)) ⊕ (Int32 × Int32 × QM)} (h : Mo_fits_L29_J72 x2 x3 x4 x5 s0 M = some res) (kr : ∀ x : Int32 × QM, res = .inl (.inl x) → q_r C = some (.int x.1) ∧ q_M C = x.2) (ke : ∀ x : QM, res = .inl (.inr x) → WX C 10 523 [] [] x) (kb : ∀ x : Int32 × Int32 × QM, res = .inr x → WX C 10 29 [(0, .ref 0), (2, .int x.1), (3, .int x.2.1)] [] x.2.2) : WX C 10 72 [(0, .ref 0), (2, .int x2), (3, .int x3), (4, .int x4), (5, .int x5)] [.int s0] M := by
  unfold Mo_fits_L29_J72 at h
  refine x_istore (L2 := [(6, .int s0), (0, .ref 0), (2, .int x2), (3, .int x3), (4, .int x4), (5, .int x5)]) hc dX9_fits_72 (by decide) rfl ?_
  refine x_iload hc dX9_fits_74 0 rfl ?_
  refine x_bipush hc dX9_fits_76 kb_46 ?_
  refine x_icmp_ne (tgt := 85) hc dX9_fits_78 (by decide) (fun hb => ?_) (fun hb => ?_)
  · have h := ite_f hb h
    refine x_iconst hc dX9_fits_85 kc_0 ?_
    exact x_sub (S_Mo_fits_L29_J86 hc hSH x2 x3 x4 x5 s0 (0 : Int32) M h kr ke kb) [1, 2, 3, 4, 5, 0] rfl
  · have h := ite_t hb h
    refine x_iconst hc dX9_fits_81 kc_1 ?_
    refine x_goto (tgt := 86) hc dX9_fits_82 (by decide) ?_
    exact x_sub (S_Mo_fits_L29_J86 hc hSH x2 x3 x4 x5 s0 (1 : Int32) M h kr ke kb) [1, 2, 3, 4, 5, 0] rfl

def Mo_fits_L29_J60 (x2 : Int32) (x3 : Int32) (x4 : Int32) (x5 : Int32) (M : QM) : Option (((Int32 × QM) ⊕ (QM)) ⊕ (Int32 × Int32 × QM)) :=
  Mo_fits_L29_J72 x2 x3 x4 x5 (46 : Int32) M

set_option maxRecDepth 20000 in
set_option maxHeartbeats 2000000 in
theorem S_Mo_fits_L29_J60 {C : QC} (hc : OKX C RX9 cX9_fits 10 2 (some .int)) (hSH : q_SH C = SHM) (x2 : Int32) (x3 : Int32) (x4 : Int32) (x5 : Int32) (M : QM) {res : ((Int32 × QM) ⊕ (QM)) ⊕ (Int32 × Int32 × QM)} (h : Mo_fits_L29_J60 x2 x3 x4 x5 M = some res) (kr : ∀ x : Int32 × QM, res = .inl (.inl x) → q_r C = some (.int x.1) ∧ q_M C = x.2) (ke : ∀ x : QM, res = .inl (.inr x) → WX C 10 523 [] [] x) (kb : ∀ x : Int32 × Int32 × QM, res = .inr x → WX C 10 29 [(0, .ref 0), (2, .int x.1), (3, .int x.2.1)] [] x.2.2) : WX C 10 60 [(0, .ref 0), (2, .int x2), (3, .int x3), (4, .int x4), (5, .int x5)] [] M := by
  unfold Mo_fits_L29_J60 at h
  refine x_bipush hc dX9_fits_60 kb_46 ?_
  refine x_goto (tgt := 72) hc dX9_fits_62 (by decide) ?_
  exact x_sub (S_Mo_fits_L29_J72 hc hSH x2 x3 x4 x5 (46 : Int32) M h kr ke kb) [0, 1, 2, 3, 4] rfl

def Mo_fits_B29 (v : Int32 × Int32 × QM) : Option (((Int32 × QM) ⊕ (QM)) ⊕ (Int32 × Int32 × QM)) :=
  (if (v.2.2.1 0 0) ≤ v.2.1 then some (.inl (.inr v.2.2)) else ck (inb v.2.1 100) ((if v.1 < 0 then Mo_fits_L29_J60 v.1 v.2.1 (v.2.2.1 1 v.2.1.toNatClampNeg) v.1 v.2.2 else (if v.1 = (100000 : Int32) then Mo_fits_L29_J60 v.1 v.2.1 (v.2.2.1 1 v.2.1.toNatClampNeg) v.1 v.2.2 else ck (inb v.1 60) (Mo_fits_L29_J72 v.1 v.2.1 (v.2.2.1 1 v.2.1.toNatClampNeg) v.1 (v.2.2.1 2 v.1.toNatClampNeg) v.2.2)))))

set_option maxRecDepth 20000 in
set_option maxHeartbeats 2000000 in
theorem S_Mo_fits_B29 {C : QC} (hc : OKX C RX9 cX9_fits 10 2 (some .int)) (hSH : q_SH C = SHM) (v : Int32 × Int32 × QM) {res : ((Int32 × QM) ⊕ (QM)) ⊕ (Int32 × Int32 × QM)} (h : Mo_fits_B29 v = some res) (kr : ∀ x : Int32 × QM, res = .inl (.inl x) → q_r C = some (.int x.1) ∧ q_M C = x.2) (ke : ∀ x : QM, res = .inl (.inr x) → WX C 10 523 [] [] x) (kb : ∀ x : Int32 × Int32 × QM, res = .inr x → WX C 10 29 [(0, .ref 0), (2, .int x.1), (3, .int x.2.1)] [] x.2.2) : WX C 10 29 [(0, .ref 0), (2, .int v.1), (3, .int v.2.1)] [] v.2.2 := by
  unfold Mo_fits_B29 at h
  refine x_iload_n hc dX9_fits_29 rfl 2 rfl ?_
  refine x_aload_n hc dX9_fits_30 rfl 0 rfl ?_
  refine x_getI hc dX9_fits_31 fl_RX9_88 (q_s hSH sm_0) rfl ?_
  refine x_icmp_ge (tgt := 523) hc dX9_fits_34 (by decide) (fun hb => ?_) (fun hb => ?_)
  · have h := ite_t hb h
    cases h
    exact x_sub (ke v.2.2 rfl) [] rfl
  · have h := ite_f hb h
    refine x_aload_n hc dX9_fits_37 rfl 0 rfl ?_
    refine x_getR hc dX9_fits_38 fl_RX9_7 (q_s hSH sm_0) rfl ?_
    refine x_iload_n hc dX9_fits_41 rfl 2 rfl ?_
    obtain ⟨b3, h⟩ := ck_some h
    refine x_iald hc dX9_fits_42 (q_s hSH sm_1) (inb_in b3) ?_
    refine x_istore (L2 := [(4, .int (v.2.2.1 1 v.2.1.toNatClampNeg)), (0, .ref 0), (2, .int v.1), (3, .int v.2.1)]) hc dX9_fits_43 (by decide) rfl ?_
    refine x_iload_n hc dX9_fits_45 rfl 2 rfl ?_
    refine x_istore (L2 := [(5, .int v.1), (4, .int (v.2.2.1 1 v.2.1.toNatClampNeg)), (0, .ref 0), (2, .int v.1), (3, .int v.2.1)]) hc dX9_fits_46 (by decide) rfl ?_
    refine x_iload hc dX9_fits_48 0 rfl ?_
    refine x_if_lt (tgt := 60) hc dX9_fits_50 (by decide) (fun hb => ?_) (fun hb => ?_)
    · have h := ite_t hb h
      exact x_sub (S_Mo_fits_L29_J60 hc hSH v.1 v.2.1 (v.2.2.1 1 v.2.1.toNatClampNeg) v.1 v.2.2 h kr ke kb) [2, 3, 4, 1, 0] rfl
    · have h := ite_f hb h
      refine x_iload hc dX9_fits_53 0 rfl ?_
      refine x_ldc hc dX9_fits_55 kd_RX9_137 ?_
      refine x_icmp_ne (tgt := 65) hc dX9_fits_57 (by decide) (fun hb => ?_) (fun hb => ?_)
      · have h := ite_f hb h
        refine x_aload_n hc dX9_fits_65 rfl 2 rfl ?_
        refine x_getR hc dX9_fits_66 fl_RX9_13 (q_s hSH sm_0) rfl ?_
        refine x_iload hc dX9_fits_69 0 rfl ?_
        obtain ⟨b20, h⟩ := ck_some h
        refine x_iald hc dX9_fits_71 (q_s hSH sm_2) (inb_in b20) ?_
        exact x_sub (S_Mo_fits_L29_J72 hc hSH v.1 v.2.1 (v.2.2.1 1 v.2.1.toNatClampNeg) v.1 (v.2.2.1 2 v.1.toNatClampNeg) v.2.2 h kr ke kb) [2, 3, 4, 1, 0] rfl
      · have h := ite_t hb h
        exact x_sub (S_Mo_fits_L29_J60 hc hSH v.1 v.2.1 (v.2.2.1 1 v.2.1.toNatClampNeg) v.1 v.2.2 h kr ke kb) [2, 3, 4, 1, 0] rfl

theorem S_Mo_fits_L29 {C : QC} (hc : OKX C RX9 cX9_fits 10 2 (some .int)) (hSH : q_SH C = SHM) {n : Nat} {v : Int32 × Int32 × QM} {e : (Int32 × QM) ⊕ (QM)} (h : iter (Mo_fits_B29) n v = some e) (kr : ∀ x : Int32 × QM, e = .inl x → q_r C = some (.int x.1) ∧ q_M C = x.2) (ke : ∀ x : QM, e = .inr x → WX C 10 523 [] [] x) : WX C 10 29 [(0, .ref 0), (2, .int v.1), (3, .int v.2.1)] [] v.2.2 :=
  iter_W (Wh := fun v => WX C 10 29 [(0, .ref 0), (2, .int v.1), (3, .int v.2.1)] [] v.2.2) (fun a res hB k1 k2 => S_Mo_fits_B29 hc hSH a hB (fun x hx => kr x (k1 _ hx).symm) (fun x hx => ke x (k1 _ hx).symm) k2) n v h

def Mo_fits (p1 : Int32) (M : QM) : Option (Int32 × QM) :=
  Option.bind (Mo_isNode p1 M) (fun q1 => (if q1 = 0 then some ((-1 : Int32), M) else Option.bind (Mo_slipOf M) (fun q2 => (if q2.1 < 0 then Option.bind (iter (Mo_fits_B29) FU (p1, (0 : Int32), u_i q2.2 0 27 (0 : Int32))) (fun e21 => Sum.elim (fun r21 => some r21) (fun y21 => some ((-6 : Int32), y21)) e21) else some ((-5 : Int32), q2.2)))))

set_option maxRecDepth 20000 in
set_option maxHeartbeats 2000000 in
theorem S_Mo_fits  {p1 : Int32} {M : QM} {res : Int32 × QM} (h : Mo_fits p1 M = some res) : Cn yX9_fits cX9_fits 10 (some .int) 2 SHM [.ref 0, .int p1] M (some (.int res.1)) res.2 := by
  refine q_enter (L := [(0, .ref 0), (1, .int p1)]) (by decide) (Nat.le_of_ble_eq_true rfl) rfl ?_
  intro C hc hSH hr hM
  have hc : OKX C RX9 cX9_fits 10 2 (some .int) := hc
  unfold Mo_fits at h
  refine x_aload_n hc dX9_fits_0 rfl 0 rfl ?_
  refine x_iload_n hc dX9_fits_1 rfl 1 rfl ?_
  obtain ⟨q1, h1, h⟩ := bd_some h
  refine x_callVi (As := [.int p1]) (st := []) (o := 0) hc dX9_fits_2 cv_X9_isNode lk_RX9_123 (q_s hSH sm_0) rfl rfl (q_cn hSH (S_Mo_isNode h1)) (by decide) (Nat.le_of_ble_eq_true rfl) ?_
  refine x_if_ne (tgt := 10) hc dX9_fits_5 (by decide) (fun hb => ?_) (fun hb => ?_)
  · have h := ite_f hb h
    refine x_aload_n hc dX9_fits_10 rfl 0 rfl ?_
    obtain ⟨q2, h2, h⟩ := bd_some h
    refine x_callVi (As := []) (st := []) (o := 0) hc dX9_fits_11 cv_X9_slipOf lk_RX9_175 (q_s hSH sm_0) rfl rfl (q_cn hSH (S_Mo_slipOf h2)) (by decide) (Nat.le_of_ble_eq_true rfl) ?_
    refine x_if_lt (tgt := 20) hc dX9_fits_14 (by decide) (fun hb => ?_) (fun hb => ?_)
    · have h := ite_t hb h
      refine x_aload_n hc dX9_fits_20 rfl 0 rfl ?_
      refine x_iconst hc dX9_fits_21 kc_0 ?_
      refine x_putI hc dX9_fits_22 fl_RX9_172 (fw_9_27 _) (q_s hSH sm_0) rfl ?_
      refine x_iload_n hc dX9_fits_25 rfl 1 rfl ?_
      refine x_istore_n (L2 := [(2, .int p1), (0, .ref 0), (1, .int p1)]) hc dX9_fits_26 rfl (by decide) rfl ?_
      refine x_iconst hc dX9_fits_27 kc_0 ?_
      refine x_istore_n (L2 := [(3, .int (0 : Int32)), (2, .int p1), (0, .ref 0), (1, .int p1)]) hc dX9_fits_28 rfl (by decide) rfl ?_
      obtain ⟨e21, h21, h⟩ := bd_some h
      refine x_sub (S_Mo_fits_L29 hc hSH (v := (p1, (0 : Int32), u_i q2.2 0 27 (0 : Int32))) h21 (fun r21 hx => ?_) (fun y21 hx => ?_)) [2, 1, 0] rfl
      · subst hx
        have h := sum_l h
        cases h
        exact ⟨hr, hM⟩
      · subst hx
        have h := sum_r h
        refine x_bipush hc dX9_fits_523 kb_m6 ?_
        cases h
        exact x_iret hc dX9_fits_525 hr hM
    · have h := ite_f hb h
      refine x_bipush hc dX9_fits_17 kb_m5 ?_
      cases h
      exact x_iret hc dX9_fits_19 hr hM
  · have h := ite_t hb h
    refine x_iconst hc dX9_fits_8 kc_m1 ?_
    cases h
    exact x_iret hc dX9_fits_9 hr hM

