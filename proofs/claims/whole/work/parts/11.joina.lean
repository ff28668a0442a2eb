def Jo_begin_J75 (M : QM) : Option (Int32 × QM) :=
  some ((-6 : Int32), u_i M 18 9 (1 : Int32))

set_option maxRecDepth 20000 in
set_option maxHeartbeats 2000000 in
theorem S_Jo_begin_J75 {C : QC} (hc : OKX C RX1 cX1_begin 6 1 (some .int)) (hSH : q_SH C = SHK) (M : QM) {res : Int32 × QM} (h : Jo_begin_J75 M = some res) (hr : q_r C = some (.int res.1)) (hM : q_M C = res.2) : WX C 6 75 [(0, .ref 18)] [] M := by
  unfold Jo_begin_J75 at h
  refine x_aload_n hc dX1_begin_75 rfl 0 rfl ?_
  refine x_iconst hc dX1_begin_76 kc_1 ?_
  refine x_putI hc dX1_begin_77 fl_RX1_42 (fw_1_9 _ (Or.inr rfl)) (q_s hSH sh_18) rfl ?_
  refine x_bipush hc dX1_begin_80 kb_m6 ?_
  cases h
  exact x_iret hc dX1_begin_82 hr hM

def Jo_begin_J36 (x1 : Int32) (x2 : Int32) (x3 : Int32) (x4 : Int32) (M : QM) : Option (Int32 × QM) :=
  Option.bind (Ne_addNode x4 M) (fun q3 => (if q3.1 < 0 then Jo_begin_J75 q3.2 else (if (60 : Int32) ≤ q3.1 then Jo_begin_J75 q3.2 else (if (q3.2.1 18 7) < 0 then Jo_begin_J75 q3.2 else (if (q3.2.1 18 7) < (60 : Int32) then ck (inb q3.1 60) (ck (inb q3.1 60) (ck (inb q3.1 60) (ck (inb q3.1 60) (ck (inb ((u_i (u_i (u_i (u_i q3.2 19 q3.1.toNatClampNeg x1) 20 q3.1.toNatClampNeg x2) 21 q3.1.toNatClampNeg x3) 22 q3.1.toNatClampNeg (0 : Int32)).1 18 7) 60) (some (q3.1, u_i (u_i (u_i (u_i (u_i (u_i q3.2 19 q3.1.toNatClampNeg x1) 20 q3.1.toNatClampNeg x2) 21 q3.1.toNatClampNeg x3) 22 q3.1.toNatClampNeg (0 : Int32)) 23 ((u_i (u_i (u_i (u_i q3.2 19 q3.1.toNatClampNeg x1) 20 q3.1.toNatClampNeg x2) 21 q3.1.toNatClampNeg x3) 22 q3.1.toNatClampNeg (0 : Int32)).1 18 7).toNatClampNeg q3.1) 18 7 (((u_i (u_i (u_i (u_i (u_i q3.2 19 q3.1.toNatClampNeg x1) 20 q3.1.toNatClampNeg x2) 21 q3.1.toNatClampNeg x3) 22 q3.1.toNatClampNeg (0 : Int32)) 23 ((u_i (u_i (u_i (u_i q3.2 19 q3.1.toNatClampNeg x1) 20 q3.1.toNatClampNeg x2) 21 q3.1.toNatClampNeg x3) 22 q3.1.toNatClampNeg (0 : Int32)).1 18 7).toNatClampNeg q3.1).1 18 7) + (1 : Int32)))))))) else Jo_begin_J75 q3.2)))))

set_option maxRecDepth 20000 in
set_option maxHeartbeats 2000000 in
theorem S_Jo_begin_J36 {C : QC} (hc : OKX C RX1 cX1_begin 6 1 (some .int)) (hSH : q_SH C = SHK) (x1 : Int32) (x2 : Int32) (x3 : Int32) (x4 : Int32) (M : QM) {res : Int32 × QM} (h : Jo_begin_J36 x1 x2 x3 x4 M = some res) (hr : q_r C = some (.int res.1)) (hM : q_M C = res.2) : WX C 6 36 [(0, .ref 18), (1, .int x1), (2, .int x2), (3, .int x3), (4, .int x4)] [] M := by
  unfold Jo_begin_J36 at h
  refine x_aload_n hc dX1_begin_36 rfl 0 rfl ?_
  refine x_getR hc dX1_begin_37 fl_RX1_9 (q_s hSH sh_18) rfl ?_
  refine x_iload hc dX1_begin_40 4 rfl ?_
  obtain ⟨q3, h3, h⟩ := bd_some h
  refine x_callVi (As := [.int x4]) (st := []) (o := 3) hc dX1_begin_42 cv_X3_addNode lk_RX1_108 (q_s hSH sh_3) rfl rfl (q_cn hSH (S_Ne_addNode h3)) (by decide) (Nat.le_of_ble_eq_true rfl) ?_
  refine x_istore (L2 := [(5, .int q3.1), (0, .ref 18), (1, .int x1), (2, .int x2), (3, .int x3), (4, .int x4)]) hc dX1_begin_45 (by decide) rfl ?_
  refine x_iload hc dX1_begin_47 0 rfl ?_
  refine x_if_lt (tgt := 75) hc dX1_begin_49 (by decide) (fun hb => ?_) (fun hb => ?_)
  · have h := ite_t hb h
    exact x_sub (S_Jo_begin_J75 hc hSH q3.2 h hr hM) [1] rfl
  · have h := ite_f hb h
    refine x_iload hc dX1_begin_52 0 rfl ?_
    refine x_bipush hc dX1_begin_54 kb_60 ?_
    refine x_icmp_ge (tgt := 75) hc dX1_begin_56 (by decide) (fun hb => ?_) (fun hb => ?_)
    · have h := ite_t hb h
      exact x_sub (S_Jo_begin_J75 hc hSH q3.2 h hr hM) [1] rfl
    · have h := ite_f hb h
      refine x_aload_n hc dX1_begin_59 rfl 1 rfl ?_
      refine x_getI hc dX1_begin_60 fl_RX1_35 (q_s hSH sh_18) rfl ?_
      refine x_if_lt (tgt := 75) hc dX1_begin_63 (by decide) (fun hb => ?_) (fun hb => ?_)
      · have h := ite_t hb h
        exact x_sub (S_Jo_begin_J75 hc hSH q3.2 h hr hM) [1] rfl
      · have h := ite_f hb h
        refine x_aload_n hc dX1_begin_66 rfl 1 rfl ?_
        refine x_getI hc dX1_begin_67 fl_RX1_35 (q_s hSH sh_18) rfl ?_
        refine x_bipush hc dX1_begin_70 kb_60 ?_
        refine x_icmp_lt (tgt := 83) hc dX1_begin_72 (by decide) (fun hb => ?_) (fun hb => ?_)
        · have h := ite_t hb h
          refine x_aload_n hc dX1_begin_83 rfl 1 rfl ?_
          refine x_getR hc dX1_begin_84 fl_RX1_19 (q_s hSH sh_18) rfl ?_
          refine x_iload hc dX1_begin_87 0 rfl ?_
          refine x_iload_n hc dX1_begin_89 rfl 2 rfl ?_
          obtain ⟨b4, h⟩ := ck_some h
          refine x_iast hc dX1_begin_90 (q_s hSH sh_19) (inb_in b4) ?_
          refine x_aload_n hc dX1_begin_91 rfl 1 rfl ?_
          refine x_getR hc dX1_begin_92 fl_RX1_23 (q_s hSH sh_18) rfl ?_
          refine x_iload hc dX1_begin_95 0 rfl ?_
          refine x_iload_n hc dX1_begin_97 rfl 3 rfl ?_
          obtain ⟨b5, h⟩ := ck_some h
          refine x_iast hc dX1_begin_98 (q_s hSH sh_20) (inb_in b5) ?_
          refine x_aload_n hc dX1_begin_99 rfl 1 rfl ?_
          refine x_getR hc dX1_begin_100 fl_RX1_26 (q_s hSH sh_18) rfl ?_
          refine x_iload hc dX1_begin_103 0 rfl ?_
          refine x_iload_n hc dX1_begin_105 rfl 4 rfl ?_
          obtain ⟨b6, h⟩ := ck_some h
          refine x_iast hc dX1_begin_106 (q_s hSH sh_21) (inb_in b6) ?_
          refine x_aload_n hc dX1_begin_107 rfl 1 rfl ?_
          refine x_getR hc dX1_begin_108 fl_RX1_29 (q_s hSH sh_18) rfl ?_
          refine x_iload hc dX1_begin_111 0 rfl ?_
          refine x_iconst hc dX1_begin_113 kc_0 ?_
          obtain ⟨b7, h⟩ := ck_some h
          refine x_iast hc dX1_begin_114 (q_s hSH sh_22) (inb_in b7) ?_
          refine x_aload_n hc dX1_begin_115 rfl 1 rfl ?_
          refine x_getR hc dX1_begin_116 fl_RX1_32 (q_s hSH sh_18) rfl ?_
          refine x_aload_n hc dX1_begin_119 rfl 1 rfl ?_
          refine x_getI hc dX1_begin_120 fl_RX1_35 (q_s hSH sh_18) rfl ?_
          refine x_iload hc dX1_begin_123 0 rfl ?_
          obtain ⟨b8, h⟩ := ck_some h
          refine x_iast hc dX1_begin_125 (q_s hSH sh_23) (inb_in b8) ?_
          refine x_aload_n hc dX1_begin_126 rfl 1 rfl ?_
          refine x_dup hc dX1_begin_127 rfl ?_
          refine x_getI hc dX1_begin_128 fl_RX1_35 (q_s hSH sh_18) rfl ?_
          refine x_iconst hc dX1_begin_131 kc_1 ?_
          refine x_iadd hc dX1_begin_132 ?_
          refine x_putI hc dX1_begin_133 fl_RX1_35 (fw_1_7 _) (q_s hSH sh_18) rfl ?_
          refine x_iload hc dX1_begin_136 0 rfl ?_
          cases h
          exact x_iret hc dX1_begin_138 hr hM
        · have h := ite_f hb h
          exact x_sub (S_Jo_begin_J75 hc hSH q3.2 h hr hM) [1] rfl

def Jo_begin_J34 (x1 : Int32) (x2 : Int32) (x3 : Int32) (s0 : Int32) (M : QM) : Option (Int32 × QM) :=
  Jo_begin_J36 x1 x2 x3 s0 M

set_option maxRecDepth 20000 in
set_option maxHeartbeats 2000000 in
theorem S_Jo_begin_J34 {C : QC} (hc : OKX C RX1 cX1_begin 6 1 (some .int)) (hSH : q_SH C = SHK) (x1 : Int32) (x2 : Int32) (x3 : Int32) (s0 : Int32) (M : QM) {res : Int32 × QM} (h : Jo_begin_J34 x1 x2 x3 s0 M = some res) (hr : q_r C = some (.int res.1)) (hM : q_M C = res.2) : WX C 6 34 [(0, .ref 18), (1, .int x1), (2, .int x2), (3, .int x3)] [.int s0] M := by
  unfold Jo_begin_J34 at h
  refine x_istore (L2 := [(4, .int s0), (0, .ref 18), (1, .int x1), (2, .int x2), (3, .int x3)]) hc dX1_begin_34 (by decide) rfl ?_
  exact x_sub (S_Jo_begin_J36 hc hSH x1 x2 x3 s0 M h hr hM) [1, 2, 3, 4, 0] rfl

def Jo_begin (p1 : Int32) (p2 : Int32) (p3 : Int32) (M : QM) : Option (Int32 × QM) :=
  Option.bind (Ne_signOf p1 M) (fun q1 => Option.bind (Ne_signOf p2 M) (fun q2 => (if q1 = q2 then Jo_begin_J36 p1 p2 p3 q1 M else (if p3 = 0 then Jo_begin_J34 p1 p2 p3 (46 : Int32) M else Jo_begin_J34 p1 p2 p3 (33 : Int32) M))))

set_option maxRecDepth 20000 in
set_option maxHeartbeats 2000000 in
theorem S_Jo_begin  {p1 : Int32} {p2 : Int32} {p3 : Int32} {M : QM} {res : Int32 × QM} (h : Jo_begin p1 p2 p3 M = some res) : Cn yX1_begin cX1_begin 6 (some .int) 1 SHK [.ref 18, .int p1, .int p2, .int p3] M (some (.int res.1)) res.2 := by
  refine q_enter (L := [(0, .ref 18), (1, .int p1), (2, .int p2), (3, .int p3)]) (by decide) (Nat.le_of_ble_eq_true rfl) rfl ?_
  intro C hc hSH hr hM
  have hc : OKX C RX1 cX1_begin 6 1 (some .int) := hc
  unfold Jo_begin at h
  refine x_aload_n hc dX1_begin_0 rfl 0 rfl ?_
  refine x_getR hc dX1_begin_1 fl_RX1_9 (q_s hSH sh_18) rfl ?_
  refine x_iload_n hc dX1_begin_4 rfl 1 rfl ?_
  obtain ⟨q1, h1, h⟩ := bd_some h
  refine x_callVi (As := [.int p1]) (st := []) (o := 3) hc dX1_begin_5 cv_X3_signOf lk_RX1_76 (q_s hSH sh_3) rfl rfl (q_cn hSH (S_Ne_signOf h1)) (by decide) (Nat.le_of_ble_eq_true rfl) ?_
  refine x_istore (L2 := [(4, .int q1), (0, .ref 18), (1, .int p1), (2, .int p2), (3, .int p3)]) hc dX1_begin_8 (by decide) rfl ?_
  refine x_iload hc dX1_begin_10 0 rfl ?_
  refine x_aload_n hc dX1_begin_12 rfl 1 rfl ?_
  refine x_getR hc dX1_begin_13 fl_RX1_9 (q_s hSH sh_18) rfl ?_
  refine x_iload_n hc dX1_begin_16 rfl 3 rfl ?_
  obtain ⟨q2, h2, h⟩ := bd_some h
  refine x_callVi (As := [.int p2]) (st := [.int q1]) (o := 3) hc dX1_begin_17 cv_X3_signOf lk_RX1_76 (q_s hSH sh_3) rfl rfl (q_cn hSH (S_Ne_signOf h2)) (by decide) (Nat.le_of_ble_eq_true rfl) ?_
  refine x_icmp_eq (tgt := 36) hc dX1_begin_20 (by decide) (fun hb => ?_) (fun hb => ?_)
  · have h := ite_t hb h
    exact x_sub (S_Jo_begin_J36 hc hSH p1 p2 p3 q1 M h hr hM) [1, 2, 3, 4, 0] rfl
  · have h := ite_f hb h
    refine x_iload_n hc dX1_begin_23 rfl 4 rfl ?_
    refine x_if_ne (tgt := 32) hc dX1_begin_24 (by decide) (fun hb => ?_) (fun hb => ?_)
    · have h := ite_f hb h
      refine x_bipush hc dX1_begin_32 kb_33 ?_
      exact x_sub (S_Jo_begin_J34 hc hSH p1 p2 p3 (33 : Int32) M h hr hM) [1, 2, 3, 4] rfl
    · have h := ite_t hb h
      refine x_bipush hc dX1_begin_27 kb_46 ?_
      refine x_goto (tgt := 34) hc dX1_begin_29 (by decide) ?_
      exact x_sub (S_Jo_begin_J34 hc hSH p1 p2 p3 (46 : Int32) M h hr hM) [1, 2, 3, 4] rfl

def Jo_hasParts (p0 : Int32) (M : QM) : Option (Int32) :=
  (if p0 = (123 : Int32) then some (1 : Int32) else (if p0 = (91 : Int32) then some (1 : Int32) else (if p0 = (42 : Int32) then some (1 : Int32) else (if p0 = (62 : Int32) then some (1 : Int32) else some (0 : Int32)))))

set_option maxRecDepth 20000 in
set_option maxHeartbeats 2000000 in
theorem S_Jo_hasParts  {p0 : Int32} {M : QM} {res : Int32} (h : Jo_hasParts p0 M = some res) : Cn yX1_hasParts cX1_hasParts 1 (some .boolean) 0 SHK [.int p0] M (some (.int res)) M := by
  refine q_enter (L := [(0, .int p0)]) (by decide) (Nat.le_of_ble_eq_true rfl) rfl ?_
  intro C hc hSH hr hM
  have hc : OKX C RX1 cX1_hasParts 1 0 (some .boolean) := hc
  unfold Jo_hasParts at h
  refine x_iload_n hc dX1_hasParts_0 rfl 0 rfl ?_
  refine x_bipush hc dX1_hasParts_1 kb_123 ?_
  refine x_icmp_eq (tgt := 24) hc dX1_hasParts_3 (by decide) (fun hb => ?_) (fun hb => ?_)
  · have h := ite_t hb h
    refine x_iconst hc dX1_hasParts_24 kc_1 ?_
    refine x_goto (tgt := 29) hc dX1_hasParts_25 (by decide) ?_
    cases h
    exact x_zret hc dX1_hasParts_29 nar_1 hr hM
  · have h := ite_f hb h
    refine x_iload_n hc dX1_hasParts_6 rfl 0 rfl ?_
    refine x_bipush hc dX1_hasParts_7 kb_91 ?_
    refine x_icmp_eq (tgt := 24) hc dX1_hasParts_9 (by decide) (fun hb => ?_) (fun hb => ?_)
    · have h := ite_t hb h
      refine x_iconst hc dX1_hasParts_24 kc_1 ?_
      refine x_goto (tgt := 29) hc dX1_hasParts_25 (by decide) ?_
      cases h
      exact x_zret hc dX1_hasParts_29 nar_1 hr hM
    · have h := ite_f hb h
      refine x_iload_n hc dX1_hasParts_12 rfl 0 rfl ?_
      refine x_bipush hc dX1_hasParts_13 kb_42 ?_
      refine x_icmp_eq (tgt := 24) hc dX1_hasParts_15 (by decide) (fun hb => ?_) (fun hb => ?_)
      · have h := ite_t hb h
        refine x_iconst hc dX1_hasParts_24 kc_1 ?_
        refine x_goto (tgt := 29) hc dX1_hasParts_25 (by decide) ?_
        cases h
        exact x_zret hc dX1_hasParts_29 nar_1 hr hM
      · have h := ite_f hb h
        refine x_iload_n hc dX1_hasParts_18 rfl 0 rfl ?_
        refine x_bipush hc dX1_hasParts_19 kb_62 ?_
        refine x_icmp_ne (tgt := 28) hc dX1_hasParts_21 (by decide) (fun hb => ?_) (fun hb => ?_)
        · have h := ite_f hb h
          refine x_iconst hc dX1_hasParts_28 kc_0 ?_
          cases h
          exact x_zret hc dX1_hasParts_29 nar_0 hr hM
        · have h := ite_t hb h
          refine x_iconst hc dX1_hasParts_24 kc_1 ?_
          refine x_goto (tgt := 29) hc dX1_hasParts_25 (by decide) ?_
          cases h
          exact x_zret hc dX1_hasParts_29 nar_1 hr hM

def Jo_keepsAll_J11 (x0 : Int32) (x1 : Int32) (M : QM) : Option (Int32) :=
  (if x0 = (91 : Int32) then (if x1 = 0 then some (1 : Int32) else some (0 : Int32)) else some (0 : Int32))

set_option maxRecDepth 20000 in
set_option maxHeartbeats 2000000 in
theorem S_Jo_keepsAll_J11 {C : QC} (hc : OKX C RX1 cX1_keepsAll 2 0 (some .boolean)) (hSH : q_SH C = SHK) (x0 : Int32) (x1 : Int32) (M : QM) {res : Int32} (h : Jo_keepsAll_J11 x0 x1 M = some res) (hr : q_r C = some (.int res)) (hM : q_M C = M) : WX C 2 11 [(0, .int x0), (1, .int x1)] [] M := by
  unfold Jo_keepsAll_J11 at h
  refine x_iload_n hc dX1_keepsAll_11 rfl 0 rfl ?_
  refine x_bipush hc dX1_keepsAll_12 kb_91 ?_
  refine x_icmp_ne (tgt := 25) hc dX1_keepsAll_14 (by decide) (fun hb => ?_) (fun hb => ?_)
  · have h := ite_f hb h
    refine x_iconst hc dX1_keepsAll_25 kc_0 ?_
    cases h
    exact x_zret hc dX1_keepsAll_26 nar_0 hr hM
  · have h := ite_t hb h
    refine x_iload_n hc dX1_keepsAll_17 rfl 1 rfl ?_
    refine x_if_ne (tgt := 25) hc dX1_keepsAll_18 (by decide) (fun hb => ?_) (fun hb => ?_)
    · have h := ite_f hb h
      refine x_iconst hc dX1_keepsAll_25 kc_0 ?_
      cases h
      exact x_zret hc dX1_keepsAll_26 nar_0 hr hM
    · have h := ite_t hb h
      refine x_iconst hc dX1_keepsAll_21 kc_1 ?_
      refine x_goto (tgt := 26) hc dX1_keepsAll_22 (by decide) ?_
      cases h
      exact x_zret hc dX1_keepsAll_26 nar_1 hr hM

def Jo_keepsAll (p0 : Int32) (p1 : Int32) (M : QM) : Option (Int32) :=
  (if p0 = (123 : Int32) then (if p1 = (1 : Int32) then some (1 : Int32) else Jo_keepsAll_J11 p0 p1 M) else Jo_keepsAll_J11 p0 p1 M)

set_option maxRecDepth 20000 in
set_option maxHeartbeats 2000000 in
theorem S_Jo_keepsAll  {p0 : Int32} {p1 : Int32} {M : QM} {res : Int32} (h : Jo_keepsAll p0 p1 M = some res) : Cn yX1_keepsAll cX1_keepsAll 2 (some .boolean) 0 SHK [.int p0, .int p1] M (some (.int res)) M := by
  refine q_enter (L := [(0, .int p0), (1, .int p1)]) (by decide) (Nat.le_of_ble_eq_true rfl) rfl ?_
  intro C hc hSH hr hM
  have hc : OKX C RX1 cX1_keepsAll 2 0 (some .boolean) := hc
  unfold Jo_keepsAll at h
  refine x_iload_n hc dX1_keepsAll_0 rfl 0 rfl ?_
  refine x_bipush hc dX1_keepsAll_1 kb_123 ?_
  refine x_icmp_ne (tgt := 11) hc dX1_keepsAll_3 (by decide) (fun hb => ?_) (fun hb => ?_)
  · have h := ite_f hb h
    exact x_sub (S_Jo_keepsAll_J11 hc hSH p0 p1 M h hr hM) [0, 1] rfl
  · have h := ite_t hb h
    refine x_iload_n hc dX1_keepsAll_6 rfl 1 rfl ?_
    refine x_iconst hc dX1_keepsAll_7 kc_1 ?_
    refine x_icmp_eq (tgt := 21) hc dX1_keepsAll_8 (by decide) (fun hb => ?_) (fun hb => ?_)
    · have h := ite_t hb h
      refine x_iconst hc dX1_keepsAll_21 kc_1 ?_
      refine x_goto (tgt := 26) hc dX1_keepsAll_22 (by decide) ?_
      cases h
      exact x_zret hc dX1_keepsAll_26 nar_1 hr hM
    · have h := ite_f hb h
      exact x_sub (S_Jo_keepsAll_J11 hc hSH p0 p1 M h hr hM) [0, 1] rfl

def Jo_madeFor_B10 (x1 : Int32) (x2 : Int32) (x3 : Int32) (M : QM) (v : Int32) : Option (((Int32) ⊕ (Unit)) ⊕ (Int32)) :=
  Option.bind (Ne_nodes M) (fun q1 => (if q1 ≤ v then some (.inl (.inr ())) else (if (60 : Int32) ≤ v then some (.inl (.inr ())) else ck (inb v 60) ((if (M.1 19 v.toNatClampNeg) = x1 then ck (inb v 60) ((if (M.1 20 v.toNatClampNeg) = x2 then ck (inb v 60) ((if (M.1 21 v.toNatClampNeg) = x3 then some (.inl (.inl v)) else some (.inr (v + (1 : Int32))))) else some (.inr (v + (1 : Int32))))) else some (.inr (v + (1 : Int32))))))))

set_option maxRecDepth 20000 in
set_option maxHeartbeats 2000000 in
theorem S_Jo_madeFor_B10 {C : QC} (hc : OKX C RX1 cX1_madeFor 5 1 (some .int)) (hSH : q_SH C = SHK) (x1 : Int32) (x2 : Int32) (x3 : Int32) (M : QM) (v : Int32) {res : ((Int32) ⊕ (Unit)) ⊕ (Int32)} (h : Jo_madeFor_B10 x1 x2 x3 M v = some res) (kr : ∀ x : Int32, res = .inl (.inl x) → q_r C = some (.int x) ∧ q_M C = M) (ke : ∀ x : Unit, res = .inl (.inr x) → WX C 5 71 [] [] M) (kb : ∀ x : Int32, res = .inr x → WX C 5 10 [(0, .ref 18), (1, .int x1), (2, .int x2), (3, .int x3), (4, .int x)] [] M) : WX C 5 10 [(0, .ref 18), (1, .int x1), (2, .int x2), (3, .int x3), (4, .int v)] [] M := by
  unfold Jo_madeFor_B10 at h
  refine x_iload hc dX1_madeFor_10 4 rfl ?_
  refine x_aload_n hc dX1_madeFor_12 rfl 0 rfl ?_
  refine x_getR hc dX1_madeFor_13 fl_RX1_9 (q_s hSH sh_18) rfl ?_
  obtain ⟨q1, h1, h⟩ := bd_some h
  refine x_callVi (As := []) (st := [.int v]) (o := 3) hc dX1_madeFor_16 cv_X3_nodes lk_RX1_51 (q_s hSH sh_3) rfl rfl (q_cn hSH (S_Ne_nodes h1)) (by decide) (Nat.le_of_ble_eq_true rfl) ?_
  refine x_icmp_ge (tgt := 71) hc dX1_madeFor_19 (by decide) (fun hb => ?_) (fun hb => ?_)
  · have h := ite_t hb h
    cases h
    exact x_sub (ke () rfl) [] rfl
  · have h := ite_f hb h
    refine x_iload hc dX1_madeFor_22 4 rfl ?_
    refine x_bipush hc dX1_madeFor_24 kb_60 ?_
    refine x_icmp_ge (tgt := 71) hc dX1_madeFor_26 (by decide) (fun hb => ?_) (fun hb => ?_)
    · have h := ite_t hb h
      cases h
      exact x_sub (ke () rfl) [] rfl
    · have h := ite_f hb h
      refine x_aload_n hc dX1_madeFor_29 rfl 0 rfl ?_
      refine x_getR hc dX1_madeFor_30 fl_RX1_19 (q_s hSH sh_18) rfl ?_
      refine x_iload hc dX1_madeFor_33 4 rfl ?_
      obtain ⟨b2, h⟩ := ck_some h
      refine x_iald hc dX1_madeFor_35 (q_s hSH sh_19) (inb_in b2) ?_
      refine x_iload_n hc dX1_madeFor_36 rfl 1 rfl ?_
      refine x_icmp_ne (tgt := 65) hc dX1_madeFor_37 (by decide) (fun hb => ?_) (fun hb => ?_)
      · have h := ite_f hb h
        refine x_iinc (v := v + (1 : Int32)) (L2 := [(4, .int (v + (1 : Int32))), (0, .ref 18), (1, .int x1), (2, .int x2), (3, .int x3)]) hc dX1_madeFor_65 4 rfl (by rw [kc_1]) (by decide) rfl ?_
        refine x_goto (tgt := 10) hc dX1_madeFor_68 (by decide) ?_
        cases h
        exact x_sub (kb (v + (1 : Int32)) rfl) [1, 2, 3, 4, 0] rfl
      · have h := ite_t hb h
        refine x_aload_n hc dX1_madeFor_40 rfl 0 rfl ?_
        refine x_getR hc dX1_madeFor_41 fl_RX1_23 (q_s hSH sh_18) rfl ?_
        refine x_iload hc dX1_madeFor_44 4 rfl ?_
        obtain ⟨b3, h⟩ := ck_some h
        refine x_iald hc dX1_madeFor_46 (q_s hSH sh_20) (inb_in b3) ?_
        refine x_iload_n hc dX1_madeFor_47 rfl 2 rfl ?_
        refine x_icmp_ne (tgt := 65) hc dX1_madeFor_48 (by decide) (fun hb => ?_) (fun hb => ?_)
        · have h := ite_f hb h
          refine x_iinc (v := v + (1 : Int32)) (L2 := [(4, .int (v + (1 : Int32))), (0, .ref 18), (1, .int x1), (2, .int x2), (3, .int x3)]) hc dX1_madeFor_65 4 rfl (by rw [kc_1]) (by decide) rfl ?_
          refine x_goto (tgt := 10) hc dX1_madeFor_68 (by decide) ?_
          cases h
          exact x_sub (kb (v + (1 : Int32)) rfl) [1, 2, 3, 4, 0] rfl
        · have h := ite_t hb h
          refine x_aload_n hc dX1_madeFor_51 rfl 0 rfl ?_
          refine x_getR hc dX1_madeFor_52 fl_RX1_26 (q_s hSH sh_18) rfl ?_
          refine x_iload hc dX1_madeFor_55 4 rfl ?_
          obtain ⟨b4, h⟩ := ck_some h
          refine x_iald hc dX1_madeFor_57 (q_s hSH sh_21) (inb_in b4) ?_
          refine x_iload_n hc dX1_madeFor_58 rfl 3 rfl ?_
          refine x_icmp_ne (tgt := 65) hc dX1_madeFor_59 (by decide) (fun hb => ?_) (fun hb => ?_)
          · have h := ite_f hb h
            refine x_iinc (v := v + (1 : Int32)) (L2 := [(4, .int (v + (1 : Int32))), (0, .ref 18), (1, .int x1), (2, .int x2), (3, .int x3)]) hc dX1_madeFor_65 4 rfl (by rw [kc_1]) (by decide) rfl ?_
            refine x_goto (tgt := 10) hc dX1_madeFor_68 (by decide) ?_
            cases h
            exact x_sub (kb (v + (1 : Int32)) rfl) [1, 2, 3, 4, 0] rfl
          · have h := ite_t hb h
            refine x_iload hc dX1_madeFor_62 4 rfl ?_
            cases h
            exact x_iret hc dX1_madeFor_64 (kr _ rfl).1 (kr _ rfl).2

theorem S_Jo_madeFor_L10 {C : QC} (hc : OKX C RX1 cX1_madeFor 5 1 (some .int)) (hSH : q_SH C = SHK) (x1 : Int32) (x2 : Int32) (x3 : Int32) (M : QM) {n : Nat} {v : Int32} {e : (Int32) ⊕ (Unit)} (h : iter (Jo_madeFor_B10 x1 x2 x3 M) n v = some e) (kr : ∀ x : Int32, e = .inl x → q_r C = some (.int x) ∧ q_M C = M) (ke : ∀ x : Unit, e = .inr x → WX C 5 71 [] [] M) : WX C 5 10 [(0, .ref 18), (1, .int x1), (2, .int x2), (3, .int x3), (4, .int v)] [] M :=
  iter_W (Wh := fun v => WX C 5 10 [(0, .ref 18), (1, .int x1), (2, .int x2), (3, .int x3), (4, .int v)] [] M) (fun a res hB k1 k2 => S_Jo_madeFor_B10 hc hSH x1 x2 x3 M a hB (fun x hx => kr x (k1 _ hx).symm) (fun x hx => ke x (k1 _ hx).symm) k2) n v h

def Jo_madeFor (p1 : Int32) (p2 : Int32) (p3 : Int32) (M : QM) : Option (Int32) :=
  Option.bind (iter (Jo_madeFor_B10 p1 p2 p3 M) FU (if (M.1 18 8) < (0 : Int32) then (0 : Int32) else (M.1 18 8))) (fun e5 => Sum.elim (fun r5 => some r5) (fun y5 => some (-6 : Int32)) e5)

set_option maxRecDepth 20000 in
set_option maxHeartbeats 2000000 in
theorem S_Jo_madeFor  {p1 : Int32} {p2 : Int32} {p3 : Int32} {M : QM} {res : Int32} (h : Jo_madeFor p1 p2 p3 M = some res) : Cn yX1_madeFor cX1_madeFor 5 (some .int) 1 SHK [.ref 18, .int p1, .int p2, .int p3] M (some (.int res)) M := by
  refine q_enter (L := [(0, .ref 18), (1, .int p1), (2, .int p2), (3, .int p3)]) (by decide) (Nat.le_of_ble_eq_true rfl) rfl ?_
  intro C hc hSH hr hM
  have hc : OKX C RX1 cX1_madeFor 5 1 (some .int) := hc
  unfold Jo_madeFor at h
  refine x_aload_n hc dX1_madeFor_0 rfl 0 rfl ?_
  refine x_getI hc dX1_madeFor_1 fl_RX1_39 (q_s hSH sh_18) rfl ?_
  refine x_iconst hc dX1_madeFor_4 kc_0 ?_
  refine x_mmax hc dX1_madeFor_5 mw_mmax lk_RX1_94 (by decide) (Nat.le_of_ble_eq_true rfl) ?_
  refine x_istore (L2 := [(4, .int (if (M.1 18 8) < (0 : Int32) then (0 : Int32) else (M.1 18 8))), (0, .ref 18), (1, .int p1), (2, .int p2), (3, .int p3)]) hc dX1_madeFor_8 (by decide) rfl ?_
  obtain ⟨e5, h5, h⟩ := bd_some h
  refine x_sub (S_Jo_madeFor_L10 hc hSH p1 p2 p3 M (v := if (M.1 18 8) < (0 : Int32) then (0 : Int32) else (M.1 18 8)) h5 (fun r5 hx => ?_) (fun y5 hx => ?_)) [1, 2, 3, 4, 0] rfl
  · subst hx
    have h := sum_l h
    cases h
    exact ⟨hr, hM⟩
  · subst hx
    have h := sum_r h
    refine x_bipush hc dX1_madeFor_71 kb_m6 ?_
    cases h
    exact x_iret hc dX1_madeFor_73 hr hM

def Jo_nodeFor_J62 (x1 : Int32) (x2 : Int32) (s0 : Int32) (M : QM) : Option (Int32 × QM) :=
  (if s0 = 0 then some (x2, M) else some (x1, M))

set_option maxRecDepth 20000 in
set_option maxHeartbeats 2000000 in
theorem S_Jo_nodeFor_J62 {C : QC} (hc : OKX C RX1 cX1_nodeFor 7 3 (some .int)) (hSH : q_SH C = SHK) (x1 : Int32) (x2 : Int32) (s0 : Int32) (M : QM) {res : Int32 × QM} (h : Jo_nodeFor_J62 x1 x2 s0 M = some res) (hr : q_r C = some (.int res.1)) (hM : q_M C = res.2) : WX C 7 62 [(1, .int x1), (2, .int x2)] [.int s0] M := by
  unfold Jo_nodeFor_J62 at h
  refine x_istore (L2 := [(6, .int s0), (1, .int x1), (2, .int x2)]) hc dX1_nodeFor_62 (by decide) rfl ?_
  refine x_iload hc dX1_nodeFor_64 0 rfl ?_
  refine x_if_eq (tgt := 73) hc dX1_nodeFor_66 (by decide) (fun hb => ?_) (fun hb => ?_)
  · have h := ite_t hb h
    refine x_iload_n hc dX1_nodeFor_73 rfl 2 rfl ?_
    cases h
    exact x_iret hc dX1_nodeFor_74 hr hM
  · have h := ite_f hb h
    refine x_iload_n hc dX1_nodeFor_69 rfl 1 rfl ?_
    refine x_goto (tgt := 74) hc dX1_nodeFor_70 (by decide) ?_
    cases h
    exact x_iret hc dX1_nodeFor_74 hr hM

def Jo_nodeFor_J57 (x1 : Int32) (x2 : Int32) (M : QM) : Option (Int32 × QM) :=
  Jo_nodeFor_J62 x1 x2 (1 : Int32) M

set_option maxRecDepth 20000 in
set_option maxHeartbeats 2000000 in
theorem S_Jo_nodeFor_J57 {C : QC} (hc : OKX C RX1 cX1_nodeFor 7 3 (some .int)) (hSH : q_SH C = SHK) (x1 : Int32) (x2 : Int32) (M : QM) {res : Int32 × QM} (h : Jo_nodeFor_J57 x1 x2 M = some res) (hr : q_r C = some (.int res.1)) (hM : q_M C = res.2) : WX C 7 57 [(1, .int x1), (2, .int x2)] [] M := by
  unfold Jo_nodeFor_J57 at h
  refine x_iconst hc dX1_nodeFor_57 kc_1 ?_
  refine x_goto (tgt := 62) hc dX1_nodeFor_58 (by decide) ?_
  exact x_sub (S_Jo_nodeFor_J62 hc hSH x1 x2 (1 : Int32) M h hr hM) [0, 1] rfl

def Jo_nodeFor_J54 (x1 : Int32) (x2 : Int32) (s0 : Int32) (s1 : Int32) (M : QM) : Option (Int32 × QM) :=
  (if s1 = s0 then Jo_nodeFor_J57 x1 x2 M else Jo_nodeFor_J62 x1 x2 (0 : Int32) M)

set_option maxRecDepth 20000 in
set_option maxHeartbeats 2000000 in
theorem S_Jo_nodeFor_J54 {C : QC} (hc : OKX C RX1 cX1_nodeFor 7 3 (some .int)) (hSH : q_SH C = SHK) (x1 : Int32) (x2 : Int32) (s0 : Int32) (s1 : Int32) (M : QM) {res : Int32 × QM} (h : Jo_nodeFor_J54 x1 x2 s0 s1 M = some res) (hr : q_r C = some (.int res.1)) (hM : q_M C = res.2) : WX C 7 54 [(1, .int x1), (2, .int x2)] [.int s0, .int s1] M := by
  unfold Jo_nodeFor_J54 at h
  refine x_icmp_ne (tgt := 61) hc dX1_nodeFor_54 (by decide) (fun hb => ?_) (fun hb => ?_)
  · have h := ite_f hb h
    refine x_iconst hc dX1_nodeFor_61 kc_0 ?_
    exact x_sub (S_Jo_nodeFor_J62 hc hSH x1 x2 (0 : Int32) M h hr hM) [0, 1] rfl
  · have h := ite_t hb h
    exact x_sub (S_Jo_nodeFor_J57 hc hSH x1 x2 M h hr hM) [0, 1] rfl

def Jo_nodeFor_J42 (x1 : Int32) (x2 : Int32) (x3 : Int32) (x4 : Int32) (M : QM) : Option (Int32 × QM) :=
  (if x3 = (1 : Int32) then Jo_nodeFor_J54 x1 x2 (1 : Int32) x4 M else Jo_nodeFor_J54 x1 x2 (0 : Int32) x4 M)

set_option maxRecDepth 20000 in
set_option maxHeartbeats 2000000 in
theorem S_Jo_nodeFor_J42 {C : QC} (hc : OKX C RX1 cX1_nodeFor 7 3 (some .int)) (hSH : q_SH C = SHK) (x1 : Int32) (x2 : Int32) (x3 : Int32) (x4 : Int32) (M : QM) {res : Int32 × QM} (h : Jo_nodeFor_J42 x1 x2 x3 x4 M = some res) (hr : q_r C = some (.int res.1)) (hM : q_M C = res.2) : WX C 7 42 [(1, .int x1), (2, .int x2), (3, .int x3), (4, .int x4)] [] M := by
  unfold Jo_nodeFor_J42 at h
  refine x_iload hc dX1_nodeFor_42 3 rfl ?_
  refine x_iload_n hc dX1_nodeFor_44 rfl 2 rfl ?_
  refine x_iconst hc dX1_nodeFor_45 kc_1 ?_
  refine x_icmp_ne (tgt := 53) hc dX1_nodeFor_46 (by decide) (fun hb => ?_) (fun hb => ?_)
  · have h := ite_f hb h
    refine x_iconst hc dX1_nodeFor_53 kc_0 ?_
    exact x_sub (S_Jo_nodeFor_J54 hc hSH x1 x2 (0 : Int32) x4 M h hr hM) [0, 1] rfl
  · have h := ite_t hb h
    refine x_iconst hc dX1_nodeFor_49 kc_1 ?_
    refine x_goto (tgt := 54) hc dX1_nodeFor_50 (by decide) ?_
    exact x_sub (S_Jo_nodeFor_J54 hc hSH x1 x2 (1 : Int32) x4 M h hr hM) [0, 1] rfl

def Jo_nodeFor_J32 (x1 : Int32) (x2 : Int32) (x3 : Int32) (x4 : Int32) (x5 : Int32) (M : QM) : Option (Int32 × QM) :=
  (if x4 = 0 then Jo_nodeFor_J42 x1 x2 x3 x4 M else (if x5 = 0 then Jo_nodeFor_J42 x1 x2 x3 x4 M else Jo_nodeFor_J57 x1 x2 M))

set_option maxRecDepth 20000 in
set_option maxHeartbeats 2000000 in
theorem S_Jo_nodeFor_J32 {C : QC} (hc : OKX C RX1 cX1_nodeFor 7 3 (some .int)) (hSH : q_SH C = SHK) (x1 : Int32) (x2 : Int32) (x3 : Int32) (x4 : Int32) (x5 : Int32) (M : QM) {res : Int32 × QM} (h : Jo_nodeFor_J32 x1 x2 x3 x4 x5 M = some res) (hr : q_r C = some (.int res.1)) (hM : q_M C = res.2) : WX C 7 32 [(1, .int x1), (2, .int x2), (3, .int x3), (4, .int x4), (5, .int x5)] [] M := by
  unfold Jo_nodeFor_J32 at h
  refine x_iload hc dX1_nodeFor_32 3 rfl ?_
  refine x_if_eq (tgt := 42) hc dX1_nodeFor_34 (by decide) (fun hb => ?_) (fun hb => ?_)
  · have h := ite_t hb h
    exact x_sub (S_Jo_nodeFor_J42 hc hSH x1 x2 x3 x4 M h hr hM) [0, 1, 2, 3] rfl
  · have h := ite_f hb h
    refine x_iload hc dX1_nodeFor_37 4 rfl ?_
    refine x_if_ne (tgt := 57) hc dX1_nodeFor_39 (by decide) (fun hb => ?_) (fun hb => ?_)
    · have h := ite_f hb h
      exact x_sub (S_Jo_nodeFor_J57 hc hSH x1 x2 M h hr hM) [0, 1] rfl
    · have h := ite_t hb h
      exact x_sub (S_Jo_nodeFor_J42 hc hSH x1 x2 x3 x4 M h hr hM) [0, 1, 2, 3] rfl

def Jo_nodeFor (p1 : Int32) (p2 : Int32) (p3 : Int32) (M : QM) : Option (Int32 × QM) :=
  Option.bind (St_mayStand p1 p2 M) (fun q1 => Option.bind (St_mayStand p2 p1 M) (fun q2 => (if q1 = 0 then (if q2 = 0 then Option.bind (Jo_madeFor p1 p2 p3 M) (fun q3 => (if q3 = (-6 : Int32) then Option.bind (Jo_begin p1 p2 p3 M) (fun q4 => some (q4.1, q4.2)) else some (q3, M))) else Jo_nodeFor_J32 p1 p2 p3 q1 q2 M) else Jo_nodeFor_J32 p1 p2 p3 q1 q2 M)))

set_option maxRecDepth 20000 in
set_option maxHeartbeats 2000000 in
theorem S_Jo_nodeFor  {p1 : Int32} {p2 : Int32} {p3 : Int32} {M : QM} {res : Int32 × QM} (h : Jo_nodeFor p1 p2 p3 M = some res) : Cn yX1_nodeFor cX1_nodeFor 7 (some .int) 3 SHK [.ref 18, .int p1, .int p2, .int p3] M (some (.int res.1)) res.2 := by
  refine q_enter (L := [(0, .ref 18), (1, .int p1), (2, .int p2), (3, .int p3)]) (by decide) (Nat.le_of_ble_eq_true rfl) rfl ?_
  intro C hc hSH hr hM
  have hc : OKX C RX1 cX1_nodeFor 7 3 (some .int) := hc
  unfold Jo_nodeFor at h
  refine x_aload_n hc dX1_nodeFor_0 rfl 0 rfl ?_
  refine x_getR hc dX1_nodeFor_1 fl_RX1_15 (q_s hSH sh_18) rfl ?_
  refine x_iload_n hc dX1_nodeFor_4 rfl 1 rfl ?_
  refine x_iload_n hc dX1_nodeFor_5 rfl 2 rfl ?_
  obtain ⟨q1, h1, h⟩ := bd_some h
  refine x_callVi (As := [.int p1, .int p2]) (st := []) (o := 14) hc dX1_nodeFor_6 cv_X5_mayStand lk_RX1_99 (q_s hSH sh_14) rfl rfl (q_cn hSH (S_St_mayStand h1)) (by decide) (Nat.le_of_ble_eq_true rfl) ?_
  refine x_istore (L2 := [(4, .int q1), (0, .ref 18), (1, .int p1), (2, .int p2), (3, .int p3)]) hc dX1_nodeFor_9 (by decide) rfl ?_
  refine x_aload_n hc dX1_nodeFor_11 rfl 1 rfl ?_
  refine x_getR hc dX1_nodeFor_12 fl_RX1_15 (q_s hSH sh_18) rfl ?_
  refine x_iload_n hc dX1_nodeFor_15 rfl 3 rfl ?_
  refine x_iload_n hc dX1_nodeFor_16 rfl 2 rfl ?_
  obtain ⟨q2, h2, h⟩ := bd_some h
  refine x_callVi (As := [.int p2, .int p1]) (st := []) (o := 14) hc dX1_nodeFor_17 cv_X5_mayStand lk_RX1_99 (q_s hSH sh_14) rfl rfl (q_cn hSH (S_St_mayStand h2)) (by decide) (Nat.le_of_ble_eq_true rfl) ?_
  refine x_istore (L2 := [(5, .int q2), (4, .int q1), (0, .ref 18), (1, .int p1), (2, .int p2), (3, .int p3)]) hc dX1_nodeFor_20 (by decide) rfl ?_
  refine x_iload hc dX1_nodeFor_22 1 rfl ?_
  refine x_if_ne (tgt := 32) hc dX1_nodeFor_24 (by decide) (fun hb => ?_) (fun hb => ?_)
  · have h := ite_f hb h
    exact x_sub (S_Jo_nodeFor_J32 hc hSH p1 p2 p3 q1 q2 M h hr hM) [3, 4, 5, 1, 0] rfl
  · have h := ite_t hb h
    refine x_iload hc dX1_nodeFor_27 0 rfl ?_
    refine x_if_eq (tgt := 75) hc dX1_nodeFor_29 (by decide) (fun hb => ?_) (fun hb => ?_)
    · have h := ite_t hb h
      refine x_aload_n hc dX1_nodeFor_75 rfl 2 rfl ?_
      refine x_iload_n hc dX1_nodeFor_76 rfl 3 rfl ?_
      refine x_iload_n hc dX1_nodeFor_77 rfl 4 rfl ?_
      refine x_iload_n hc dX1_nodeFor_78 rfl 5 rfl ?_
      obtain ⟨q3, h3, h⟩ := bd_some h
      refine x_callVi (As := [.int p1, .int p2, .int p3]) (st := []) (o := 18) hc dX1_nodeFor_79 cv_X1_madeFor lk_RX1_102 (q_s hSH sh_18) rfl rfl (q_cn hSH (S_Jo_madeFor h3)) (by decide) (Nat.le_of_ble_eq_true rfl) ?_
      refine x_istore (L2 := [(6, .int q3), (5, .int q2), (4, .int q1), (0, .ref 18), (1, .int p1), (2, .int p2), (3, .int p3)]) hc dX1_nodeFor_82 (by decide) rfl ?_
      refine x_iload hc dX1_nodeFor_84 0 rfl ?_
      refine x_bipush hc dX1_nodeFor_86 kb_m6 ?_
      refine x_icmp_eq (tgt := 96) hc dX1_nodeFor_88 (by decide) (fun hb => ?_) (fun hb => ?_)
      · have h := ite_t hb h
        refine x_aload_n hc dX1_nodeFor_96 rfl 3 rfl ?_
        refine x_iload_n hc dX1_nodeFor_97 rfl 4 rfl ?_
        refine x_iload_n hc dX1_nodeFor_98 rfl 5 rfl ?_
        refine x_iload_n hc dX1_nodeFor_99 rfl 6 rfl ?_
        obtain ⟨q4, h4, h⟩ := bd_some h
        refine x_callVi (As := [.int p1, .int p2, .int p3]) (st := []) (o := 18) hc dX1_nodeFor_100 cv_X1_begin lk_RX1_105 (q_s hSH sh_18) rfl rfl (q_cn hSH (S_Jo_begin h4)) (by decide) (Nat.le_of_ble_eq_true rfl) ?_
        cases h
        exact x_iret hc dX1_nodeFor_103 hr hM
      · have h := ite_f hb h
        refine x_iload hc dX1_nodeFor_91 0 rfl ?_
        refine x_goto (tgt := 103) hc dX1_nodeFor_93 (by decide) ?_
        cases h
        exact x_iret hc dX1_nodeFor_103 hr hM
    · have h := ite_f hb h
      exact x_sub (S_Jo_nodeFor_J32 hc hSH p1 p2 p3 q1 q2 M h hr hM) [3, 4, 5, 1, 0] rfl

def Jo_turn (p0 : Int32) (M : QM) : Option (Int32) :=
  (if p0 = 0 then some (1 : Int32) else some (0 : Int32))

set_option maxRecDepth 20000 in
set_option maxHeartbeats 2000000 in
theorem S_Jo_turn  {p0 : Int32} {M : QM} {res : Int32} (h : Jo_turn p0 M = some res) : Cn yX1_turn cX1_turn 1 (some .int) 0 SHK [.int p0] M (some (.int res)) M := by
  refine q_enter (L := [(0, .int p0)]) (by decide) (Nat.le_of_ble_eq_true rfl) rfl ?_
  intro C hc hSH hr hM
  have hc : OKX C RX1 cX1_turn 1 0 (some .int) := hc
  unfold Jo_turn at h
  refine x_iload_n hc dX1_turn_0 rfl 0 rfl ?_
  refine x_if_ne (tgt := 8) hc dX1_turn_1 (by decide) (fun hb => ?_) (fun hb => ?_)
  · have h := ite_f hb h
    refine x_iconst hc dX1_turn_8 kc_0 ?_
    cases h
    exact x_iret hc dX1_turn_9 hr hM
  · have h := ite_t hb h
    refine x_iconst hc dX1_turn_4 kc_1 ?_
    refine x_goto (tgt := 9) hc dX1_turn_5 (by decide) ?_
    cases h
    exact x_iret hc dX1_turn_9 hr hM

def Jo_partFor_J126 (x1 : Int32) (x3 : Int32) (x4 : Int32) (M : QM) : Option (Int32 × QM) :=
  Option.bind (Ne_signOf x1 M) (fun q7 => ck (inb x1 60) (Option.bind (Jo_keepsAll q7 (M.1 21 x1.toNatClampNeg) M) (fun q9 => (if q9 = 0 then some ((-6 : Int32), M) else some (if x3 < x4 then x4 else x3, M)))))

set_option maxRecDepth 20000 in
set_option maxHeartbeats 2000000 in
theorem S_Jo_partFor_J126 {C : QC} (hc : OKX C RX1 cX1_partFor 6 4 (some .int)) (hSH : q_SH C = SHK) (x1 : Int32) (x3 : Int32) (x4 : Int32) (M : QM) {res : Int32 × QM} (h : Jo_partFor_J126 x1 x3 x4 M = some res) (hr : q_r C = some (.int res.1)) (hM : q_M C = res.2) : WX C 6 126 [(0, .ref 18), (1, .int x1), (3, .int x3), (4, .int x4)] [] M := by
  unfold Jo_partFor_J126 at h
  refine x_aload_n hc dX1_partFor_126 rfl 0 rfl ?_
  refine x_getR hc dX1_partFor_127 fl_RX1_9 (q_s hSH sh_18) rfl ?_
  refine x_iload_n hc dX1_partFor_130 rfl 1 rfl ?_
  obtain ⟨q7, h7, h⟩ := bd_some h
  refine x_callVi (As := [.int x1]) (st := []) (o := 3) hc dX1_partFor_131 cv_X3_signOf lk_RX1_76 (q_s hSH sh_3) rfl rfl (q_cn hSH (S_Ne_signOf h7)) (by decide) (Nat.le_of_ble_eq_true rfl) ?_
  refine x_aload_n hc dX1_partFor_134 rfl 0 rfl ?_
  refine x_getR hc dX1_partFor_135 fl_RX1_26 (q_s hSH sh_18) rfl ?_
  refine x_iload_n hc dX1_partFor_138 rfl 1 rfl ?_
  obtain ⟨b8, h⟩ := ck_some h
  refine x_iald hc dX1_partFor_139 (q_s hSH sh_21) (inb_in b8) ?_
  obtain ⟨q9, h9, h⟩ := bd_some h
  refine x_callSi (As := [.int q7, .int (M.1 21 x1.toNatClampNeg)]) (st := []) hc dX1_partFor_140 cs_X1_keepsAll lk_RX1_90 rfl (q_cn hSH (S_Jo_keepsAll h9)) (by decide) (Nat.le_of_ble_eq_true rfl) ?_
  refine x_if_eq (tgt := 155) hc dX1_partFor_143 (by decide) (fun hb => ?_) (fun hb => ?_)
  · have h := ite_t hb h
    refine x_bipush hc dX1_partFor_155 kb_m6 ?_
    cases h
    exact x_iret hc dX1_partFor_157 hr hM
  · have h := ite_f hb h
    refine x_iload_n hc dX1_partFor_146 rfl 2 rfl ?_
    refine x_iload hc dX1_partFor_147 3 rfl ?_
    refine x_mmax hc dX1_partFor_149 mw_mmax lk_RX1_94 (by decide) (Nat.le_of_ble_eq_true rfl) ?_
    refine x_goto (tgt := 157) hc dX1_partFor_152 (by decide) ?_
    cases h
    exact x_iret hc dX1_partFor_157 hr hM

def Jo_partFor_J122 (s0 : Int32) (s1 : Int32) (s2 : Int32) (M : QM) : Option (Int32 × QM) :=
  Option.bind (Jo_nodeFor s2 s1 s0 M) (fun q12 => some (q12.1, q12.2))

set_option maxRecDepth 20000 in
set_option maxHeartbeats 2000000 in
theorem S_Jo_partFor_J122 {C : QC} (hc : OKX C RX1 cX1_partFor 6 4 (some .int)) (hSH : q_SH C = SHK) (s0 : Int32) (s1 : Int32) (s2 : Int32) (M : QM) {res : Int32 × QM} (h : Jo_partFor_J122 s0 s1 s2 M = some res) (hr : q_r C = some (.int res.1)) (hM : q_M C = res.2) : WX C 6 122 [] [.int s0, .int s1, .int s2, .ref 18] M := by
  unfold Jo_partFor_J122 at h
  obtain ⟨q12, h12, h⟩ := bd_some h
  refine x_callVi (As := [.int s2, .int s1, .int s0]) (st := []) (o := 18) hc dX1_partFor_122 cv_X1_nodeFor lk_RX1_57 (q_s hSH sh_18) rfl rfl (q_cn hSH (S_Jo_nodeFor h12)) (by decide) (Nat.le_of_ble_eq_true rfl) ?_
  cases h
  exact x_iret hc dX1_partFor_125 hr hM

def Jo_partFor_J93 (x1 : Int32) (x3 : Int32) (x4 : Int32) (s0 : Int32) (M : QM) : Option (Int32 × QM) :=
  (if s0 = 0 then ck (inb x1 60) (Jo_partFor_J122 (M.1 21 x1.toNatClampNeg) x4 x3 M) else ck (inb x1 60) (Option.bind (Jo_turn (M.1 21 x1.toNatClampNeg) M) (fun q14 => Jo_partFor_J122 q14 x4 x3 M)))

set_option maxRecDepth 20000 in
set_option maxHeartbeats 2000000 in
theorem S_Jo_partFor_J93 {C : QC} (hc : OKX C RX1 cX1_partFor 6 4 (some .int)) (hSH : q_SH C = SHK) (x1 : Int32) (x3 : Int32) (x4 : Int32) (s0 : Int32) (M : QM) {res : Int32 × QM} (h : Jo_partFor_J93 x1 x3 x4 s0 M = some res) (hr : q_r C = some (.int res.1)) (hM : q_M C = res.2) : WX C 6 93 [(0, .ref 18), (1, .int x1), (3, .int x3), (4, .int x4)] [.int s0] M := by
  unfold Jo_partFor_J93 at h
  refine x_istore (L2 := [(5, .int s0), (0, .ref 18), (1, .int x1), (3, .int x3), (4, .int x4)]) hc dX1_partFor_93 (by decide) rfl ?_
  refine x_aload_n hc dX1_partFor_95 rfl 1 rfl ?_
  refine x_iload_n hc dX1_partFor_96 rfl 3 rfl ?_
  refine x_iload hc dX1_partFor_97 4 rfl ?_
  refine x_iload hc dX1_partFor_99 0 rfl ?_
  refine x_if_eq (tgt := 116) hc dX1_partFor_101 (by decide) (fun hb => ?_) (fun hb => ?_)
  · have h := ite_t hb h
    refine x_aload_n hc dX1_partFor_116 rfl 1 rfl ?_
    refine x_getR hc dX1_partFor_117 fl_RX1_26 (q_s hSH sh_18) rfl ?_
    refine x_iload_n hc dX1_partFor_120 rfl 2 rfl ?_
    obtain ⟨b11, h⟩ := ck_some h
    refine x_iald hc dX1_partFor_121 (q_s hSH sh_21) (inb_in b11) ?_
    exact x_sub (S_Jo_partFor_J122 hc hSH (M.1 21 x1.toNatClampNeg) x4 x3 M h hr hM) [] rfl
  · have h := ite_f hb h
    refine x_aload_n hc dX1_partFor_104 rfl 1 rfl ?_
    refine x_getR hc dX1_partFor_105 fl_RX1_26 (q_s hSH sh_18) rfl ?_
    refine x_iload_n hc dX1_partFor_108 rfl 2 rfl ?_
    obtain ⟨b13, h⟩ := ck_some h
    refine x_iald hc dX1_partFor_109 (q_s hSH sh_21) (inb_in b13) ?_
    obtain ⟨q14, h14, h⟩ := bd_some h
    refine x_callSi (As := [.int (M.1 21 x1.toNatClampNeg)]) (st := [.int x4, .int x3, .ref 18]) hc dX1_partFor_110 cs_X1_turn lk_RX1_87 rfl (q_cn hSH (S_Jo_turn h14)) (by decide) (Nat.le_of_ble_eq_true rfl) ?_
    refine x_goto (tgt := 122) hc dX1_partFor_113 (by decide) ?_
    exact x_sub (S_Jo_partFor_J122 hc hSH q14 x4 x3 M h hr hM) [] rfl

def Jo_partFor_J92 (x1 : Int32) (x3 : Int32) (x4 : Int32) (M : QM) : Option (Int32 × QM) :=
  Jo_partFor_J93 x1 x3 x4 (0 : Int32) M

set_option maxRecDepth 20000 in
set_option maxHeartbeats 2000000 in
theorem S_Jo_partFor_J92 {C : QC} (hc : OKX C RX1 cX1_partFor 6 4 (some .int)) (hSH : q_SH C = SHK) (x1 : Int32) (x3 : Int32) (x4 : Int32) (M : QM) {res : Int32 × QM} (h : Jo_partFor_J92 x1 x3 x4 M = some res) (hr : q_r C = some (.int res.1)) (hM : q_M C = res.2) : WX C 6 92 [(0, .ref 18), (1, .int x1), (3, .int x3), (4, .int x4)] [] M := by
  unfold Jo_partFor_J92 at h
  refine x_iconst hc dX1_partFor_92 kc_0 ?_
  exact x_sub (S_Jo_partFor_J93 hc hSH x1 x3 x4 (0 : Int32) M h hr hM) [0, 1, 2, 3] rfl

def Jo_partFor (p1 : Int32) (p2 : Int32) (M : QM) : Option (Int32 × QM) :=
  (if p1 < 0 then some ((-6 : Int32), M) else (if (60 : Int32) ≤ p1 then some ((-6 : Int32), M) else Option.bind (Ne_signOf p1 M) (fun q1 => Option.bind (Jo_hasParts q1 M) (fun q2 => (if q2 = 0 then some ((-6 : Int32), M) else ck (inb p1 60) (Option.bind (Ne_partAt (M.1 19 p1.toNatClampNeg) p2 M) (fun q4 => ck (inb p1 60) (Option.bind (Ne_partAt (M.1 20 p1.toNatClampNeg) p2 M) (fun q6 => (if q4 = (-6 : Int32) then Jo_partFor_J126 p1 q4 q6 M else (if q6 = (-6 : Int32) then Jo_partFor_J126 p1 q4 q6 M else Option.bind (Ne_signOf p1 M) (fun q10 => (if q10 = (62 : Int32) then (if p2 = 0 then Jo_partFor_J93 p1 q4 q6 (1 : Int32) M else Jo_partFor_J92 p1 q4 q6 M) else Jo_partFor_J92 p1 q4 q6 M)))))))))))))

set_option maxRecDepth 20000 in
set_option maxHeartbeats 2000000 in
theorem S_Jo_partFor  {p1 : Int32} {p2 : Int32} {M : QM} {res : Int32 × QM} (h : Jo_partFor p1 p2 M = some res) : Cn yX1_partFor cX1_partFor 6 (some .int) 4 SHK [.ref 18, .int p1, .int p2] M (some (.int res.1)) res.2 := by
  refine q_enter (L := [(0, .ref 18), (1, .int p1), (2, .int p2)]) (by decide) (Nat.le_of_ble_eq_true rfl) rfl ?_
  intro C hc hSH hr hM
  have hc : OKX C RX1 cX1_partFor 6 4 (some .int) := hc
  unfold Jo_partFor at h
  refine x_iload_n hc dX1_partFor_0 rfl 1 rfl ?_
  refine x_if_lt (tgt := 24) hc dX1_partFor_1 (by decide) (fun hb => ?_) (fun hb => ?_)
  · have h := ite_t hb h
    refine x_bipush hc dX1_partFor_24 kb_m6 ?_
    cases h
    exact x_iret hc dX1_partFor_26 hr hM
  · have h := ite_f hb h
    refine x_iload_n hc dX1_partFor_4 rfl 1 rfl ?_
    refine x_bipush hc dX1_partFor_5 kb_60 ?_
    refine x_icmp_ge (tgt := 24) hc dX1_partFor_7 (by decide) (fun hb => ?_) (fun hb => ?_)
    · have h := ite_t hb h
      refine x_bipush hc dX1_partFor_24 kb_m6 ?_
      cases h
      exact x_iret hc dX1_partFor_26 hr hM
    · have h := ite_f hb h
      refine x_aload_n hc dX1_partFor_10 rfl 0 rfl ?_
      refine x_getR hc dX1_partFor_11 fl_RX1_9 (q_s hSH sh_18) rfl ?_
      refine x_iload_n hc dX1_partFor_14 rfl 1 rfl ?_
      obtain ⟨q1, h1, h⟩ := bd_some h
      refine x_callVi (As := [.int p1]) (st := []) (o := 3) hc dX1_partFor_15 cv_X3_signOf lk_RX1_76 (q_s hSH sh_3) rfl rfl (q_cn hSH (S_Ne_signOf h1)) (by decide) (Nat.le_of_ble_eq_true rfl) ?_
      obtain ⟨q2, h2, h⟩ := bd_some h
      refine x_callSi (As := [.int q1]) (st := []) hc dX1_partFor_18 cs_X1_hasParts lk_RX1_80 rfl (q_cn hSH (S_Jo_hasParts h2)) (by decide) (Nat.le_of_ble_eq_true rfl) ?_
      refine x_if_ne (tgt := 27) hc dX1_partFor_21 (by decide) (fun hb => ?_) (fun hb => ?_)
      · have h := ite_f hb h
        refine x_aload_n hc dX1_partFor_27 rfl 0 rfl ?_
        refine x_getR hc dX1_partFor_28 fl_RX1_9 (q_s hSH sh_18) rfl ?_
        refine x_aload_n hc dX1_partFor_31 rfl 0 rfl ?_
        refine x_getR hc dX1_partFor_32 fl_RX1_19 (q_s hSH sh_18) rfl ?_
        refine x_iload_n hc dX1_partFor_35 rfl 1 rfl ?_
        obtain ⟨b3, h⟩ := ck_some h
        refine x_iald hc dX1_partFor_36 (q_s hSH sh_19) (inb_in b3) ?_
        refine x_iload_n hc dX1_partFor_37 rfl 2 rfl ?_
        obtain ⟨q4, h4, h⟩ := bd_some h
        refine x_callVi (As := [.int (M.1 19 p1.toNatClampNeg), .int p2]) (st := []) (o := 3) hc dX1_partFor_38 cv_X3_partAt lk_RX1_84 (q_s hSH sh_3) rfl rfl (q_cn hSH (S_Ne_partAt h4)) (by decide) (Nat.le_of_ble_eq_true rfl) ?_
        refine x_istore_n (L2 := [(3, .int q4), (0, .ref 18), (1, .int p1), (2, .int p2)]) hc dX1_partFor_41 rfl (by decide) rfl ?_
        refine x_aload_n hc dX1_partFor_42 rfl 1 rfl ?_
        refine x_getR hc dX1_partFor_43 fl_RX1_9 (q_s hSH sh_18) rfl ?_
        refine x_aload_n hc dX1_partFor_46 rfl 1 rfl ?_
        refine x_getR hc dX1_partFor_47 fl_RX1_23 (q_s hSH sh_18) rfl ?_
        refine x_iload_n hc dX1_partFor_50 rfl 2 rfl ?_
        obtain ⟨b5, h⟩ := ck_some h
        refine x_iald hc dX1_partFor_51 (q_s hSH sh_20) (inb_in b5) ?_
        refine x_iload_n hc dX1_partFor_52 rfl 3 rfl ?_
        obtain ⟨q6, h6, h⟩ := bd_some h
        refine x_callVi (As := [.int (M.1 20 p1.toNatClampNeg), .int p2]) (st := []) (o := 3) hc dX1_partFor_53 cv_X3_partAt lk_RX1_84 (q_s hSH sh_3) rfl rfl (q_cn hSH (S_Ne_partAt h6)) (by decide) (Nat.le_of_ble_eq_true rfl) ?_
        refine x_istore (L2 := [(4, .int q6), (3, .int q4), (0, .ref 18), (1, .int p1), (2, .int p2)]) hc dX1_partFor_56 (by decide) rfl ?_
        refine x_iload_n hc dX1_partFor_58 rfl 1 rfl ?_
        refine x_bipush hc dX1_partFor_59 kb_m6 ?_
        refine x_icmp_eq (tgt := 126) hc dX1_partFor_61 (by decide) (fun hb => ?_) (fun hb => ?_)
        · have h := ite_t hb h
          exact x_sub (S_Jo_partFor_J126 hc hSH p1 q4 q6 M h hr hM) [2, 3, 1, 0] rfl
        · have h := ite_f hb h
          refine x_iload hc dX1_partFor_64 0 rfl ?_
          refine x_bipush hc dX1_partFor_66 kb_m6 ?_
          refine x_icmp_eq (tgt := 126) hc dX1_partFor_68 (by decide) (fun hb => ?_) (fun hb => ?_)
          · have h := ite_t hb h
            exact x_sub (S_Jo_partFor_J126 hc hSH p1 q4 q6 M h hr hM) [2, 3, 1, 0] rfl
          · have h := ite_f hb h
            refine x_aload_n hc dX1_partFor_71 rfl 2 rfl ?_
            refine x_getR hc dX1_partFor_72 fl_RX1_9 (q_s hSH sh_18) rfl ?_
            refine x_iload_n hc dX1_partFor_75 rfl 3 rfl ?_
            obtain ⟨q10, h10, h⟩ := bd_some h
            refine x_callVi (As := [.int p1]) (st := []) (o := 3) hc dX1_partFor_76 cv_X3_signOf lk_RX1_76 (q_s hSH sh_3) rfl rfl (q_cn hSH (S_Ne_signOf h10)) (by decide) (Nat.le_of_ble_eq_true rfl) ?_
            refine x_bipush hc dX1_partFor_79 kb_62 ?_
            refine x_icmp_ne (tgt := 92) hc dX1_partFor_81 (by decide) (fun hb => ?_) (fun hb => ?_)
            · have h := ite_f hb h
              exact x_sub (S_Jo_partFor_J92 hc hSH p1 q4 q6 M h hr hM) [2, 3, 1, 0] rfl
            · have h := ite_t hb h
              refine x_iload_n hc dX1_partFor_84 rfl 4 rfl ?_
              refine x_if_ne (tgt := 92) hc dX1_partFor_85 (by decide) (fun hb => ?_) (fun hb => ?_)
              · have h := ite_f hb h
                exact x_sub (S_Jo_partFor_J92 hc hSH p1 q4 q6 M h hr hM) [2, 3, 1, 0] rfl
              · have h := ite_t hb h
                refine x_iconst hc dX1_partFor_88 kc_1 ?_
                refine x_goto (tgt := 93) hc dX1_partFor_89 (by decide) ?_
                exact x_sub (S_Jo_partFor_J93 hc hSH p1 q4 q6 (1 : Int32) M h hr hM) [2, 3, 1, 0] rfl
      · have h := ite_t hb h
        refine x_bipush hc dX1_partFor_24 kb_m6 ?_
        cases h
        exact x_iret hc dX1_partFor_26 hr hM

def Jo_goOn_J54 (M : QM) : Option (QM) :=
  some (u_i M 18 7 ((M.1 18 7) - (1 : Int32)))

set_option maxRecDepth 20000 in
set_option maxHeartbeats 2000000 in
theorem S_Jo_goOn_J54 {C : QC} (hc : OKX C RX1 cX1_goOn 4 5 none) (hSH : q_SH C = SHK) (M : QM) {res : QM} (h : Jo_goOn_J54 M = some res) (hr : q_r C = none) (hM : q_M C = res) : WX C 4 54 [(0, .ref 18)] [] M := by
  unfold Jo_goOn_J54 at h
  refine x_aload_n hc dX1_goOn_54 rfl 0 rfl ?_
  refine x_dup hc dX1_goOn_55 rfl ?_
  refine x_getI hc dX1_goOn_56 fl_RX1_35 (q_s hSH sh_18) rfl ?_
  refine x_iconst hc dX1_goOn_59 kc_1 ?_
  refine x_isub hc dX1_goOn_60 ?_
  refine x_putI hc dX1_goOn_61 fl_RX1_35 (fw_1_7 _) (q_s hSH sh_18) rfl ?_
  cases h
  exact x_vret hc dX1_goOn_64 hr hM

def Jo_goOn_J32 (s0 : Int32) (M : QM) : Option (QM) :=
  (if s0 < 0 then Jo_goOn_J54 M else (if (60 : Int32) ≤ s0 then Jo_goOn_J54 M else ck (inb s0 60) ((if (M.1 22 s0.toNatClampNeg) < (8 : Int32) then ck (inb s0 60) (ck (inb s0 60) (ck (inb s0 60) (Option.bind (Jo_partFor s0 (M.1 22 s0.toNatClampNeg) (u_i M 22 s0.toNatClampNeg ((M.1 22 s0.toNatClampNeg) + (1 : Int32)))) (fun q5 => (if q5.1 = (-6 : Int32) then some q5.2 else Option.bind (Ne_setPart s0 (M.1 22 s0.toNatClampNeg) q5.1 q5.2) (fun q6 => some q6)))))) else Jo_goOn_J54 M))))

set_option maxRecDepth 20000 in
set_option maxHeartbeats 2000000 in
theorem S_Jo_goOn_J32 {C : QC} (hc : OKX C RX1 cX1_goOn 4 5 none) (hSH : q_SH C = SHK) (s0 : Int32) (M : QM) {res : QM} (h : Jo_goOn_J32 s0 M = some res) (hr : q_r C = none) (hM : q_M C = res) : WX C 4 32 [(0, .ref 18)] [.int s0] M := by
  unfold Jo_goOn_J32 at h
  refine x_istore_n (L2 := [(1, .int s0), (0, .ref 18)]) hc dX1_goOn_32 rfl (by decide) rfl ?_
  refine x_iload_n hc dX1_goOn_33 rfl 0 rfl ?_
  refine x_if_lt (tgt := 54) hc dX1_goOn_34 (by decide) (fun hb => ?_) (fun hb => ?_)
  · have h := ite_t hb h
    exact x_sub (S_Jo_goOn_J54 hc hSH M h hr hM) [1] rfl
  · have h := ite_f hb h
    refine x_iload_n hc dX1_goOn_37 rfl 0 rfl ?_
    refine x_bipush hc dX1_goOn_38 kb_60 ?_
    refine x_icmp_ge (tgt := 54) hc dX1_goOn_40 (by decide) (fun hb => ?_) (fun hb => ?_)
    · have h := ite_t hb h
      exact x_sub (S_Jo_goOn_J54 hc hSH M h hr hM) [1] rfl
    · have h := ite_f hb h
      refine x_aload_n hc dX1_goOn_43 rfl 1 rfl ?_
      refine x_getR hc dX1_goOn_44 fl_RX1_29 (q_s hSH sh_18) rfl ?_
      refine x_iload_n hc dX1_goOn_47 rfl 0 rfl ?_
      obtain ⟨b1, h⟩ := ck_some h
      refine x_iald hc dX1_goOn_48 (q_s hSH sh_22) (inb_in b1) ?_
      refine x_bipush hc dX1_goOn_49 kb_8 ?_
      refine x_icmp_lt (tgt := 65) hc dX1_goOn_51 (by decide) (fun hb => ?_) (fun hb => ?_)
      · have h := ite_t hb h
        refine x_aload_n hc dX1_goOn_65 rfl 1 rfl ?_
        refine x_getR hc dX1_goOn_66 fl_RX1_29 (q_s hSH sh_18) rfl ?_
        refine x_iload_n hc dX1_goOn_69 rfl 0 rfl ?_
        obtain ⟨b2, h⟩ := ck_some h
        refine x_iald hc dX1_goOn_70 (q_s hSH sh_22) (inb_in b2) ?_
        refine x_istore_n (L2 := [(2, .int (M.1 22 s0.toNatClampNeg)), (1, .int s0), (0, .ref 18)]) hc dX1_goOn_71 rfl (by decide) rfl ?_
        refine x_aload_n hc dX1_goOn_72 rfl 2 rfl ?_
        refine x_getR hc dX1_goOn_73 fl_RX1_29 (q_s hSH sh_18) rfl ?_
        refine x_iload_n hc dX1_goOn_76 rfl 1 rfl ?_
        refine x_dup2 hc dX1_goOn_77 rfl rfl ?_
        obtain ⟨b3, h⟩ := ck_some h
        refine x_iald hc dX1_goOn_78 (q_s hSH sh_22) (inb_in b3) ?_
        refine x_iconst hc dX1_goOn_79 kc_1 ?_
        refine x_iadd hc dX1_goOn_80 ?_
        obtain ⟨b4, h⟩ := ck_some h
        refine x_iast hc dX1_goOn_81 (q_s hSH sh_22) (inb_in b4) ?_
        refine x_aload_n hc dX1_goOn_82 rfl 2 rfl ?_
        refine x_iload_n hc dX1_goOn_83 rfl 1 rfl ?_
        refine x_iload_n hc dX1_goOn_84 rfl 0 rfl ?_
        obtain ⟨q5, h5, h⟩ := bd_some h
        refine x_callVi (As := [.int s0, .int (M.1 22 s0.toNatClampNeg)]) (st := []) (o := 18) hc dX1_goOn_85 cv_X1_partFor lk_RX1_68 (q_s hSH sh_18) rfl rfl (q_cn hSH (S_Jo_partFor h5)) (by decide) (Nat.le_of_ble_eq_true rfl) ?_
        refine x_istore_n (L2 := [(3, .int q5.1), (2, .int (M.1 22 s0.toNatClampNeg)), (1, .int s0), (0, .ref 18)]) hc dX1_goOn_88 rfl (by decide) rfl ?_
        refine x_iload_n hc dX1_goOn_89 rfl 0 rfl ?_
        refine x_bipush hc dX1_goOn_90 kb_m6 ?_
        refine x_icmp_eq (tgt := 105) hc dX1_goOn_92 (by decide) (fun hb => ?_) (fun hb => ?_)
        · have h := ite_t hb h
          cases h
          exact x_vret hc dX1_goOn_105 hr hM
        · have h := ite_f hb h
          refine x_aload_n hc dX1_goOn_95 rfl 3 rfl ?_
          refine x_getR hc dX1_goOn_96 fl_RX1_9 (q_s hSH sh_18) rfl ?_
          refine x_iload_n hc dX1_goOn_99 rfl 2 rfl ?_
          refine x_iload_n hc dX1_goOn_100 rfl 1 rfl ?_
          refine x_iload_n hc dX1_goOn_101 rfl 0 rfl ?_
          obtain ⟨q6, h6, h⟩ := bd_some h
          refine x_callVv (As := [.int s0, .int (M.1 22 s0.toNatClampNeg), .int q5.1]) (st := []) (o := 3) hc dX1_goOn_102 cv_X3_setPart lk_RX1_72 (q_s hSH sh_3) rfl rfl (q_cn hSH (S_Ne_setPart h6)) (by decide) (Nat.le_of_ble_eq_true rfl) ?_
          cases h
          exact x_vret hc dX1_goOn_105 hr hM
      · have h := ite_f hb h
        exact x_sub (S_Jo_goOn_J54 hc hSH M h hr hM) [1] rfl

def Jo_goOn_J30 (M : QM) : Option (QM) :=
  Jo_goOn_J32 (-6 : Int32) M

set_option maxRecDepth 20000 in
set_option maxHeartbeats 2000000 in
theorem S_Jo_goOn_J30 {C : QC} (hc : OKX C RX1 cX1_goOn 4 5 none) (hSH : q_SH C = SHK) (M : QM) {res : QM} (h : Jo_goOn_J30 M = some res) (hr : q_r C = none) (hM : q_M C = res) : WX C 4 30 [(0, .ref 18)] [] M := by
  unfold Jo_goOn_J30 at h
  refine x_bipush hc dX1_goOn_30 kb_m6 ?_
  exact x_sub (S_Jo_goOn_J32 hc hSH (-6 : Int32) M h hr hM) [0] rfl

def Jo_goOn (M : QM) : Option (QM) :=
  (if (M.1 18 7) ≤ 0 then Jo_goOn_J30 M else (if (60 : Int32) < (M.1 18 7) then Jo_goOn_J30 M else ck (inb ((M.1 18 7) - (1 : Int32)) 60) (Jo_goOn_J32 (M.1 23 ((M.1 18 7) - (1 : Int32)).toNatClampNeg) M)))

set_option maxRecDepth 20000 in
set_option maxHeartbeats 2000000 in
theorem S_Jo_goOn  {M : QM} {res : QM} (h : Jo_goOn M = some res) : Cn yX1_goOn cX1_goOn 4 none 5 SHK [.ref 18] M (none) res := by
  refine q_enter (L := [(0, .ref 18)]) (by decide) (Nat.le_of_ble_eq_true rfl) rfl ?_
  intro C hc hSH hr hM
  have hc : OKX C RX1 cX1_goOn 4 5 none := hc
  unfold Jo_goOn at h
  refine x_aload_n hc dX1_goOn_0 rfl 0 rfl ?_
  refine x_getI hc dX1_goOn_1 fl_RX1_35 (q_s hSH sh_18) rfl ?_
  refine x_if_le (tgt := 30) hc dX1_goOn_4 (by decide) (fun hb => ?_) (fun hb => ?_)
  · have h := ite_t hb h
    exact x_sub (S_Jo_goOn_J30 hc hSH M h hr hM) [0] rfl
  · have h := ite_f hb h
    refine x_aload_n hc dX1_goOn_7 rfl 0 rfl ?_
    refine x_getI hc dX1_goOn_8 fl_RX1_35 (q_s hSH sh_18) rfl ?_
    refine x_bipush hc dX1_goOn_11 kb_60 ?_
    refine x_icmp_gt (tgt := 30) hc dX1_goOn_13 (by decide) (fun hb => ?_) (fun hb => ?_)
    · have h := ite_t hb h
      exact x_sub (S_Jo_goOn_J30 hc hSH M h hr hM) [0] rfl
    · have h := ite_f hb h
      refine x_aload_n hc dX1_goOn_16 rfl 0 rfl ?_
      refine x_getR hc dX1_goOn_17 fl_RX1_32 (q_s hSH sh_18) rfl ?_
      refine x_aload_n hc dX1_goOn_20 rfl 0 rfl ?_
      refine x_getI hc dX1_goOn_21 fl_RX1_35 (q_s hSH sh_18) rfl ?_
      refine x_iconst hc dX1_goOn_24 kc_1 ?_
      refine x_isub hc dX1_goOn_25 ?_
      obtain ⟨b7, h⟩ := ck_some h
      refine x_iald hc dX1_goOn_26 (q_s hSH sh_23) (inb_in b7) ?_
      refine x_goto (tgt := 32) hc dX1_goOn_27 (by decide) ?_
      exact x_sub (S_Jo_goOn_J32 hc hSH (M.1 23 ((M.1 18 7) - (1 : Int32)).toNatClampNeg) M h hr hM) [0] rfl

def Jo_joined_B45 (x4 : Int32) (x5 : Int32) (v : Int32 × QM) : Option ((QM) ⊕ (Int32 × QM)) :=
  (if x5 ≤ v.1 then some (.inl v.2) else (if (v.2.1 18 7) ≤ 0 then some (.inl v.2) else (if (v.2.1 18 9) = 0 then Option.bind (Jo_goOn v.2) (fun q4 => some (.inr (v.1 + (1 : Int32), q4))) else some (.inl v.2))))

set_option maxRecDepth 20000 in
set_option maxHeartbeats 2000000 in
theorem S_Jo_joined_B45 {C : QC} (hc : OKX C RX1 cX1_joined 7 6 (some .int)) (hSH : q_SH C = SHK) (x4 : Int32) (x5 : Int32) (v : Int32 × QM) {res : (QM) ⊕ (Int32 × QM)} (h : Jo_joined_B45 x4 x5 v = some res) (ke : ∀ x : QM, res = .inl x → WX C 7 76 [(0, .ref 18), (4, .int x4)] [] x) (kb : ∀ x : Int32 × QM, res = .inr x → WX C 7 45 [(0, .ref 18), (4, .int x4), (5, .int x5), (6, .int x.1)] [] x.2) : WX C 7 45 [(0, .ref 18), (4, .int x4), (5, .int x5), (6, .int v.1)] [] v.2 := by
  unfold Jo_joined_B45 at h
  refine x_iload hc dX1_joined_45 3 rfl ?_
  refine x_iload hc dX1_joined_47 2 rfl ?_
  refine x_icmp_ge (tgt := 76) hc dX1_joined_49 (by decide) (fun hb => ?_) (fun hb => ?_)
  · have h := ite_t hb h
    cases h
    exact x_sub (ke v.2 rfl) [0, 1] rfl
  · have h := ite_f hb h
    refine x_aload_n hc dX1_joined_52 rfl 0 rfl ?_
    refine x_getI hc dX1_joined_53 fl_RX1_35 (q_s hSH sh_18) rfl ?_
    refine x_if_le (tgt := 76) hc dX1_joined_56 (by decide) (fun hb => ?_) (fun hb => ?_)
    · have h := ite_t hb h
      cases h
      exact x_sub (ke v.2 rfl) [0, 1] rfl
    · have h := ite_f hb h
      refine x_aload_n hc dX1_joined_59 rfl 0 rfl ?_
      refine x_getI hc dX1_joined_60 fl_RX1_42 (q_s hSH sh_18) rfl ?_
      refine x_if_ne (tgt := 76) hc dX1_joined_63 (by decide) (fun hb => ?_) (fun hb => ?_)
      · have h := ite_f hb h
        cases h
        exact x_sub (ke v.2 rfl) [0, 1] rfl
      · have h := ite_t hb h
        refine x_aload_n hc dX1_joined_66 rfl 0 rfl ?_
        obtain ⟨q4, h4, h⟩ := bd_some h
        refine x_callVv (As := []) (st := []) (o := 18) hc dX1_joined_67 cv_X1_goOn lk_RX1_61 (q_s hSH sh_18) rfl rfl (q_cn hSH (S_Jo_goOn h4)) (by decide) (Nat.le_of_ble_eq_true rfl) ?_
        refine x_iinc (v := v.1 + (1 : Int32)) (L2 := [(6, .int (v.1 + (1 : Int32))), (0, .ref 18), (4, .int x4), (5, .int x5)]) hc dX1_joined_70 3 rfl (by rw [kc_1]) (by decide) rfl ?_
        refine x_goto (tgt := 45) hc dX1_joined_73 (by decide) ?_
        cases h
        exact x_sub (kb (v.1 + (1 : Int32), q4) rfl) [1, 2, 3, 0] rfl

theorem S_Jo_joined_L45 {C : QC} (hc : OKX C RX1 cX1_joined 7 6 (some .int)) (hSH : q_SH C = SHK) (x4 : Int32) (x5 : Int32) {n : Nat} {v : Int32 × QM} {e : QM} (h : iter (Jo_joined_B45 x4 x5) n v = some e) (ke : ∀ x : QM, e = x → WX C 7 76 [(0, .ref 18), (4, .int x4)] [] x) : WX C 7 45 [(0, .ref 18), (4, .int x4), (5, .int x5), (6, .int v.1)] [] v.2 :=
  iter_W (Wh := fun v => WX C 7 45 [(0, .ref 18), (4, .int x4), (5, .int x5), (6, .int v.1)] [] v.2) (fun a res hB k1 k2 => S_Jo_joined_B45 hc hSH x4 x5 a hB (fun x hx => ke x (k1 _ hx).symm) k2) n v h

def Jo_joined_J76 (x4 : Int32) (M : QM) : Option (Int32 × QM) :=
  (if (M.1 18 9) = 0 then some (x4, M) else Option.bind (Ne_dropFrom (M.1 18 8) M) (fun q6 => some ((-4 : Int32), q6)))

set_option maxRecDepth 20000 in
set_option maxHeartbeats 2000000 in
theorem S_Jo_joined_J76 {C : QC} (hc : OKX C RX1 cX1_joined 7 6 (some .int)) (hSH : q_SH C = SHK) (x4 : Int32) (M : QM) {res : Int32 × QM} (h : Jo_joined_J76 x4 M = some res) (hr : q_r C = some (.int res.1)) (hM : q_M C = res.2) : WX C 7 76 [(0, .ref 18), (4, .int x4)] [] M := by
  unfold Jo_joined_J76 at h
  refine x_aload_n hc dX1_joined_76 rfl 0 rfl ?_
  refine x_getI hc dX1_joined_77 fl_RX1_42 (q_s hSH sh_18) rfl ?_
  refine x_if_eq (tgt := 97) hc dX1_joined_80 (by decide) (fun hb => ?_) (fun hb => ?_)
  · have h := ite_t hb h
    refine x_iload hc dX1_joined_97 1 rfl ?_
    cases h
    exact x_iret hc dX1_joined_99 hr hM
  · have h := ite_f hb h
    refine x_aload_n hc dX1_joined_83 rfl 0 rfl ?_
    refine x_getR hc dX1_joined_84 fl_RX1_9 (q_s hSH sh_18) rfl ?_
    refine x_aload_n hc dX1_joined_87 rfl 0 rfl ?_
    refine x_getI hc dX1_joined_88 fl_RX1_39 (q_s hSH sh_18) rfl ?_
    obtain ⟨q6, h6, h⟩ := bd_some h
    refine x_callVv (As := [.int (M.1 18 8)]) (st := []) (o := 3) hc dX1_joined_91 cv_X3_dropFrom lk_RX1_64 (q_s hSH sh_3) rfl rfl (q_cn hSH (S_Ne_dropFrom h6)) (by decide) (Nat.le_of_ble_eq_true rfl) ?_
    refine x_bipush hc dX1_joined_94 kb_m4 ?_
    cases h
    exact x_iret hc dX1_joined_96 hr hM

def Jo_joined (p1 : Int32) (p2 : Int32) (p3 : Int32) (M : QM) : Option (Int32 × QM) :=
  Option.bind (St_catchUp M) (fun q1 => Option.bind (Ne_nodes q1) (fun q2 => Option.bind (Jo_nodeFor p1 p2 p3 (u_i (u_i (u_i q1 18 8 q2) 18 7 (0 : Int32)) 18 9 (0 : Int32))) (fun q3 => Option.bind (iter (Jo_joined_B45 q3.1 (540 : Int32)) FU ((0 : Int32), q3.2)) (fun e5 => Jo_joined_J76 q3.1 e5))))

set_option maxRecDepth 20000 in
set_option maxHeartbeats 2000000 in
theorem S_Jo_joined  {p1 : Int32} {p2 : Int32} {p3 : Int32} {M : QM} {res : Int32 × QM} (h : Jo_joined p1 p2 p3 M = some res) : Cn yX1_joined cX1_joined 7 (some .int) 6 SHK [.ref 18, .int p1, .int p2, .int p3] M (some (.int res.1)) res.2 := by
  refine q_enter (L := [(0, .ref 18), (1, .int p1), (2, .int p2), (3, .int p3)]) (by decide) (Nat.le_of_ble_eq_true rfl) rfl ?_
  intro C hc hSH hr hM
  have hc : OKX C RX1 cX1_joined 7 6 (some .int) := hc
  unfold Jo_joined at h
  refine x_aload_n hc dX1_joined_0 rfl 0 rfl ?_
  refine x_getR hc dX1_joined_1 fl_RX1_15 (q_s hSH sh_18) rfl ?_
  obtain ⟨q1, h1, h⟩ := bd_some h
  refine x_callVv (As := []) (st := []) (o := 14) hc dX1_joined_4 cv_X5_catchUp lk_RX1_46 (q_s hSH sh_14) rfl rfl (q_cn hSH (S_St_catchUp h1)) (by decide) (Nat.le_of_ble_eq_true rfl) ?_
  refine x_aload_n hc dX1_joined_7 rfl 0 rfl ?_
  refine x_aload_n hc dX1_joined_8 rfl 0 rfl ?_
  refine x_getR hc dX1_joined_9 fl_RX1_9 (q_s hSH sh_18) rfl ?_
  obtain ⟨q2, h2, h⟩ := bd_some h
  refine x_callVi (As := []) (st := [.ref 18]) (o := 3) hc dX1_joined_12 cv_X3_nodes lk_RX1_51 (q_s hSH sh_3) rfl rfl (q_cn hSH (S_Ne_nodes h2)) (by decide) (Nat.le_of_ble_eq_true rfl) ?_
  refine x_putI hc dX1_joined_15 fl_RX1_39 (fw_1_8 _) (q_s hSH sh_18) rfl ?_
  refine x_aload_n hc dX1_joined_18 rfl 0 rfl ?_
  refine x_iconst hc dX1_joined_19 kc_0 ?_
  refine x_putI hc dX1_joined_20 fl_RX1_35 (fw_1_7 _) (q_s hSH sh_18) rfl ?_
  refine x_aload_n hc dX1_joined_23 rfl 0 rfl ?_
  refine x_iconst hc dX1_joined_24 kc_0 ?_
  refine x_putI hc dX1_joined_25 fl_RX1_42 (fw_1_9 _ (Or.inl rfl)) (q_s hSH sh_18) rfl ?_
  refine x_aload_n hc dX1_joined_28 rfl 0 rfl ?_
  refine x_iload_n hc dX1_joined_29 rfl 1 rfl ?_
  refine x_iload_n hc dX1_joined_30 rfl 2 rfl ?_
  refine x_iload_n hc dX1_joined_31 rfl 3 rfl ?_
  obtain ⟨q3, h3, h⟩ := bd_some h
  refine x_callVi (As := [.int p1, .int p2, .int p3]) (st := []) (o := 18) hc dX1_joined_32 cv_X1_nodeFor lk_RX1_57 (q_s hSH sh_18) rfl rfl (q_cn hSH (S_Jo_nodeFor h3)) (by decide) (Nat.le_of_ble_eq_true rfl) ?_
  refine x_istore (L2 := [(4, .int q3.1), (0, .ref 18), (1, .int p1), (2, .int p2), (3, .int p3)]) hc dX1_joined_35 (by decide) rfl ?_
  refine x_sipush hc dX1_joined_37 ks_540 ?_
  refine x_istore (L2 := [(5, .int (540 : Int32)), (4, .int q3.1), (0, .ref 18), (1, .int p1), (2, .int p2), (3, .int p3)]) hc dX1_joined_40 (by decide) rfl ?_
  refine x_iconst hc dX1_joined_42 kc_0 ?_
  refine x_istore (L2 := [(6, .int (0 : Int32)), (5, .int (540 : Int32)), (4, .int q3.1), (0, .ref 18), (1, .int p1), (2, .int p2), (3, .int p3)]) hc dX1_joined_43 (by decide) rfl ?_
  obtain ⟨e5, h5, h⟩ := bd_some h
  refine x_sub (S_Jo_joined_L45 hc hSH q3.1 (540 : Int32) (v := ((0 : Int32), q3.2)) h5 (fun x hx => ?_)) [3, 2, 1, 0] rfl
  subst hx
  exact x_sub (S_Jo_joined_J76 hc hSH q3.1 e5 h hr hM) [0, 1] rfl

