def Mo_in (p0 : Int32) (p1 : Int32) (p2 : Int32) (M : QM) : Option (Int32) :=
  (if p0 < p1 then some (0 : Int32) else (if p2 < p0 then some (0 : Int32) else some (1 : Int32)))

set_option maxRecDepth 20000 in
set_option maxHeartbeats 2000000 in
theorem S_Mo_in  {p0 : Int32} {p1 : Int32} {p2 : Int32} {M : QM} {res : Int32} (h : Mo_in p0 p1 p2 M = some res) : Cn yX9_in cX9_in 3 (some .boolean) 0 SHM [.int p0, .int p1, .int p2] M (some (.int res)) M := by
  refine q_enter (L := [(0, .int p0), (1, .int p1), (2, .int p2)]) (by decide) (Nat.le_of_ble_eq_true rfl) rfl ?_
  intro C hc hSH hr hM
  have hc : OKX C RX9 cX9_in 3 0 (some .boolean) := hc
  unfold Mo_in at h
  refine x_iload_n hc dX9_in_0 rfl 0 rfl ?_
  refine x_iload_n hc dX9_in_1 rfl 1 rfl ?_
  refine x_icmp_lt (tgt := 14) hc dX9_in_2 (by decide) (fun hb => ?_) (fun hb => ?_)
  · have h := ite_t hb h
    refine x_iconst hc dX9_in_14 kc_0 ?_
    cases h
    exact x_zret hc dX9_in_15 nar_0 hr hM
  · have h := ite_f hb h
    refine x_iload_n hc dX9_in_5 rfl 0 rfl ?_
    refine x_iload_n hc dX9_in_6 rfl 2 rfl ?_
    refine x_icmp_gt (tgt := 14) hc dX9_in_7 (by decide) (fun hb => ?_) (fun hb => ?_)
    · have h := ite_t hb h
      refine x_iconst hc dX9_in_14 kc_0 ?_
      cases h
      exact x_zret hc dX9_in_15 nar_0 hr hM
    · have h := ite_f hb h
      refine x_iconst hc dX9_in_10 kc_1 ?_
      refine x_goto (tgt := 15) hc dX9_in_11 (by decide) ?_
      cases h
      exact x_zret hc dX9_in_15 nar_1 hr hM

def Mo_isNode (p1 : Int32) (M : QM) : Option (Int32) :=
  Option.bind (Mo_in p1 (0 : Int32) ((M.1 0 2) - (1 : Int32)) M) (fun q1 => ck (isb q1) (some q1))

set_option maxRecDepth 20000 in
set_option maxHeartbeats 2000000 in
theorem S_Mo_isNode  {p1 : Int32} {M : QM} {res : Int32} (h : Mo_isNode p1 M = some res) : Cn yX9_isNode cX9_isNode 2 (some .boolean) 1 SHM [.ref 0, .int p1] M (some (.int res)) M := by
  refine q_enter (L := [(0, .ref 0), (1, .int p1)]) (by decide) (Nat.le_of_ble_eq_true rfl) rfl ?_
  intro C hc hSH hr hM
  have hc : OKX C RX9 cX9_isNode 2 1 (some .boolean) := hc
  unfold Mo_isNode at h
  refine x_iload_n hc dX9_isNode_0 rfl 1 rfl ?_
  refine x_iconst hc dX9_isNode_1 kc_0 ?_
  refine x_aload_n hc dX9_isNode_2 rfl 0 rfl ?_
  refine x_getI hc dX9_isNode_3 fl_RX9_116 (q_s hSH sm_0) rfl ?_
  refine x_iconst hc dX9_isNode_6 kc_1 ?_
  refine x_isub hc dX9_isNode_7 ?_
  obtain ⟨q1, h1, h⟩ := bd_some h
  refine x_callSi (As := [.int p1, .int (0 : Int32), .int ((M.1 0 2) - (1 : Int32))]) (st := []) hc dX9_isNode_8 cs_X9_in lk_RX9_84 rfl (q_cn hSH (S_Mo_in h1)) (by decide) (Nat.le_of_ble_eq_true rfl) ?_
  obtain ⟨b2, h⟩ := ck_some h
  cases h
  exact x_zret hc dX9_isNode_11 (isb_nar b2) hr hM

def Mo_areNodes (p1 : Int32) (p2 : Int32) (M : QM) : Option (Int32) :=
  Option.bind (Mo_isNode p1 M) (fun q1 => (if q1 = 0 then some (0 : Int32) else Option.bind (Mo_isNode p2 M) (fun q2 => (if q2 = 0 then some (0 : Int32) else some (1 : Int32)))))

set_option maxRecDepth 20000 in
set_option maxHeartbeats 2000000 in
theorem S_Mo_areNodes  {p1 : Int32} {p2 : Int32} {M : QM} {res : Int32} (h : Mo_areNodes p1 p2 M = some res) : Cn yX9_areNodes cX9_areNodes 3 (some .boolean) 2 SHM [.ref 0, .int p1, .int p2] M (some (.int res)) M := by
  refine q_enter (L := [(0, .ref 0), (1, .int p1), (2, .int p2)]) (by decide) (Nat.le_of_ble_eq_true rfl) rfl ?_
  intro C hc hSH hr hM
  have hc : OKX C RX9 cX9_areNodes 3 2 (some .boolean) := hc
  unfold Mo_areNodes at h
  refine x_aload_n hc dX9_areNodes_0 rfl 0 rfl ?_
  refine x_iload_n hc dX9_areNodes_1 rfl 1 rfl ?_
  obtain ⟨q1, h1, h⟩ := bd_some h
  refine x_callVi (As := [.int p1]) (st := []) (o := 0) hc dX9_areNodes_2 cv_X9_isNode lk_RX9_123 (q_s hSH sm_0) rfl rfl (q_cn hSH (S_Mo_isNode h1)) (by decide) (Nat.le_of_ble_eq_true rfl) ?_
  refine x_if_eq (tgt := 20) hc dX9_areNodes_5 (by decide) (fun hb => ?_) (fun hb => ?_)
  · have h := ite_t hb h
    refine x_iconst hc dX9_areNodes_20 kc_0 ?_
    cases h
    exact x_zret hc dX9_areNodes_21 nar_0 hr hM
  · have h := ite_f hb h
    refine x_aload_n hc dX9_areNodes_8 rfl 0 rfl ?_
    refine x_iload_n hc dX9_areNodes_9 rfl 2 rfl ?_
    obtain ⟨q2, h2, h⟩ := bd_some h
    refine x_callVi (As := [.int p2]) (st := []) (o := 0) hc dX9_areNodes_10 cv_X9_isNode lk_RX9_123 (q_s hSH sm_0) rfl rfl (q_cn hSH (S_Mo_isNode h2)) (by decide) (Nat.le_of_ble_eq_true rfl) ?_
    refine x_if_eq (tgt := 20) hc dX9_areNodes_13 (by decide) (fun hb => ?_) (fun hb => ?_)
    · have h := ite_t hb h
      refine x_iconst hc dX9_areNodes_20 kc_0 ?_
      cases h
      exact x_zret hc dX9_areNodes_21 nar_0 hr hM
    · have h := ite_f hb h
      refine x_iconst hc dX9_areNodes_16 kc_1 ?_
      refine x_goto (tgt := 21) hc dX9_areNodes_17 (by decide) ?_
      cases h
      exact x_zret hc dX9_areNodes_21 nar_1 hr hM

def Mo_isBoth (p0 : Int32) (M : QM) : Option (Int32) :=
  (if p0 = (123 : Int32) then some (1 : Int32) else (if p0 = (91 : Int32) then some (1 : Int32) else some (0 : Int32)))

set_option maxRecDepth 20000 in
set_option maxHeartbeats 2000000 in
theorem S_Mo_isBoth  {p0 : Int32} {M : QM} {res : Int32} (h : Mo_isBoth p0 M = some res) : Cn yX9_isBoth cX9_isBoth 1 (some .boolean) 0 SHM [.int p0] M (some (.int res)) M := by
  refine q_enter (L := [(0, .int p0)]) (by decide) (Nat.le_of_ble_eq_true rfl) rfl ?_
  intro C hc hSH hr hM
  have hc : OKX C RX9 cX9_isBoth 1 0 (some .boolean) := hc
  unfold Mo_isBoth at h
  refine x_iload_n hc dX9_isBoth_0 rfl 0 rfl ?_
  refine x_bipush hc dX9_isBoth_1 kb_123 ?_
  refine x_icmp_eq (tgt := 12) hc dX9_isBoth_3 (by decide) (fun hb => ?_) (fun hb => ?_)
  · have h := ite_t hb h
    refine x_iconst hc dX9_isBoth_12 kc_1 ?_
    refine x_goto (tgt := 17) hc dX9_isBoth_13 (by decide) ?_
    cases h
    exact x_zret hc dX9_isBoth_17 nar_1 hr hM
  · have h := ite_f hb h
    refine x_iload_n hc dX9_isBoth_6 rfl 0 rfl ?_
    refine x_bipush hc dX9_isBoth_7 kb_91 ?_
    refine x_icmp_ne (tgt := 16) hc dX9_isBoth_9 (by decide) (fun hb => ?_) (fun hb => ?_)
    · have h := ite_f hb h
      refine x_iconst hc dX9_isBoth_16 kc_0 ?_
      cases h
      exact x_zret hc dX9_isBoth_17 nar_0 hr hM
    · have h := ite_t hb h
      refine x_iconst hc dX9_isBoth_12 kc_1 ?_
      refine x_goto (tgt := 17) hc dX9_isBoth_13 (by decide) ?_
      cases h
      exact x_zret hc dX9_isBoth_17 nar_1 hr hM

def Mo_fitsAlone_L57_J118 (x1 : Int32) (x2 : Int32) (x3 : Int32) (x4 : Int32) (x5 : Int32) (s0 : Int32) (M : QM) : Option ((Int32) ⊕ (Int32 × Int32)) :=
  (if x3 = 0 then some (.inr ((0 : Int32), x4 + (1 : Int32))) else ck (inb x1 60) ((if (M.1 2 x1.toNatClampNeg) = (123 : Int32) then (if x5 = 0 then (if s0 = 0 then some (.inr ((1 : Int32), x4 + (1 : Int32))) else some (.inr ((0 : Int32), x4 + (1 : Int32)))) else some (.inr ((1 : Int32), x4 + (1 : Int32)))) else (if s0 = 0 then (if x5 = 0 then some (.inr ((1 : Int32), x4 + (1 : Int32))) else some (.inr ((0 : Int32), x4 + (1 : Int32)))) else some (.inr ((1 : Int32), x4 + (1 : Int32)))))))

set_option maxRecDepth 20000 in
set_option maxHeartbeats 2000000 in
theorem S_Mo_fitsAlone_L57_J118 {C : QC} (hc : OKX C RX9 cX9_fitsAlone 7 1 (some .boolean)) (hSH : q_SH C = SHM) (x1 : Int32) (x2 : Int32) (x3 : Int32) (x4 : Int32) (x5 : Int32) (s0 : Int32) (M : QM) {res : (Int32) ⊕ (Int32 × Int32)} (h : Mo_fitsAlone_L57_J118 x1 x2 x3 x4 x5 s0 M = some res) (ke : ∀ x : Int32, res = .inl x → WX C 7 170 [(3, .int x)] [] M) (kb : ∀ x : Int32 × Int32, res = .inr x → WX C 7 57 [(0, .ref 0), (1, .int x1), (2, .int x2), (3, .int x.1), (4, .int x.2)] [] M) : WX C 7 118 [(0, .ref 0), (1, .int x1), (2, .int x2), (3, .int x3), (4, .int x4), (5, .int x5)] [.int s0] M := by
  unfold Mo_fitsAlone_L57_J118 at h
  refine x_istore (L2 := [(6, .int s0), (0, .ref 0), (1, .int x1), (2, .int x2), (3, .int x3), (4, .int x4), (5, .int x5)]) hc dX9_fitsAlone_118 (by decide) rfl ?_
  refine x_iload_n hc dX9_fitsAlone_120 rfl 4 rfl ?_
  refine x_if_eq (tgt := 162) hc dX9_fitsAlone_121 (by decide) (fun hb => ?_) (fun hb => ?_)
  · have h := ite_t hb h
    refine x_iconst hc dX9_fitsAlone_162 kc_0 ?_
    refine x_istore_n (L2 := [(3, .int (0 : Int32)), (6, .int s0), (0, .ref 0), (1, .int x1), (2, .int x2), (4, .int x4), (5, .int x5)]) hc dX9_fitsAlone_163 rfl (by decide) rfl ?_
    refine x_iinc (v := x4 + (1 : Int32)) (L2 := [(4, .int (x4 + (1 : Int32))), (3, .int (0 : Int32)), (6, .int s0), (0, .ref 0), (1, .int x1), (2, .int x2), (5, .int x5)]) hc dX9_fitsAlone_164 5 rfl (by rw [kc_1]) (by decide) rfl ?_
    refine x_goto (tgt := 57) hc dX9_fitsAlone_167 (by decide) ?_
    cases h
    exact x_sub (kb ((0 : Int32), x4 + (1 : Int32)) rfl) [3, 4, 5, 1, 0] rfl
  · have h := ite_f hb h
    refine x_aload_n hc dX9_fitsAlone_124 rfl 1 rfl ?_
    refine x_getR hc dX9_fitsAlone_125 fl_RX9_13 (q_s hSH sm_0) rfl ?_
    refine x_iload_n hc dX9_fitsAlone_128 rfl 2 rfl ?_
    obtain ⟨b10, h⟩ := ck_some h
    refine x_iald hc dX9_fitsAlone_129 (q_s hSH sm_2) (inb_in b10) ?_
    refine x_bipush hc dX9_fitsAlone_130 kb_123 ?_
    refine x_icmp_ne (tgt := 148) hc dX9_fitsAlone_132 (by decide) (fun hb => ?_) (fun hb => ?_)
    · have h := ite_f hb h
      refine x_iload hc dX9_fitsAlone_148 0 rfl ?_
      refine x_if_ne (tgt := 158) hc dX9_fitsAlone_150 (by decide) (fun hb => ?_) (fun hb => ?_)
      · have h := ite_f hb h
        refine x_iconst hc dX9_fitsAlone_158 kc_1 ?_
        refine x_goto (tgt := 163) hc dX9_fitsAlone_159 (by decide) ?_
        refine x_istore_n (L2 := [(3, .int (1 : Int32)), (6, .int s0), (0, .ref 0), (1, .int x1), (2, .int x2), (4, .int x4), (5, .int x5)]) hc dX9_fitsAlone_163 rfl (by decide) rfl ?_
        refine x_iinc (v := x4 + (1 : Int32)) (L2 := [(4, .int (x4 + (1 : Int32))), (3, .int (1 : Int32)), (6, .int s0), (0, .ref 0), (1, .int x1), (2, .int x2), (5, .int x5)]) hc dX9_fitsAlone_164 5 rfl (by rw [kc_1]) (by decide) rfl ?_
        refine x_goto (tgt := 57) hc dX9_fitsAlone_167 (by decide) ?_
        cases h
        exact x_sub (kb ((1 : Int32), x4 + (1 : Int32)) rfl) [3, 4, 5, 1, 0] rfl
      · have h := ite_t hb h
        refine x_iload hc dX9_fitsAlone_153 6 rfl ?_
        refine x_if_ne (tgt := 162) hc dX9_fitsAlone_155 (by decide) (fun hb => ?_) (fun hb => ?_)
        · have h := ite_f hb h
          refine x_iconst hc dX9_fitsAlone_162 kc_0 ?_
          refine x_istore_n (L2 := [(3, .int (0 : Int32)), (6, .int s0), (0, .ref 0), (1, .int x1), (2, .int x2), (4, .int x4), (5, .int x5)]) hc dX9_fitsAlone_163 rfl (by decide) rfl ?_
          refine x_iinc (v := x4 + (1 : Int32)) (L2 := [(4, .int (x4 + (1 : Int32))), (3, .int (0 : Int32)), (6, .int s0), (0, .ref 0), (1, .int x1), (2, .int x2), (5, .int x5)]) hc dX9_fitsAlone_164 5 rfl (by rw [kc_1]) (by decide) rfl ?_
          refine x_goto (tgt := 57) hc dX9_fitsAlone_167 (by decide) ?_
          cases h
          exact x_sub (kb ((0 : Int32), x4 + (1 : Int32)) rfl) [3, 4, 5, 1, 0] rfl
        · have h := ite_t hb h
          refine x_iconst hc dX9_fitsAlone_158 kc_1 ?_
          refine x_goto (tgt := 163) hc dX9_fitsAlone_159 (by decide) ?_
          refine x_istore_n (L2 := [(3, .int (1 : Int32)), (6, .int s0), (0, .ref 0), (1, .int x1), (2, .int x2), (4, .int x4), (5, .int x5)]) hc dX9_fitsAlone_163 rfl (by decide) rfl ?_
          refine x_iinc (v := x4 + (1 : Int32)) (L2 := [(4, .int (x4 + (1 : Int32))), (3, .int (1 : Int32)), (6, .int s0), (0, .ref 0), (1, .int x1), (2, .int x2), (5, .int x5)]) hc dX9_fitsAlone_164 5 rfl (by rw [kc_1]) (by decide) rfl ?_
          refine x_goto (tgt := 57) hc dX9_fitsAlone_167 (by decide) ?_
          cases h
          exact x_sub (kb ((1 : Int32), x4 + (1 : Int32)) rfl) [3, 4, 5, 1, 0] rfl
    · have h := ite_t hb h
      refine x_iload hc dX9_fitsAlone_135 6 rfl ?_
      refine x_if_ne (tgt := 158) hc dX9_fitsAlone_137 (by decide) (fun hb => ?_) (fun hb => ?_)
      · have h := ite_f hb h
        refine x_iconst hc dX9_fitsAlone_158 kc_1 ?_
        refine x_goto (tgt := 163) hc dX9_fitsAlone_159 (by decide) ?_
        refine x_istore_n (L2 := [(3, .int (1 : Int32)), (6, .int s0), (0, .ref 0), (1, .int x1), (2, .int x2), (4, .int x4), (5, .int x5)]) hc dX9_fitsAlone_163 rfl (by decide) rfl ?_
        refine x_iinc (v := x4 + (1 : Int32)) (L2 := [(4, .int (x4 + (1 : Int32))), (3, .int (1 : Int32)), (6, .int s0), (0, .ref 0), (1, .int x1), (2, .int x2), (5, .int x5)]) hc dX9_fitsAlone_164 5 rfl (by rw [kc_1]) (by decide) rfl ?_
        refine x_goto (tgt := 57) hc dX9_fitsAlone_167 (by decide) ?_
        cases h
        exact x_sub (kb ((1 : Int32), x4 + (1 : Int32)) rfl) [3, 4, 5, 1, 0] rfl
      · have h := ite_t hb h
        refine x_iload hc dX9_fitsAlone_140 0 rfl ?_
        refine x_if_ne (tgt := 162) hc dX9_fitsAlone_142 (by decide) (fun hb => ?_) (fun hb => ?_)
        · have h := ite_f hb h
          refine x_iconst hc dX9_fitsAlone_162 kc_0 ?_
          refine x_istore_n (L2 := [(3, .int (0 : Int32)), (6, .int s0), (0, .ref 0), (1, .int x1), (2, .int x2), (4, .int x4), (5, .int x5)]) hc dX9_fitsAlone_163 rfl (by decide) rfl ?_
          refine x_iinc (v := x4 + (1 : Int32)) (L2 := [(4, .int (x4 + (1 : Int32))), (3, .int (0 : Int32)), (6, .int s0), (0, .ref 0), (1, .int x1), (2, .int x2), (5, .int x5)]) hc dX9_fitsAlone_164 5 rfl (by rw [kc_1]) (by decide) rfl ?_
          refine x_goto (tgt := 57) hc dX9_fitsAlone_167 (by decide) ?_
          cases h
          exact x_sub (kb ((0 : Int32), x4 + (1 : Int32)) rfl) [3, 4, 5, 1, 0] rfl
        · have h := ite_t hb h
          refine x_goto (tgt := 158) hc dX9_fitsAlone_145 (by decide) ?_
          refine x_iconst hc dX9_fitsAlone_158 kc_1 ?_
          refine x_goto (tgt := 163) hc dX9_fitsAlone_159 (by decide) ?_
          refine x_istore_n (L2 := [(3, .int (1 : Int32)), (6, .int s0), (0, .ref 0), (1, .int x1), (2, .int x2), (4, .int x4), (5, .int x5)]) hc dX9_fitsAlone_163 rfl (by decide) rfl ?_
          refine x_iinc (v := x4 + (1 : Int32)) (L2 := [(4, .int (x4 + (1 : Int32))), (3, .int (1 : Int32)), (6, .int s0), (0, .ref 0), (1, .int x1), (2, .int x2), (5, .int x5)]) hc dX9_fitsAlone_164 5 rfl (by rw [kc_1]) (by decide) rfl ?_
          refine x_goto (tgt := 57) hc dX9_fitsAlone_167 (by decide) ?_
          cases h
          exact x_sub (kb ((1 : Int32), x4 + (1 : Int32)) rfl) [3, 4, 5, 1, 0] rfl

def Mo_fitsAlone_L57_J96 (x1 : Int32) (x2 : Int32) (x3 : Int32) (x4 : Int32) (s0 : Int32) (M : QM) : Option ((Int32) ⊕ (Int32 × Int32)) :=
  ck (inb (((8 : Int32) * x2) + x4) 480) ((if (M.1 3 (((8 : Int32) * x2) + x4).toNatClampNeg) < 0 then Mo_fitsAlone_L57_J118 x1 x2 x3 x4 s0 (0 : Int32) M else Mo_fitsAlone_L57_J118 x1 x2 x3 x4 s0 (1 : Int32) M))

set_option maxRecDepth 20000 in
set_option maxHeartbeats 2000000 in
theorem S_Mo_fitsAlone_L57_J96 {C : QC} (hc : OKX C RX9 cX9_fitsAlone 7 1 (some .boolean)) (hSH : q_SH C = SHM) (x1 : Int32) (x2 : Int32) (x3 : Int32) (x4 : Int32) (s0 : Int32) (M : QM) {res : (Int32) ⊕ (Int32 × Int32)} (h : Mo_fitsAlone_L57_J96 x1 x2 x3 x4 s0 M = some res) (ke : ∀ x : Int32, res = .inl x → WX C 7 170 [(3, .int x)] [] M) (kb : ∀ x : Int32 × Int32, res = .inr x → WX C 7 57 [(0, .ref 0), (1, .int x1), (2, .int x2), (3, .int x.1), (4, .int x.2)] [] M) : WX C 7 96 [(0, .ref 0), (1, .int x1), (2, .int x2), (3, .int x3), (4, .int x4)] [.int s0] M := by
  unfold Mo_fitsAlone_L57_J96 at h
  refine x_istore (L2 := [(5, .int s0), (0, .ref 0), (1, .int x1), (2, .int x2), (3, .int x3), (4, .int x4)]) hc dX9_fitsAlone_96 (by decide) rfl ?_
  refine x_aload_n hc dX9_fitsAlone_98 rfl 1 rfl ?_
  refine x_getR hc dX9_fitsAlone_99 fl_RX9_16 (q_s hSH sm_0) rfl ?_
  refine x_bipush hc dX9_fitsAlone_102 kb_8 ?_
  refine x_iload_n hc dX9_fitsAlone_104 rfl 3 rfl ?_
  refine x_imul hc dX9_fitsAlone_105 ?_
  refine x_iload hc dX9_fitsAlone_106 5 rfl ?_
  refine x_iadd hc dX9_fitsAlone_108 ?_
  obtain ⟨b9, h⟩ := ck_some h
  refine x_iald hc dX9_fitsAlone_109 (q_s hSH sm_3) (inb_in b9) ?_
  refine x_if_lt (tgt := 117) hc dX9_fitsAlone_110 (by decide) (fun hb => ?_) (fun hb => ?_)
  · have h := ite_t hb h
    refine x_iconst hc dX9_fitsAlone_117 kc_0 ?_
    exact x_sub (S_Mo_fitsAlone_L57_J118 hc hSH x1 x2 x3 x4 s0 (0 : Int32) M h ke kb) [1, 2, 3, 4, 5, 0] rfl
  · have h := ite_f hb h
    refine x_iconst hc dX9_fitsAlone_113 kc_1 ?_
    refine x_goto (tgt := 118) hc dX9_fitsAlone_114 (by decide) ?_
    exact x_sub (S_Mo_fitsAlone_L57_J118 hc hSH x1 x2 x3 x4 s0 (1 : Int32) M h ke kb) [1, 2, 3, 4, 5, 0] rfl

def Mo_fitsAlone_B57 (x1 : Int32) (x2 : Int32) (M : QM) (v : Int32 × Int32) : Option ((Int32) ⊕ (Int32 × Int32)) :=
  (if (8 : Int32) ≤ v.2 then some (.inl v.1) else ck (inb x1 60) (Option.bind (Mo_isBoth (M.1 2 x1.toNatClampNeg) M) (fun q7 => (if q7 = 0 then some (.inl v.1) else ck (inb (((8 : Int32) * x1) + v.2) 480) ((if (M.1 3 (((8 : Int32) * x1) + v.2).toNatClampNeg) < 0 then Mo_fitsAlone_L57_J96 x1 x2 v.1 v.2 (0 : Int32) M else Mo_fitsAlone_L57_J96 x1 x2 v.1 v.2 (1 : Int32) M))))))

set_option maxRecDepth 20000 in
set_option maxHeartbeats 2000000 in
theorem S_Mo_fitsAlone_B57 {C : QC} (hc : OKX C RX9 cX9_fitsAlone 7 1 (some .boolean)) (hSH : q_SH C = SHM) (x1 : Int32) (x2 : Int32) (M : QM) (v : Int32 × Int32) {res : (Int32) ⊕ (Int32 × Int32)} (h : Mo_fitsAlone_B57 x1 x2 M v = some res) (ke : ∀ x : Int32, res = .inl x → WX C 7 170 [(3, .int x)] [] M) (kb : ∀ x : Int32 × Int32, res = .inr x → WX C 7 57 [(0, .ref 0), (1, .int x1), (2, .int x2), (3, .int x.1), (4, .int x.2)] [] M) : WX C 7 57 [(0, .ref 0), (1, .int x1), (2, .int x2), (3, .int v.1), (4, .int v.2)] [] M := by
  unfold Mo_fitsAlone_B57 at h
  refine x_iload hc dX9_fitsAlone_57 4 rfl ?_
  refine x_bipush hc dX9_fitsAlone_59 kb_8 ?_
  refine x_icmp_ge (tgt := 170) hc dX9_fitsAlone_61 (by decide) (fun hb => ?_) (fun hb => ?_)
  · have h := ite_t hb h
    cases h
    exact x_sub (ke v.1 rfl) [3] rfl
  · have h := ite_f hb h
    refine x_aload_n hc dX9_fitsAlone_64 rfl 0 rfl ?_
    refine x_getR hc dX9_fitsAlone_65 fl_RX9_13 (q_s hSH sm_0) rfl ?_
    refine x_iload_n hc dX9_fitsAlone_68 rfl 1 rfl ?_
    obtain ⟨b6, h⟩ := ck_some h
    refine x_iald hc dX9_fitsAlone_69 (q_s hSH sm_2) (inb_in b6) ?_
    obtain ⟨q7, h7, h⟩ := bd_some h
    refine x_callSi (As := [.int (M.1 2 x1.toNatClampNeg)]) (st := []) hc dX9_fitsAlone_70 cs_X9_isBoth lk_RX9_130 rfl (q_cn hSH (S_Mo_isBoth h7)) (by decide) (Nat.le_of_ble_eq_true rfl) ?_
    refine x_if_eq (tgt := 170) hc dX9_fitsAlone_73 (by decide) (fun hb => ?_) (fun hb => ?_)
    · have h := ite_t hb h
      cases h
      exact x_sub (ke v.1 rfl) [3] rfl
    · have h := ite_f hb h
      refine x_aload_n hc dX9_fitsAlone_76 rfl 0 rfl ?_
      refine x_getR hc dX9_fitsAlone_77 fl_RX9_16 (q_s hSH sm_0) rfl ?_
      refine x_bipush hc dX9_fitsAlone_80 kb_8 ?_
      refine x_iload_n hc dX9_fitsAlone_82 rfl 1 rfl ?_
      refine x_imul hc dX9_fitsAlone_83 ?_
      refine x_iload hc dX9_fitsAlone_84 4 rfl ?_
      refine x_iadd hc dX9_fitsAlone_86 ?_
      obtain ⟨b8, h⟩ := ck_some h
      refine x_iald hc dX9_fitsAlone_87 (q_s hSH sm_3) (inb_in b8) ?_
      refine x_if_lt (tgt := 95) hc dX9_fitsAlone_88 (by decide) (fun hb => ?_) (fun hb => ?_)
      · have h := ite_t hb h
        refine x_iconst hc dX9_fitsAlone_95 kc_0 ?_
        exact x_sub (S_Mo_fitsAlone_L57_J96 hc hSH x1 x2 v.1 v.2 (0 : Int32) M h ke kb) [0, 1, 2, 3, 4] rfl
      · have h := ite_f hb h
        refine x_iconst hc dX9_fitsAlone_91 kc_1 ?_
        refine x_goto (tgt := 96) hc dX9_fitsAlone_92 (by decide) ?_
        exact x_sub (S_Mo_fitsAlone_L57_J96 hc hSH x1 x2 v.1 v.2 (1 : Int32) M h ke kb) [0, 1, 2, 3, 4] rfl

theorem S_Mo_fitsAlone_L57 {C : QC} (hc : OKX C RX9 cX9_fitsAlone 7 1 (some .boolean)) (hSH : q_SH C = SHM) (x1 : Int32) (x2 : Int32) (M : QM) {n : Nat} {v : Int32 × Int32} {e : Int32} (h : iter (Mo_fitsAlone_B57 x1 x2 M) n v = some e) (ke : ∀ x : Int32, e = x → WX C 7 170 [(3, .int x)] [] M) : WX C 7 57 [(0, .ref 0), (1, .int x1), (2, .int x2), (3, .int v.1), (4, .int v.2)] [] M :=
  iter_W (Wh := fun v => WX C 7 57 [(0, .ref 0), (1, .int x1), (2, .int x2), (3, .int v.1), (4, .int v.2)] [] M) (fun a res hB k1 k2 => S_Mo_fitsAlone_B57 hc hSH x1 x2 M a hB (fun x hx => ke x (k1 _ hx).symm) k2) n v h

def Mo_fitsAlone (p1 : Int32) (p2 : Int32) (M : QM) : Option (Int32) :=
  ck (inb p1 60) ((if (M.1 2 p1.toNatClampNeg) = (33 : Int32) then some (1 : Int32) else ck (inb p2 60) ((if (M.1 2 p2.toNatClampNeg) = (46 : Int32) then some (1 : Int32) else ck (inb p1 60) (ck (inb p2 60) ((if (M.1 2 p1.toNatClampNeg) = (M.1 2 p2.toNatClampNeg) then ck (inb p1 60) ((if (M.1 2 p1.toNatClampNeg) = (46 : Int32) then some (0 : Int32) else Option.bind (iter (Mo_fitsAlone_B57 p1 p2 M) FU ((1 : Int32), (0 : Int32))) (fun e11 => ck (isb e11) (some e11)))) else some (0 : Int32))))))))

set_option maxRecDepth 20000 in
set_option maxHeartbeats 2000000 in
theorem S_Mo_fitsAlone  {p1 : Int32} {p2 : Int32} {M : QM} {res : Int32} (h : Mo_fitsAlone p1 p2 M = some res) : Cn yX9_fitsAlone cX9_fitsAlone 7 (some .boolean) 1 SHM [.ref 0, .int p1, .int p2] M (some (.int res)) M := by
  refine q_enter (L := [(0, .ref 0), (1, .int p1), (2, .int p2)]) (by decide) (Nat.le_of_ble_eq_true rfl) rfl ?_
  intro C hc hSH hr hM
  have hc : OKX C RX9 cX9_fitsAlone 7 1 (some .boolean) := hc
  unfold Mo_fitsAlone at h
  refine x_aload_n hc dX9_fitsAlone_0 rfl 0 rfl ?_
  refine x_getR hc dX9_fitsAlone_1 fl_RX9_13 (q_s hSH sm_0) rfl ?_
  refine x_iload_n hc dX9_fitsAlone_4 rfl 1 rfl ?_
  obtain ⟨b1, h⟩ := ck_some h
  refine x_iald hc dX9_fitsAlone_5 (q_s hSH sm_2) (inb_in b1) ?_
  refine x_bipush hc dX9_fitsAlone_6 kb_33 ?_
  refine x_icmp_eq (tgt := 22) hc dX9_fitsAlone_8 (by decide) (fun hb => ?_) (fun hb => ?_)
  · have h := ite_t hb h
    refine x_iconst hc dX9_fitsAlone_22 kc_1 ?_
    cases h
    exact x_zret hc dX9_fitsAlone_23 nar_1 hr hM
  · have h := ite_f hb h
    refine x_aload_n hc dX9_fitsAlone_11 rfl 0 rfl ?_
    refine x_getR hc dX9_fitsAlone_12 fl_RX9_13 (q_s hSH sm_0) rfl ?_
    refine x_iload_n hc dX9_fitsAlone_15 rfl 2 rfl ?_
    obtain ⟨b2, h⟩ := ck_some h
    refine x_iald hc dX9_fitsAlone_16 (q_s hSH sm_2) (inb_in b2) ?_
    refine x_bipush hc dX9_fitsAlone_17 kb_46 ?_
    refine x_icmp_ne (tgt := 24) hc dX9_fitsAlone_19 (by decide) (fun hb => ?_) (fun hb => ?_)
    · have h := ite_f hb h
      refine x_aload_n hc dX9_fitsAlone_24 rfl 0 rfl ?_
      refine x_getR hc dX9_fitsAlone_25 fl_RX9_13 (q_s hSH sm_0) rfl ?_
      refine x_iload_n hc dX9_fitsAlone_28 rfl 1 rfl ?_
      obtain ⟨b3, h⟩ := ck_some h
      refine x_iald hc dX9_fitsAlone_29 (q_s hSH sm_2) (inb_in b3) ?_
      refine x_aload_n hc dX9_fitsAlone_30 rfl 0 rfl ?_
      refine x_getR hc dX9_fitsAlone_31 fl_RX9_13 (q_s hSH sm_0) rfl ?_
      refine x_iload_n hc dX9_fitsAlone_34 rfl 2 rfl ?_
      obtain ⟨b4, h⟩ := ck_some h
      refine x_iald hc dX9_fitsAlone_35 (q_s hSH sm_2) (inb_in b4) ?_
      refine x_icmp_ne (tgt := 50) hc dX9_fitsAlone_36 (by decide) (fun hb => ?_) (fun hb => ?_)
      · have h := ite_f hb h
        refine x_iconst hc dX9_fitsAlone_50 kc_0 ?_
        cases h
        exact x_zret hc dX9_fitsAlone_51 nar_0 hr hM
      · have h := ite_t hb h
        refine x_aload_n hc dX9_fitsAlone_39 rfl 0 rfl ?_
        refine x_getR hc dX9_fitsAlone_40 fl_RX9_13 (q_s hSH sm_0) rfl ?_
        refine x_iload_n hc dX9_fitsAlone_43 rfl 1 rfl ?_
        obtain ⟨b5, h⟩ := ck_some h
        refine x_iald hc dX9_fitsAlone_44 (q_s hSH sm_2) (inb_in b5) ?_
        refine x_bipush hc dX9_fitsAlone_45 kb_46 ?_
        refine x_icmp_ne (tgt := 52) hc dX9_fitsAlone_47 (by decide) (fun hb => ?_) (fun hb => ?_)
        · have h := ite_f hb h
          refine x_iconst hc dX9_fitsAlone_52 kc_1 ?_
          refine x_istore_n (L2 := [(3, .int (1 : Int32)), (0, .ref 0), (1, .int p1), (2, .int p2)]) hc dX9_fitsAlone_53 rfl (by decide) rfl ?_
          refine x_iconst hc dX9_fitsAlone_54 kc_0 ?_
          refine x_istore (L2 := [(4, .int (0 : Int32)), (3, .int (1 : Int32)), (0, .ref 0), (1, .int p1), (2, .int p2)]) hc dX9_fitsAlone_55 (by decide) rfl ?_
          obtain ⟨e11, h11, h⟩ := bd_some h
          refine x_sub (S_Mo_fitsAlone_L57 hc hSH p1 p2 M (v := ((1 : Int32), (0 : Int32))) h11 (fun x hx => ?_)) [2, 3, 4, 1, 0] rfl
          subst hx
          refine x_iload_n hc dX9_fitsAlone_170 rfl 0 rfl ?_
          obtain ⟨b12, h⟩ := ck_some h
          cases h
          exact x_zret hc dX9_fitsAlone_171 (isb_nar b12) hr hM
        · have h := ite_t hb h
          refine x_iconst hc dX9_fitsAlone_50 kc_0 ?_
          cases h
          exact x_zret hc dX9_fitsAlone_51 nar_0 hr hM
    · have h := ite_t hb h
      refine x_iconst hc dX9_fitsAlone_22 kc_1 ?_
      cases h
      exact x_zret hc dX9_fitsAlone_23 nar_1 hr hM

def Mo_stepTo_J76 (x1 : Int32) (x2 : Int32) (x3 : Int32) (s0 : Int32) (M : QM) : Option (Int32) :=
  (if s0 = 0 then some (-6 : Int32) else ck (inb (((8 : Int32) * x1) + x3) 480) (ck (inb (((8 : Int32) * x2) + x3) 480) (some (((60 : Int32) * (M.1 3 (((8 : Int32) * x1) + x3).toNatClampNeg)) + (M.1 3 (((8 : Int32) * x2) + x3).toNatClampNeg)))))

set_option maxRecDepth 20000 in
set_option maxHeartbeats 2000000 in
theorem S_Mo_stepTo_J76 {C : QC} (hc : OKX C RX9 cX9_stepTo 6 1 (some .int)) (hSH : q_SH C = SHM) (x1 : Int32) (x2 : Int32) (x3 : Int32) (s0 : Int32) (M : QM) {res : Int32} (h : Mo_stepTo_J76 x1 x2 x3 s0 M = some res) (hr : q_r C = some (.int res)) (hM : q_M C = M) : WX C 6 76 [(0, .ref 0), (1, .int x1), (2, .int x2), (3, .int x3)] [.int s0] M := by
  unfold Mo_stepTo_J76 at h
  refine x_istore (L2 := [(5, .int s0), (0, .ref 0), (1, .int x1), (2, .int x2), (3, .int x3)]) hc dX9_stepTo_76 (by decide) rfl ?_
  refine x_iload hc dX9_stepTo_78 0 rfl ?_
  refine x_if_eq (tgt := 112) hc dX9_stepTo_80 (by decide) (fun hb => ?_) (fun hb => ?_)
  · have h := ite_t hb h
    refine x_bipush hc dX9_stepTo_112 kb_m6 ?_
    cases h
    exact x_iret hc dX9_stepTo_114 hr hM
  · have h := ite_f hb h
    refine x_bipush hc dX9_stepTo_83 kb_60 ?_
    refine x_aload_n hc dX9_stepTo_85 rfl 1 rfl ?_
    refine x_getR hc dX9_stepTo_86 fl_RX9_16 (q_s hSH sm_0) rfl ?_
    refine x_bipush hc dX9_stepTo_89 kb_8 ?_
    refine x_iload_n hc dX9_stepTo_91 rfl 2 rfl ?_
    refine x_imul hc dX9_stepTo_92 ?_
    refine x_iload_n hc dX9_stepTo_93 rfl 4 rfl ?_
    refine x_iadd hc dX9_stepTo_94 ?_
    obtain ⟨b10, h⟩ := ck_some h
    refine x_iald hc dX9_stepTo_95 (q_s hSH sm_3) (inb_in b10) ?_
    refine x_imul hc dX9_stepTo_96 ?_
    refine x_aload_n hc dX9_stepTo_97 rfl 1 rfl ?_
    refine x_getR hc dX9_stepTo_98 fl_RX9_16 (q_s hSH sm_0) rfl ?_
    refine x_bipush hc dX9_stepTo_101 kb_8 ?_
    refine x_iload_n hc dX9_stepTo_103 rfl 3 rfl ?_
    refine x_imul hc dX9_stepTo_104 ?_
    refine x_iload_n hc dX9_stepTo_105 rfl 4 rfl ?_
    refine x_iadd hc dX9_stepTo_106 ?_
    obtain ⟨b11, h⟩ := ck_some h
    refine x_iald hc dX9_stepTo_107 (q_s hSH sm_3) (inb_in b11) ?_
    refine x_iadd hc dX9_stepTo_108 ?_
    refine x_goto (tgt := 114) hc dX9_stepTo_109 (by decide) ?_
    cases h
    exact x_iret hc dX9_stepTo_114 hr hM

def Mo_stepTo_J75 (x1 : Int32) (x2 : Int32) (x3 : Int32) (M : QM) : Option (Int32) :=
  Mo_stepTo_J76 x1 x2 x3 (0 : Int32) M

set_option maxRecDepth 20000 in
set_option maxHeartbeats 2000000 in
theorem S_Mo_stepTo_J75 {C : QC} (hc : OKX C RX9 cX9_stepTo 6 1 (some .int)) (hSH : q_SH C = SHM) (x1 : Int32) (x2 : Int32) (x3 : Int32) (M : QM) {res : Int32} (h : Mo_stepTo_J75 x1 x2 x3 M = some res) (hr : q_r C = some (.int res)) (hM : q_M C = M) : WX C 6 75 [(0, .ref 0), (1, .int x1), (2, .int x2), (3, .int x3)] [] M := by
  unfold Mo_stepTo_J75 at h
  refine x_iconst hc dX9_stepTo_75 kc_0 ?_
  exact x_sub (S_Mo_stepTo_J76 hc hSH x1 x2 x3 (0 : Int32) M h hr hM) [0, 1, 2, 3] rfl

def Mo_stepTo (p1 : Int32) (p2 : Int32) (p3 : Int32) (M : QM) : Option (Int32) :=
  ck (inb p1 60) ((if (M.1 2 p1.toNatClampNeg) = (33 : Int32) then some (-6 : Int32) else ck (inb p2 60) ((if (M.1 2 p2.toNatClampNeg) = (46 : Int32) then some (-6 : Int32) else (if (8 : Int32) ≤ p3 then (if p3 = (8 : Int32) then (if (M.1 2 p1.toNatClampNeg) = (42 : Int32) then ck (inb ((8 : Int32) * p1) 480) (ck (inb ((8 : Int32) * p2) 480) (some (((60 : Int32) * (M.1 3 ((8 : Int32) * p1).toNatClampNeg)) + (M.1 3 ((8 : Int32) * p2).toNatClampNeg)))) else some (-6 : Int32)) else (if (M.1 2 p1.toNatClampNeg) = (62 : Int32) then (if p3 = (9 : Int32) then ck (inb ((8 : Int32) * p2) 480) (ck (inb ((8 : Int32) * p1) 480) (some (((60 : Int32) * (M.1 3 ((8 : Int32) * p2).toNatClampNeg)) + (M.1 3 ((8 : Int32) * p1).toNatClampNeg)))) else ck (inb (((8 : Int32) * p1) + (1 : Int32)) 480) (ck (inb (((8 : Int32) * p2) + (1 : Int32)) 480) (some (((60 : Int32) * (M.1 3 (((8 : Int32) * p1) + (1 : Int32)).toNatClampNeg)) + (M.1 3 (((8 : Int32) * p2) + (1 : Int32)).toNatClampNeg))))) else some (-6 : Int32))) else Option.bind (Mo_isBoth (M.1 2 p1.toNatClampNeg) M) (fun q9 => (if q9 = 0 then Mo_stepTo_J75 p1 p2 p3 M else ck (inb (((8 : Int32) * p1) + p3) 480) ((if (M.1 3 (((8 : Int32) * p1) + p3).toNatClampNeg) < 0 then Mo_stepTo_J75 p1 p2 p3 M else ck (inb (((8 : Int32) * p2) + p3) 480) ((if (M.1 3 (((8 : Int32) * p2) + p3).toNatClampNeg) < 0 then Mo_stepTo_J75 p1 p2 p3 M else Mo_stepTo_J76 p1 p2 p3 (1 : Int32) M)))))))))))

set_option maxRecDepth 20000 in
set_option maxHeartbeats 2000000 in
theorem S_Mo_stepTo  {p1 : Int32} {p2 : Int32} {p3 : Int32} {M : QM} {res : Int32} (h : Mo_stepTo p1 p2 p3 M = some res) : Cn yX9_stepTo cX9_stepTo 6 (some .int) 1 SHM [.ref 0, .int p1, .int p2, .int p3] M (some (.int res)) M := by
  refine q_enter (L := [(0, .ref 0), (1, .int p1), (2, .int p2), (3, .int p3)]) (by decide) (Nat.le_of_ble_eq_true rfl) rfl ?_
  intro C hc hSH hr hM
  have hc : OKX C RX9 cX9_stepTo 6 1 (some .int) := hc
  unfold Mo_stepTo at h
  refine x_aload_n hc dX9_stepTo_0 rfl 0 rfl ?_
  refine x_getR hc dX9_stepTo_1 fl_RX9_13 (q_s hSH sm_0) rfl ?_
  refine x_iload_n hc dX9_stepTo_4 rfl 1 rfl ?_
  obtain ⟨b1, h⟩ := ck_some h
  refine x_iald hc dX9_stepTo_5 (q_s hSH sm_2) (inb_in b1) ?_
  refine x_istore (L2 := [(4, .int (M.1 2 p1.toNatClampNeg)), (0, .ref 0), (1, .int p1), (2, .int p2), (3, .int p3)]) hc dX9_stepTo_6 (by decide) rfl ?_
  refine x_iload hc dX9_stepTo_8 0 rfl ?_
  refine x_bipush hc dX9_stepTo_10 kb_33 ?_
  refine x_icmp_eq (tgt := 26) hc dX9_stepTo_12 (by decide) (fun hb => ?_) (fun hb => ?_)
  · have h := ite_t hb h
    refine x_bipush hc dX9_stepTo_26 kb_m6 ?_
    cases h
    exact x_iret hc dX9_stepTo_28 hr hM
  · have h := ite_f hb h
    refine x_aload_n hc dX9_stepTo_15 rfl 1 rfl ?_
    refine x_getR hc dX9_stepTo_16 fl_RX9_13 (q_s hSH sm_0) rfl ?_
    refine x_iload_n hc dX9_stepTo_19 rfl 3 rfl ?_
    obtain ⟨b2, h⟩ := ck_some h
    refine x_iald hc dX9_stepTo_20 (q_s hSH sm_2) (inb_in b2) ?_
    refine x_bipush hc dX9_stepTo_21 kb_46 ?_
    refine x_icmp_ne (tgt := 29) hc dX9_stepTo_23 (by decide) (fun hb => ?_) (fun hb => ?_)
    · have h := ite_f hb h
      refine x_iload_n hc dX9_stepTo_29 rfl 4 rfl ?_
      refine x_bipush hc dX9_stepTo_30 kb_8 ?_
      refine x_icmp_ge (tgt := 115) hc dX9_stepTo_32 (by decide) (fun hb => ?_) (fun hb => ?_)
      · have h := ite_t hb h
        refine x_iload_n hc dX9_stepTo_115 rfl 4 rfl ?_
        refine x_bipush hc dX9_stepTo_116 kb_8 ?_
        refine x_icmp_ne (tgt := 156) hc dX9_stepTo_118 (by decide) (fun hb => ?_) (fun hb => ?_)
        · have h := ite_f hb h
          refine x_iload hc dX9_stepTo_156 0 rfl ?_
          refine x_bipush hc dX9_stepTo_158 kb_62 ?_
          refine x_icmp_eq (tgt := 166) hc dX9_stepTo_160 (by decide) (fun hb => ?_) (fun hb => ?_)
          · have h := ite_t hb h
            refine x_iload_n hc dX9_stepTo_166 rfl 4 rfl ?_
            refine x_bipush hc dX9_stepTo_167 kb_9 ?_
            refine x_icmp_ne (tgt := 197) hc dX9_stepTo_169 (by decide) (fun hb => ?_) (fun hb => ?_)
            · have h := ite_f hb h
              refine x_bipush hc dX9_stepTo_197 kb_60 ?_
              refine x_aload_n hc dX9_stepTo_199 rfl 1 rfl ?_
              refine x_getR hc dX9_stepTo_200 fl_RX9_16 (q_s hSH sm_0) rfl ?_
              refine x_bipush hc dX9_stepTo_203 kb_8 ?_
              refine x_iload_n hc dX9_stepTo_205 rfl 2 rfl ?_
              refine x_imul hc dX9_stepTo_206 ?_
              refine x_iconst hc dX9_stepTo_207 kc_1 ?_
              refine x_iadd hc dX9_stepTo_208 ?_
              obtain ⟨b3, h⟩ := ck_some h
              refine x_iald hc dX9_stepTo_209 (q_s hSH sm_3) (inb_in b3) ?_
              refine x_imul hc dX9_stepTo_210 ?_
              refine x_aload_n hc dX9_stepTo_211 rfl 1 rfl ?_
              refine x_getR hc dX9_stepTo_212 fl_RX9_16 (q_s hSH sm_0) rfl ?_
              refine x_bipush hc dX9_stepTo_215 kb_8 ?_
              refine x_iload_n hc dX9_stepTo_217 rfl 3 rfl ?_
              refine x_imul hc dX9_stepTo_218 ?_
              refine x_iconst hc dX9_stepTo_219 kc_1 ?_
              refine x_iadd hc dX9_stepTo_220 ?_
              obtain ⟨b4, h⟩ := ck_some h
              refine x_iald hc dX9_stepTo_221 (q_s hSH sm_3) (inb_in b4) ?_
              refine x_iadd hc dX9_stepTo_222 ?_
              cases h
              exact x_iret hc dX9_stepTo_223 hr hM
            · have h := ite_t hb h
              refine x_bipush hc dX9_stepTo_172 kb_60 ?_
              refine x_aload_n hc dX9_stepTo_174 rfl 1 rfl ?_
              refine x_getR hc dX9_stepTo_175 fl_RX9_16 (q_s hSH sm_0) rfl ?_
              refine x_bipush hc dX9_stepTo_178 kb_8 ?_
              refine x_iload_n hc dX9_stepTo_180 rfl 3 rfl ?_
              refine x_imul hc dX9_stepTo_181 ?_
              obtain ⟨b5, h⟩ := ck_some h
              refine x_iald hc dX9_stepTo_182 (q_s hSH sm_3) (inb_in b5) ?_
              refine x_imul hc dX9_stepTo_183 ?_
              refine x_aload_n hc dX9_stepTo_184 rfl 1 rfl ?_
              refine x_getR hc dX9_stepTo_185 fl_RX9_16 (q_s hSH sm_0) rfl ?_
              refine x_bipush hc dX9_stepTo_188 kb_8 ?_
              refine x_iload_n hc dX9_stepTo_190 rfl 2 rfl ?_
              refine x_imul hc dX9_stepTo_191 ?_
              obtain ⟨b6, h⟩ := ck_some h
              refine x_iald hc dX9_stepTo_192 (q_s hSH sm_3) (inb_in b6) ?_
              refine x_iadd hc dX9_stepTo_193 ?_
              refine x_goto (tgt := 223) hc dX9_stepTo_194 (by decide) ?_
              cases h
              exact x_iret hc dX9_stepTo_223 hr hM
          · have h := ite_f hb h
            refine x_bipush hc dX9_stepTo_163 kb_m6 ?_
            cases h
            exact x_iret hc dX9_stepTo_165 hr hM
        · have h := ite_t hb h
          refine x_iload hc dX9_stepTo_121 0 rfl ?_
          refine x_bipush hc dX9_stepTo_123 kb_42 ?_
          refine x_icmp_ne (tgt := 153) hc dX9_stepTo_125 (by decide) (fun hb => ?_) (fun hb => ?_)
          · have h := ite_f hb h
            refine x_bipush hc dX9_stepTo_153 kb_m6 ?_
            cases h
            exact x_iret hc dX9_stepTo_155 hr hM
          · have h := ite_t hb h
            refine x_bipush hc dX9_stepTo_128 kb_60 ?_
            refine x_aload_n hc dX9_stepTo_130 rfl 1 rfl ?_
            refine x_getR hc dX9_stepTo_131 fl_RX9_16 (q_s hSH sm_0) rfl ?_
            refine x_bipush hc dX9_stepTo_134 kb_8 ?_
            refine x_iload_n hc dX9_stepTo_136 rfl 2 rfl ?_
            refine x_imul hc dX9_stepTo_137 ?_
            obtain ⟨b7, h⟩ := ck_some h
            refine x_iald hc dX9_stepTo_138 (q_s hSH sm_3) (inb_in b7) ?_
            refine x_imul hc dX9_stepTo_139 ?_
            refine x_aload_n hc dX9_stepTo_140 rfl 1 rfl ?_
            refine x_getR hc dX9_stepTo_141 fl_RX9_16 (q_s hSH sm_0) rfl ?_
            refine x_bipush hc dX9_stepTo_144 kb_8 ?_
            refine x_iload_n hc dX9_stepTo_146 rfl 3 rfl ?_
            refine x_imul hc dX9_stepTo_147 ?_
            obtain ⟨b8, h⟩ := ck_some h
            refine x_iald hc dX9_stepTo_148 (q_s hSH sm_3) (inb_in b8) ?_
            refine x_iadd hc dX9_stepTo_149 ?_
            refine x_goto (tgt := 155) hc dX9_stepTo_150 (by decide) ?_
            cases h
            exact x_iret hc dX9_stepTo_155 hr hM
      · have h := ite_f hb h
        refine x_iload hc dX9_stepTo_35 0 rfl ?_
        obtain ⟨q9, h9, h⟩ := bd_some h
        refine x_callSi (As := [.int (M.1 2 p1.toNatClampNeg)]) (st := []) hc dX9_stepTo_37 cs_X9_isBoth lk_RX9_130 rfl (q_cn hSH (S_Mo_isBoth h9)) (by decide) (Nat.le_of_ble_eq_true rfl) ?_
        refine x_if_eq (tgt := 75) hc dX9_stepTo_40 (by decide) (fun hb => ?_) (fun hb => ?_)
        · have h := ite_t hb h
          exact x_sub (S_Mo_stepTo_J75 hc hSH p1 p2 p3 M h hr hM) [1, 2, 3, 4] rfl
        · have h := ite_f hb h
          refine x_aload_n hc dX9_stepTo_43 rfl 1 rfl ?_
          refine x_getR hc dX9_stepTo_44 fl_RX9_16 (q_s hSH sm_0) rfl ?_
          refine x_bipush hc dX9_stepTo_47 kb_8 ?_
          refine x_iload_n hc dX9_stepTo_49 rfl 2 rfl ?_
          refine x_imul hc dX9_stepTo_50 ?_
          refine x_iload_n hc dX9_stepTo_51 rfl 4 rfl ?_
          refine x_iadd hc dX9_stepTo_52 ?_
          obtain ⟨b12, h⟩ := ck_some h
          refine x_iald hc dX9_stepTo_53 (q_s hSH sm_3) (inb_in b12) ?_
          refine x_if_lt (tgt := 75) hc dX9_stepTo_54 (by decide) (fun hb => ?_) (fun hb => ?_)
          · have h := ite_t hb h
            exact x_sub (S_Mo_stepTo_J75 hc hSH p1 p2 p3 M h hr hM) [1, 2, 3, 4] rfl
          · have h := ite_f hb h
            refine x_aload_n hc dX9_stepTo_57 rfl 1 rfl ?_
            refine x_getR hc dX9_stepTo_58 fl_RX9_16 (q_s hSH sm_0) rfl ?_
            refine x_bipush hc dX9_stepTo_61 kb_8 ?_
            refine x_iload_n hc dX9_stepTo_63 rfl 3 rfl ?_
            refine x_imul hc dX9_stepTo_64 ?_
            refine x_iload_n hc dX9_stepTo_65 rfl 4 rfl ?_
            refine x_iadd hc dX9_stepTo_66 ?_
            obtain ⟨b13, h⟩ := ck_some h
            refine x_iald hc dX9_stepTo_67 (q_s hSH sm_3) (inb_in b13) ?_
            refine x_if_lt (tgt := 75) hc dX9_stepTo_68 (by decide) (fun hb => ?_) (fun hb => ?_)
            · have h := ite_t hb h
              exact x_sub (S_Mo_stepTo_J75 hc hSH p1 p2 p3 M h hr hM) [1, 2, 3, 4] rfl
            · have h := ite_f hb h
              refine x_iconst hc dX9_stepTo_71 kc_1 ?_
              refine x_goto (tgt := 76) hc dX9_stepTo_72 (by decide) ?_
              exact x_sub (S_Mo_stepTo_J76 hc hSH p1 p2 p3 (1 : Int32) M h hr hM) [1, 2, 3, 4] rfl
    · have h := ite_t hb h
      refine x_bipush hc dX9_stepTo_26 kb_m6 ?_
      cases h
      exact x_iret hc dX9_stepTo_28 hr hM

def Mo_lay_L25_J58 (x1 : Int32) (x2 : Int32) (s0 : Int32) (s1 : Int32) (M : QM) : Option ((QM) ⊕ (Int32 × QM)) :=
  ck (inb s1 3600) (some (.inr (x2 + (1 : Int32), u_i M 12 s1.toNatClampNeg s0)))

set_option maxRecDepth 20000 in
set_option maxHeartbeats 2000000 in
theorem S_Mo_lay_L25_J58 {C : QC} (hc : OKX C RX9 cX9_lay 8 2 none) (hSH : q_SH C = SHM) (x1 : Int32) (x2 : Int32) (s0 : Int32) (s1 : Int32) (M : QM) {res : (QM) ⊕ (Int32 × QM)} (h : Mo_lay_L25_J58 x1 x2 s0 s1 M = some res) (ke : ∀ x : QM, res = .inl x → WX C 8 65 [(0, .ref 0), (1, .int x1)] [] x) (kb : ∀ x : Int32 × QM, res = .inr x → WX C 8 25 [(0, .ref 0), (1, .int x1), (2, .int x.1)] [] x.2) : WX C 8 58 [(0, .ref 0), (1, .int x1), (2, .int x2)] [.int s0, .int s1, .ref 12] M := by
  unfold Mo_lay_L25_J58 at h
  obtain ⟨b2, h⟩ := ck_some h
  refine x_iast hc dX9_lay_58 (q_s hSH sm_12) (inb_in b2) ?_
  refine x_iinc (v := x2 + (1 : Int32)) (L2 := [(2, .int (x2 + (1 : Int32))), (0, .ref 0), (1, .int x1)]) hc dX9_lay_59 2 rfl (by rw [kc_1]) (by decide) rfl ?_
  refine x_goto (tgt := 25) hc dX9_lay_62 (by decide) ?_
  cases h
  exact x_sub (kb (x2 + (1 : Int32), u_i M 12 s1.toNatClampNeg s0) rfl) [1, 2, 0] rfl

def Mo_lay_B25 (x1 : Int32) (v : Int32 × QM) : Option ((QM) ⊕ (Int32 × QM)) :=
  (if (v.2.1 0 2) ≤ v.1 then some (.inl v.2) else Option.bind (Mo_fitsAlone x1 v.1 v.2) (fun q1 => (if q1 = 0 then Mo_lay_L25_J58 x1 v.1 (0 : Int32) (((60 : Int32) * x1) + v.1) v.2 else Mo_lay_L25_J58 x1 v.1 (100000 : Int32) (((60 : Int32) * x1) + v.1) v.2)))

set_option maxRecDepth 20000 in
set_option maxHeartbeats 2000000 in
theorem S_Mo_lay_B25 {C : QC} (hc : OKX C RX9 cX9_lay 8 2 none) (hSH : q_SH C = SHM) (x1 : Int32) (v : Int32 × QM) {res : (QM) ⊕ (Int32 × QM)} (h : Mo_lay_B25 x1 v = some res) (ke : ∀ x : QM, res = .inl x → WX C 8 65 [(0, .ref 0), (1, .int x1)] [] x) (kb : ∀ x : Int32 × QM, res = .inr x → WX C 8 25 [(0, .ref 0), (1, .int x1), (2, .int x.1)] [] x.2) : WX C 8 25 [(0, .ref 0), (1, .int x1), (2, .int v.1)] [] v.2 := by
  unfold Mo_lay_B25 at h
  refine x_iload_n hc dX9_lay_25 rfl 2 rfl ?_
  refine x_aload_n hc dX9_lay_26 rfl 0 rfl ?_
  refine x_getI hc dX9_lay_27 fl_RX9_116 (q_s hSH sm_0) rfl ?_
  refine x_icmp_ge (tgt := 65) hc dX9_lay_30 (by decide) (fun hb => ?_) (fun hb => ?_)
  · have h := ite_t hb h
    cases h
    exact x_sub (ke v.2 rfl) [0, 1] rfl
  · have h := ite_f hb h
    refine x_aload_n hc dX9_lay_33 rfl 0 rfl ?_
    refine x_getR hc dX9_lay_34 fl_RX9_44 (q_s hSH sm_0) rfl ?_
    refine x_bipush hc dX9_lay_37 kb_60 ?_
    refine x_iload_n hc dX9_lay_39 rfl 1 rfl ?_
    refine x_imul hc dX9_lay_40 ?_
    refine x_iload_n hc dX9_lay_41 rfl 2 rfl ?_
    refine x_iadd hc dX9_lay_42 ?_
    refine x_aload_n hc dX9_lay_43 rfl 0 rfl ?_
    refine x_iload_n hc dX9_lay_44 rfl 1 rfl ?_
    refine x_iload_n hc dX9_lay_45 rfl 2 rfl ?_
    obtain ⟨q1, h1, h⟩ := bd_some h
    refine x_callVi (As := [.int x1, .int v.1]) (st := [.int (((60 : Int32) * x1) + v.1), .ref 12]) (o := 0) hc dX9_lay_46 cv_X9_fitsAlone lk_RX9_133 (q_s hSH sm_0) rfl rfl (q_cn hSH (S_Mo_fitsAlone h1)) (by decide) (Nat.le_of_ble_eq_true rfl) ?_
    refine x_if_eq (tgt := 57) hc dX9_lay_49 (by decide) (fun hb => ?_) (fun hb => ?_)
    · have h := ite_t hb h
      refine x_iconst hc dX9_lay_57 kc_0 ?_
      exact x_sub (S_Mo_lay_L25_J58 hc hSH x1 v.1 (0 : Int32) (((60 : Int32) * x1) + v.1) v.2 h ke kb) [0, 1, 2] rfl
    · have h := ite_f hb h
      refine x_ldc hc dX9_lay_52 kd_RX9_137 ?_
      refine x_goto (tgt := 58) hc dX9_lay_54 (by decide) ?_
      exact x_sub (S_Mo_lay_L25_J58 hc hSH x1 v.1 (100000 : Int32) (((60 : Int32) * x1) + v.1) v.2 h ke kb) [0, 1, 2] rfl

theorem S_Mo_lay_L25 {C : QC} (hc : OKX C RX9 cX9_lay 8 2 none) (hSH : q_SH C = SHM) (x1 : Int32) {n : Nat} {v : Int32 × QM} {e : QM} (h : iter (Mo_lay_B25 x1) n v = some e) (ke : ∀ x : QM, e = x → WX C 8 65 [(0, .ref 0), (1, .int x1)] [] x) : WX C 8 25 [(0, .ref 0), (1, .int x1), (2, .int v.1)] [] v.2 :=
  iter_W (Wh := fun v => WX C 8 25 [(0, .ref 0), (1, .int x1), (2, .int v.1)] [] v.2) (fun a res hB k1 k2 => S_Mo_lay_B25 hc hSH x1 a hB (fun x hx => ke x (k1 _ hx).symm) k2) n v h

def Mo_lay_B15 (v : Int32 × QM) : Option ((QM) ⊕ (Int32 × QM)) :=
  (if (v.2.1 0 2) ≤ v.1 then some (.inl v.2) else Option.bind (iter (Mo_lay_B25 v.1) FU ((0 : Int32), v.2)) (fun e3 => some (.inr (v.1 + (1 : Int32), e3))))

set_option maxRecDepth 20000 in
set_option maxHeartbeats 2000000 in
theorem S_Mo_lay_B15 {C : QC} (hc : OKX C RX9 cX9_lay 8 2 none) (hSH : q_SH C = SHM) (v : Int32 × QM) {res : (QM) ⊕ (Int32 × QM)} (h : Mo_lay_B15 v = some res) (ke : ∀ x : QM, res = .inl x → WX C 8 71 [(0, .ref 0)] [] x) (kb : ∀ x : Int32 × QM, res = .inr x → WX C 8 15 [(0, .ref 0), (1, .int x.1)] [] x.2) : WX C 8 15 [(0, .ref 0), (1, .int v.1)] [] v.2 := by
  unfold Mo_lay_B15 at h
  refine x_iload_n hc dX9_lay_15 rfl 1 rfl ?_
  refine x_aload_n hc dX9_lay_16 rfl 0 rfl ?_
  refine x_getI hc dX9_lay_17 fl_RX9_116 (q_s hSH sm_0) rfl ?_
  refine x_icmp_ge (tgt := 71) hc dX9_lay_20 (by decide) (fun hb => ?_) (fun hb => ?_)
  · have h := ite_t hb h
    cases h
    exact x_sub (ke v.2 rfl) [0] rfl
  · have h := ite_f hb h
    refine x_iconst hc dX9_lay_23 kc_0 ?_
    refine x_istore_n (L2 := [(2, .int (0 : Int32)), (0, .ref 0), (1, .int v.1)]) hc dX9_lay_24 rfl (by decide) rfl ?_
    obtain ⟨e3, h3, h⟩ := bd_some h
    refine x_sub (S_Mo_lay_L25 hc hSH v.1 (v := ((0 : Int32), v.2)) h3 (fun x hx => ?_)) [1, 2, 0] rfl
    subst hx
    refine x_iinc (v := v.1 + (1 : Int32)) (L2 := [(1, .int (v.1 + (1 : Int32))), (0, .ref 0)]) hc dX9_lay_65 1 rfl (by rw [kc_1]) (by decide) rfl ?_
    refine x_goto (tgt := 15) hc dX9_lay_68 (by decide) ?_
    cases h
    exact x_sub (kb (v.1 + (1 : Int32), e3) rfl) [1, 0] rfl

theorem S_Mo_lay_L15 {C : QC} (hc : OKX C RX9 cX9_lay 8 2 none) (hSH : q_SH C = SHM) {n : Nat} {v : Int32 × QM} {e : QM} (h : iter (Mo_lay_B15) n v = some e) (ke : ∀ x : QM, e = x → WX C 8 71 [(0, .ref 0)] [] x) : WX C 8 15 [(0, .ref 0), (1, .int v.1)] [] v.2 :=
  iter_W (Wh := fun v => WX C 8 15 [(0, .ref 0), (1, .int v.1)] [] v.2) (fun a res hB k1 k2 => S_Mo_lay_B15 hc hSH a hB (fun x hx => ke x (k1 _ hx).symm) k2) n v h

def Mo_lay_B109 (x1 : Int32) (x2 : Int32) (x3 : Int32) (x4 : Int32) (M : QM) (v : Int32 × Int32) : Option ((Int32) ⊕ (Int32 × Int32)) :=
  (if (11 : Int32) ≤ v.2 then some (.inl v.1) else ck (inb (((60 : Int32) * x3) + x4) 3600) ((if (M.1 12 (((60 : Int32) * x3) + x4).toNatClampNeg) = (100000 : Int32) then (if v.1 = 0 then Option.bind (Mo_stepTo x3 x4 v.2 M) (fun q6 => (if q6 < 0 then some (.inr ((0 : Int32), v.2 + (1 : Int32))) else ck (inb q6 3600) ((if (M.1 12 q6.toNatClampNeg) = (x2 - (1 : Int32)) then some (.inr ((1 : Int32), v.2 + (1 : Int32))) else some (.inr ((0 : Int32), v.2 + (1 : Int32))))))) else some (.inl v.1)) else some (.inl v.1))))

set_option maxRecDepth 20000 in
set_option maxHeartbeats 2000000 in
theorem S_Mo_lay_B109 {C : QC} (hc : OKX C RX9 cX9_lay 8 2 none) (hSH : q_SH C = SHM) (x1 : Int32) (x2 : Int32) (x3 : Int32) (x4 : Int32) (M : QM) (v : Int32 × Int32) {res : (Int32) ⊕ (Int32 × Int32)} (h : Mo_lay_B109 x1 x2 x3 x4 M v = some res) (ke : ∀ x : Int32, res = .inl x → WX C 8 180 [(0, .ref 0), (1, .int x1), (2, .int x2), (3, .int x3), (4, .int x4), (5, .int x)] [] M) (kb : ∀ x : Int32 × Int32, res = .inr x → WX C 8 109 [(0, .ref 0), (1, .int x1), (2, .int x2), (3, .int x3), (4, .int x4), (5, .int x.1), (6, .int x.2)] [] M) : WX C 8 109 [(0, .ref 0), (1, .int x1), (2, .int x2), (3, .int x3), (4, .int x4), (5, .int v.1), (6, .int v.2)] [] M := by
  unfold Mo_lay_B109 at h
  refine x_iload hc dX9_lay_109 6 rfl ?_
  refine x_bipush hc dX9_lay_111 kb_11 ?_
  refine x_icmp_ge (tgt := 180) hc dX9_lay_113 (by decide) (fun hb => ?_) (fun hb => ?_)
  · have h := ite_t hb h
    cases h
    exact x_sub (ke v.1 rfl) [0, 1, 2, 3, 4, 5] rfl
  · have h := ite_f hb h
    refine x_aload_n hc dX9_lay_116 rfl 0 rfl ?_
    refine x_getR hc dX9_lay_117 fl_RX9_44 (q_s hSH sm_0) rfl ?_
    refine x_bipush hc dX9_lay_120 kb_60 ?_
    refine x_iload_n hc dX9_lay_122 rfl 3 rfl ?_
    refine x_imul hc dX9_lay_123 ?_
    refine x_iload hc dX9_lay_124 4 rfl ?_
    refine x_iadd hc dX9_lay_126 ?_
    obtain ⟨b5, h⟩ := ck_some h
    refine x_iald hc dX9_lay_127 (q_s hSH sm_12) (inb_in b5) ?_
    refine x_ldc hc dX9_lay_128 kd_RX9_137 ?_
    refine x_icmp_ne (tgt := 180) hc dX9_lay_130 (by decide) (fun hb => ?_) (fun hb => ?_)
    · have h := ite_f hb h
      cases h
      exact x_sub (ke v.1 rfl) [0, 1, 2, 3, 4, 5] rfl
    · have h := ite_t hb h
      refine x_iload hc dX9_lay_133 5 rfl ?_
      refine x_if_ne (tgt := 180) hc dX9_lay_135 (by decide) (fun hb => ?_) (fun hb => ?_)
      · have h := ite_f hb h
        cases h
        exact x_sub (ke v.1 rfl) [0, 1, 2, 3, 4, 5] rfl
      · have h := ite_t hb h
        refine x_aload_n hc dX9_lay_138 rfl 0 rfl ?_
        refine x_iload_n hc dX9_lay_139 rfl 3 rfl ?_
        refine x_iload hc dX9_lay_140 4 rfl ?_
        refine x_iload hc dX9_lay_142 6 rfl ?_
        obtain ⟨q6, h6, h⟩ := bd_some h
        refine x_callVi (As := [.int x3, .int x4, .int v.2]) (st := []) (o := 0) hc dX9_lay_144 cv_X9_stepTo lk_RX9_138 (q_s hSH sm_0) rfl rfl (q_cn hSH (S_Mo_stepTo h6)) (by decide) (Nat.le_of_ble_eq_true rfl) ?_
        refine x_istore (L2 := [(7, .int q6), (0, .ref 0), (1, .int x1), (2, .int x2), (3, .int x3), (4, .int x4), (5, .int v.1), (6, .int v.2)]) hc dX9_lay_147 (by decide) rfl ?_
        refine x_iload hc dX9_lay_149 0 rfl ?_
        refine x_if_lt (tgt := 171) hc dX9_lay_151 (by decide) (fun hb => ?_) (fun hb => ?_)
        · have h := ite_t hb h
          refine x_iconst hc dX9_lay_171 kc_0 ?_
          refine x_istore (L2 := [(5, .int (0 : Int32)), (7, .int q6), (0, .ref 0), (1, .int x1), (2, .int x2), (3, .int x3), (4, .int x4), (6, .int v.2)]) hc dX9_lay_172 (by decide) rfl ?_
          refine x_iinc (v := v.2 + (1 : Int32)) (L2 := [(6, .int (v.2 + (1 : Int32))), (5, .int (0 : Int32)), (7, .int q6), (0, .ref 0), (1, .int x1), (2, .int x2), (3, .int x3), (4, .int x4)]) hc dX9_lay_174 7 rfl (by rw [kc_1]) (by decide) rfl ?_
          refine x_goto (tgt := 109) hc dX9_lay_177 (by decide) ?_
          cases h
          exact x_sub (kb ((0 : Int32), v.2 + (1 : Int32)) rfl) [3, 4, 5, 6, 7, 1, 0] rfl
        · have h := ite_f hb h
          refine x_aload_n hc dX9_lay_154 rfl 1 rfl ?_
          refine x_getR hc dX9_lay_155 fl_RX9_44 (q_s hSH sm_0) rfl ?_
          refine x_iload hc dX9_lay_158 0 rfl ?_
          obtain ⟨b7, h⟩ := ck_some h
          refine x_iald hc dX9_lay_160 (q_s hSH sm_12) (inb_in b7) ?_
          refine x_iload_n hc dX9_lay_161 rfl 3 rfl ?_
          refine x_iconst hc dX9_lay_162 kc_1 ?_
          refine x_isub hc dX9_lay_163 ?_
          refine x_icmp_ne (tgt := 171) hc dX9_lay_164 (by decide) (fun hb => ?_) (fun hb => ?_)
          · have h := ite_f hb h
            refine x_iconst hc dX9_lay_171 kc_0 ?_
            refine x_istore (L2 := [(5, .int (0 : Int32)), (7, .int q6), (0, .ref 0), (1, .int x1), (2, .int x2), (3, .int x3), (4, .int x4), (6, .int v.2)]) hc dX9_lay_172 (by decide) rfl ?_
            refine x_iinc (v := v.2 + (1 : Int32)) (L2 := [(6, .int (v.2 + (1 : Int32))), (5, .int (0 : Int32)), (7, .int q6), (0, .ref 0), (1, .int x1), (2, .int x2), (3, .int x3), (4, .int x4)]) hc dX9_lay_174 7 rfl (by rw [kc_1]) (by decide) rfl ?_
            refine x_goto (tgt := 109) hc dX9_lay_177 (by decide) ?_
            cases h
            exact x_sub (kb ((0 : Int32), v.2 + (1 : Int32)) rfl) [3, 4, 5, 6, 7, 1, 0] rfl
          · have h := ite_t hb h
            refine x_iconst hc dX9_lay_167 kc_1 ?_
            refine x_goto (tgt := 172) hc dX9_lay_168 (by decide) ?_
            refine x_istore (L2 := [(5, .int (1 : Int32)), (7, .int q6), (0, .ref 0), (1, .int x1), (2, .int x2), (3, .int x3), (4, .int x4), (6, .int v.2)]) hc dX9_lay_172 (by decide) rfl ?_
            refine x_iinc (v := v.2 + (1 : Int32)) (L2 := [(6, .int (v.2 + (1 : Int32))), (5, .int (1 : Int32)), (7, .int q6), (0, .ref 0), (1, .int x1), (2, .int x2), (3, .int x3), (4, .int x4)]) hc dX9_lay_174 7 rfl (by rw [kc_1]) (by decide) rfl ?_
            refine x_goto (tgt := 109) hc dX9_lay_177 (by decide) ?_
            cases h
            exact x_sub (kb ((1 : Int32), v.2 + (1 : Int32)) rfl) [3, 4, 5, 6, 7, 1, 0] rfl

theorem S_Mo_lay_L109 {C : QC} (hc : OKX C RX9 cX9_lay 8 2 none) (hSH : q_SH C = SHM) (x1 : Int32) (x2 : Int32) (x3 : Int32) (x4 : Int32) (M : QM) {n : Nat} {v : Int32 × Int32} {e : Int32} (h : iter (Mo_lay_B109 x1 x2 x3 x4 M) n v = some e) (ke : ∀ x : Int32, e = x → WX C 8 180 [(0, .ref 0), (1, .int x1), (2, .int x2), (3, .int x3), (4, .int x4), (5, .int x)] [] M) : WX C 8 109 [(0, .ref 0), (1, .int x1), (2, .int x2), (3, .int x3), (4, .int x4), (5, .int v.1), (6, .int v.2)] [] M :=
  iter_W (Wh := fun v => WX C 8 109 [(0, .ref 0), (1, .int x1), (2, .int x2), (3, .int x3), (4, .int x4), (5, .int v.1), (6, .int v.2)] [] M) (fun a res hB k1 k2 => S_Mo_lay_B109 hc hSH x1 x2 x3 x4 M a hB (fun x hx => ke x (k1 _ hx).symm) k2) n v h

def Mo_lay_L94_J180 (x1 : Int32) (x2 : Int32) (x3 : Int32) (x4 : Int32) (x5 : Int32) (M : QM) : Option ((Int32 × QM) ⊕ (Int32 × Int32 × QM)) :=
  (if x5 = 0 then some (.inr (x1, x4 + (1 : Int32), M)) else ck (inb (((60 : Int32) * x3) + x4) 3600) (some (.inr ((1 : Int32), x4 + (1 : Int32), u_i M 12 (((60 : Int32) * x3) + x4).toNatClampNeg x2))))

set_option maxRecDepth 20000 in
set_option maxHeartbeats 2000000 in
theorem S_Mo_lay_L94_J180 {C : QC} (hc : OKX C RX9 cX9_lay 8 2 none) (hSH : q_SH C = SHM) (x1 : Int32) (x2 : Int32) (x3 : Int32) (x4 : Int32) (x5 : Int32) (M : QM) {res : (Int32 × QM) ⊕ (Int32 × Int32 × QM)} (h : Mo_lay_L94_J180 x1 x2 x3 x4 x5 M = some res) (ke : ∀ x : Int32 × QM, res = .inl x → WX C 8 206 [(0, .ref 0), (1, .int x.1), (2, .int x2), (3, .int x3)] [] x.2) (kb : ∀ x : Int32 × Int32 × QM, res = .inr x → WX C 8 94 [(0, .ref 0), (1, .int x.1), (2, .int x2), (3, .int x3), (4, .int x.2.1)] [] x.2.2) : WX C 8 180 [(0, .ref 0), (1, .int x1), (2, .int x2), (3, .int x3), (4, .int x4), (5, .int x5)] [] M := by
  unfold Mo_lay_L94_J180 at h
  refine x_iload hc dX9_lay_180 5 rfl ?_
  refine x_if_eq (tgt := 200) hc dX9_lay_182 (by decide) (fun hb => ?_) (fun hb => ?_)
  · have h := ite_t hb h
    refine x_iinc (v := x4 + (1 : Int32)) (L2 := [(4, .int (x4 + (1 : Int32))), (0, .ref 0), (1, .int x1), (2, .int x2), (3, .int x3), (5, .int x5)]) hc dX9_lay_200 4 rfl (by rw [kc_1]) (by decide) rfl ?_
    refine x_goto (tgt := 94) hc dX9_lay_203 (by decide) ?_
    cases h
    exact x_sub (kb (x1, x4 + (1 : Int32), M) rfl) [1, 2, 3, 4, 0] rfl
  · have h := ite_f hb h
    refine x_aload_n hc dX9_lay_185 rfl 0 rfl ?_
    refine x_getR hc dX9_lay_186 fl_RX9_44 (q_s hSH sm_0) rfl ?_
    refine x_bipush hc dX9_lay_189 kb_60 ?_
    refine x_iload_n hc dX9_lay_191 rfl 3 rfl ?_
    refine x_imul hc dX9_lay_192 ?_
    refine x_iload hc dX9_lay_193 4 rfl ?_
    refine x_iadd hc dX9_lay_195 ?_
    refine x_iload_n hc dX9_lay_196 rfl 2 rfl ?_
    obtain ⟨b9, h⟩ := ck_some h
    refine x_iast hc dX9_lay_197 (q_s hSH sm_12) (inb_in b9) ?_
    refine x_iconst hc dX9_lay_198 kc_1 ?_
    refine x_istore_n (L2 := [(1, .int (1 : Int32)), (0, .ref 0), (2, .int x2), (3, .int x3), (4, .int x4), (5, .int x5)]) hc dX9_lay_199 rfl (by decide) rfl ?_
    refine x_iinc (v := x4 + (1 : Int32)) (L2 := [(4, .int (x4 + (1 : Int32))), (1, .int (1 : Int32)), (0, .ref 0), (2, .int x2), (3, .int x3), (5, .int x5)]) hc dX9_lay_200 4 rfl (by rw [kc_1]) (by decide) rfl ?_
    refine x_goto (tgt := 94) hc dX9_lay_203 (by decide) ?_
    cases h
    exact x_sub (kb ((1 : Int32), x4 + (1 : Int32), u_i M 12 (((60 : Int32) * x3) + x4).toNatClampNeg x2) rfl) [2, 1, 3, 4, 0] rfl

def Mo_lay_B94 (x2 : Int32) (x3 : Int32) (v : Int32 × Int32 × QM) : Option ((Int32 × QM) ⊕ (Int32 × Int32 × QM)) :=
  (if (v.2.2.1 0 2) ≤ v.2.1 then some (.inl (v.1, v.2.2)) else Option.bind (iter (Mo_lay_B109 v.1 x2 x3 v.2.1 v.2.2) FU ((0 : Int32), (0 : Int32))) (fun e8 => Mo_lay_L94_J180 v.1 x2 x3 v.2.1 e8 v.2.2))

set_option maxRecDepth 20000 in
set_option maxHeartbeats 2000000 in
theorem S_Mo_lay_B94 {C : QC} (hc : OKX C RX9 cX9_lay 8 2 none) (hSH : q_SH C = SHM) (x2 : Int32) (x3 : Int32) (v : Int32 × Int32 × QM) {res : (Int32 × QM) ⊕ (Int32 × Int32 × QM)} (h : Mo_lay_B94 x2 x3 v = some res) (ke : ∀ x : Int32 × QM, res = .inl x → WX C 8 206 [(0, .ref 0), (1, .int x.1), (2, .int x2), (3, .int x3)] [] x.2) (kb : ∀ x : Int32 × Int32 × QM, res = .inr x → WX C 8 94 [(0, .ref 0), (1, .int x.1), (2, .int x2), (3, .int x3), (4, .int x.2.1)] [] x.2.2) : WX C 8 94 [(0, .ref 0), (1, .int v.1), (2, .int x2), (3, .int x3), (4, .int v.2.1)] [] v.2.2 := by
  unfold Mo_lay_B94 at h
  refine x_iload hc dX9_lay_94 4 rfl ?_
  refine x_aload_n hc dX9_lay_96 rfl 0 rfl ?_
  refine x_getI hc dX9_lay_97 fl_RX9_116 (q_s hSH sm_0) rfl ?_
  refine x_icmp_ge (tgt := 206) hc dX9_lay_100 (by decide) (fun hb => ?_) (fun hb => ?_)
  · have h := ite_t hb h
    cases h
    exact x_sub (ke (v.1, v.2.2) rfl) [0, 1, 2, 3] rfl
  · have h := ite_f hb h
    refine x_iconst hc dX9_lay_103 kc_0 ?_
    refine x_istore (L2 := [(5, .int (0 : Int32)), (0, .ref 0), (1, .int v.1), (2, .int x2), (3, .int x3), (4, .int v.2.1)]) hc dX9_lay_104 (by decide) rfl ?_
    refine x_iconst hc dX9_lay_106 kc_0 ?_
    refine x_istore (L2 := [(6, .int (0 : Int32)), (5, .int (0 : Int32)), (0, .ref 0), (1, .int v.1), (2, .int x2), (3, .int x3), (4, .int v.2.1)]) hc dX9_lay_107 (by decide) rfl ?_
    obtain ⟨e8, h8, h⟩ := bd_some h
    refine x_sub (S_Mo_lay_L109 hc hSH v.1 x2 x3 v.2.1 v.2.2 (v := ((0 : Int32), (0 : Int32))) h8 (fun x hx => ?_)) [2, 3, 4, 5, 6, 1, 0] rfl
    subst hx
    exact x_sub (S_Mo_lay_L94_J180 hc hSH v.1 x2 x3 v.2.1 e8 v.2.2 h ke kb) [0, 1, 2, 3, 4, 5] rfl

theorem S_Mo_lay_L94 {C : QC} (hc : OKX C RX9 cX9_lay 8 2 none) (hSH : q_SH C = SHM) (x2 : Int32) (x3 : Int32) {n : Nat} {v : Int32 × Int32 × QM} {e : Int32 × QM} (h : iter (Mo_lay_B94 x2 x3) n v = some e) (ke : ∀ x : Int32 × QM, e = x → WX C 8 206 [(0, .ref 0), (1, .int x.1), (2, .int x2), (3, .int x3)] [] x.2) : WX C 8 94 [(0, .ref 0), (1, .int v.1), (2, .int x2), (3, .int x3), (4, .int v.2.1)] [] v.2.2 :=
  iter_W (Wh := fun v => WX C 8 94 [(0, .ref 0), (1, .int v.1), (2, .int x2), (3, .int x3), (4, .int v.2.1)] [] v.2.2) (fun a res hB k1 k2 => S_Mo_lay_B94 hc hSH x2 x3 a hB (fun x hx => ke x (k1 _ hx).symm) k2) n v h

def Mo_lay_B83 (x2 : Int32) (v : Int32 × Int32 × QM) : Option ((Int32 × QM) ⊕ (Int32 × Int32 × QM)) :=
  (if (v.2.2.1 0 2) ≤ v.2.1 then some (.inl (v.1, v.2.2)) else Option.bind (iter (Mo_lay_B94 x2 v.2.1) FU (v.1, (0 : Int32), v.2.2)) (fun e10 => some (.inr (e10.1, v.2.1 + (1 : Int32), e10.2))))

set_option maxRecDepth 20000 in
set_option maxHeartbeats 2000000 in
theorem S_Mo_lay_B83 {C : QC} (hc : OKX C RX9 cX9_lay 8 2 none) (hSH : q_SH C = SHM) (x2 : Int32) (v : Int32 × Int32 × QM) {res : (Int32 × QM) ⊕ (Int32 × Int32 × QM)} (h : Mo_lay_B83 x2 v = some res) (ke : ∀ x : Int32 × QM, res = .inl x → WX C 8 212 [(0, .ref 0), (1, .int x.1), (2, .int x2)] [] x.2) (kb : ∀ x : Int32 × Int32 × QM, res = .inr x → WX C 8 83 [(0, .ref 0), (1, .int x.1), (2, .int x2), (3, .int x.2.1)] [] x.2.2) : WX C 8 83 [(0, .ref 0), (1, .int v.1), (2, .int x2), (3, .int v.2.1)] [] v.2.2 := by
  unfold Mo_lay_B83 at h
  refine x_iload_n hc dX9_lay_83 rfl 3 rfl ?_
  refine x_aload_n hc dX9_lay_84 rfl 0 rfl ?_
  refine x_getI hc dX9_lay_85 fl_RX9_116 (q_s hSH sm_0) rfl ?_
  refine x_icmp_ge (tgt := 212) hc dX9_lay_88 (by decide) (fun hb => ?_) (fun hb => ?_)
  · have h := ite_t hb h
    cases h
    exact x_sub (ke (v.1, v.2.2) rfl) [0, 1, 2] rfl
  · have h := ite_f hb h
    refine x_iconst hc dX9_lay_91 kc_0 ?_
    refine x_istore (L2 := [(4, .int (0 : Int32)), (0, .ref 0), (1, .int v.1), (2, .int x2), (3, .int v.2.1)]) hc dX9_lay_92 (by decide) rfl ?_
    obtain ⟨e10, h10, h⟩ := bd_some h
    refine x_sub (S_Mo_lay_L94 hc hSH x2 v.2.1 (v := (v.1, (0 : Int32), v.2.2)) h10 (fun x hx => ?_)) [1, 2, 3, 4, 0] rfl
    subst hx
    refine x_iinc (v := v.2.1 + (1 : Int32)) (L2 := [(3, .int (v.2.1 + (1 : Int32))), (0, .ref 0), (1, .int e10.1), (2, .int x2)]) hc dX9_lay_206 3 rfl (by rw [kc_1]) (by decide) rfl ?_
    refine x_goto (tgt := 83) hc dX9_lay_209 (by decide) ?_
    cases h
    exact x_sub (kb (e10.1, v.2.1 + (1 : Int32), e10.2) rfl) [1, 2, 3, 0] rfl

theorem S_Mo_lay_L83 {C : QC} (hc : OKX C RX9 cX9_lay 8 2 none) (hSH : q_SH C = SHM) (x2 : Int32) {n : Nat} {v : Int32 × Int32 × QM} {e : Int32 × QM} (h : iter (Mo_lay_B83 x2) n v = some e) (ke : ∀ x : Int32 × QM, e = x → WX C 8 212 [(0, .ref 0), (1, .int x.1), (2, .int x2)] [] x.2) : WX C 8 83 [(0, .ref 0), (1, .int v.1), (2, .int x2), (3, .int v.2.1)] [] v.2.2 :=
  iter_W (Wh := fun v => WX C 8 83 [(0, .ref 0), (1, .int v.1), (2, .int x2), (3, .int v.2.1)] [] v.2.2) (fun a res hB k1 k2 => S_Mo_lay_B83 hc hSH x2 a hB (fun x hx => ke x (k1 _ hx).symm) k2) n v h

def Mo_lay_B75 (v : Int32 × Int32 × QM) : Option ((QM) ⊕ (Int32 × Int32 × QM)) :=
  (if v.1 = 0 then some (.inl v.2.2) else Option.bind (iter (Mo_lay_B83 v.2.1) FU ((0 : Int32), (0 : Int32), v.2.2)) (fun e11 => some (.inr (e11.1, v.2.1 + (1 : Int32), e11.2))))

set_option maxRecDepth 20000 in
set_option maxHeartbeats 2000000 in
theorem S_Mo_lay_B75 {C : QC} (hc : OKX C RX9 cX9_lay 8 2 none) (hSH : q_SH C = SHM) (v : Int32 × Int32 × QM) {res : (QM) ⊕ (Int32 × Int32 × QM)} (h : Mo_lay_B75 v = some res) (ke : ∀ x : QM, res = .inl x → WX C 8 218 [(0, .ref 0)] [] x) (kb : ∀ x : Int32 × Int32 × QM, res = .inr x → WX C 8 75 [(0, .ref 0), (1, .int x.1), (2, .int x.2.1)] [] x.2.2) : WX C 8 75 [(0, .ref 0), (1, .int v.1), (2, .int v.2.1)] [] v.2.2 := by
  unfold Mo_lay_B75 at h
  refine x_iload_n hc dX9_lay_75 rfl 1 rfl ?_
  refine x_if_eq (tgt := 218) hc dX9_lay_76 (by decide) (fun hb => ?_) (fun hb => ?_)
  · have h := ite_t hb h
    cases h
    exact x_sub (ke v.2.2 rfl) [0] rfl
  · have h := ite_f hb h
    refine x_iconst hc dX9_lay_79 kc_0 ?_
    refine x_istore_n (L2 := [(1, .int (0 : Int32)), (0, .ref 0), (2, .int v.2.1)]) hc dX9_lay_80 rfl (by decide) rfl ?_
    refine x_iconst hc dX9_lay_81 kc_0 ?_
    refine x_istore_n (L2 := [(3, .int (0 : Int32)), (1, .int (0 : Int32)), (0, .ref 0), (2, .int v.2.1)]) hc dX9_lay_82 rfl (by decide) rfl ?_
    obtain ⟨e11, h11, h⟩ := bd_some h
    refine x_sub (S_Mo_lay_L83 hc hSH v.2.1 (v := ((0 : Int32), (0 : Int32), v.2.2)) h11 (fun x hx => ?_)) [2, 1, 3, 0] rfl
    subst hx
    refine x_iinc (v := v.2.1 + (1 : Int32)) (L2 := [(2, .int (v.2.1 + (1 : Int32))), (0, .ref 0), (1, .int e11.1)]) hc dX9_lay_212 2 rfl (by rw [kc_1]) (by decide) rfl ?_
    refine x_goto (tgt := 75) hc dX9_lay_215 (by decide) ?_
    cases h
    exact x_sub (kb (e11.1, v.2.1 + (1 : Int32), e11.2) rfl) [1, 2, 0] rfl

theorem S_Mo_lay_L75 {C : QC} (hc : OKX C RX9 cX9_lay 8 2 none) (hSH : q_SH C = SHM) {n : Nat} {v : Int32 × Int32 × QM} {e : QM} (h : iter (Mo_lay_B75) n v = some e) (ke : ∀ x : QM, e = x → WX C 8 218 [(0, .ref 0)] [] x) : WX C 8 75 [(0, .ref 0), (1, .int v.1), (2, .int v.2.1)] [] v.2.2 :=
  iter_W (Wh := fun v => WX C 8 75 [(0, .ref 0), (1, .int v.1), (2, .int v.2.1)] [] v.2.2) (fun a res hB k1 k2 => S_Mo_lay_B75 hc hSH a hB (fun x hx => ke x (k1 _ hx).symm) k2) n v h

def Mo_lay_L230_J269 (x2 : Int32) (x3 : Int32) (s0 : Int32) (s1 : Int32) (M : QM) : Option ((QM) ⊕ (Int32 × QM)) :=
  ck (inb s1 3600) (ck (isb s0) (some (.inr (x3 + (1 : Int32), u_i M 11 s1.toNatClampNeg s0))))

set_option maxRecDepth 20000 in
set_option maxHeartbeats 2000000 in
theorem S_Mo_lay_L230_J269 {C : QC} (hc : OKX C RX9 cX9_lay 8 2 none) (hSH : q_SH C = SHM) (x2 : Int32) (x3 : Int32) (s0 : Int32) (s1 : Int32) (M : QM) {res : (QM) ⊕ (Int32 × QM)} (h : Mo_lay_L230_J269 x2 x3 s0 s1 M = some res) (ke : ∀ x : QM, res = .inl x → WX C 8 276 [(0, .ref 0), (2, .int x2)] [] x) (kb : ∀ x : Int32 × QM, res = .inr x → WX C 8 230 [(0, .ref 0), (2, .int x2), (3, .int x.1)] [] x.2) : WX C 8 269 [(0, .ref 0), (2, .int x2), (3, .int x3)] [.int s0, .int s1, .ref 11] M := by
  unfold Mo_lay_L230_J269 at h
  obtain ⟨b14, h⟩ := ck_some h
  obtain ⟨b15, h⟩ := ck_some h
  refine x_zast hc dX9_lay_269 (q_s hSH sm_11) (inb_in b14) (isb_nar b15) ?_
  refine x_iinc (v := x3 + (1 : Int32)) (L2 := [(3, .int (x3 + (1 : Int32))), (0, .ref 0), (2, .int x2)]) hc dX9_lay_270 2 rfl (by rw [kc_1]) (by decide) rfl ?_
  refine x_goto (tgt := 230) hc dX9_lay_273 (by decide) ?_
  cases h
  exact x_sub (kb (x3 + (1 : Int32), u_i M 11 s1.toNatClampNeg s0) rfl) [1, 2, 0] rfl

def Mo_lay_B230 (x2 : Int32) (v : Int32 × QM) : Option ((QM) ⊕ (Int32 × QM)) :=
  (if (v.2.1 0 2) ≤ v.1 then some (.inl v.2) else ck (inb (((60 : Int32) * x2) + v.1) 3600) ((if (v.2.1 12 (((60 : Int32) * x2) + v.1).toNatClampNeg) = (100000 : Int32) then Mo_lay_L230_J269 x2 v.1 (1 : Int32) (((60 : Int32) * x2) + v.1) v.2 else Mo_lay_L230_J269 x2 v.1 (0 : Int32) (((60 : Int32) * x2) + v.1) v.2)))

set_option maxRecDepth 20000 in
set_option maxHeartbeats 2000000 in
theorem S_Mo_lay_B230 {C : QC} (hc : OKX C RX9 cX9_lay 8 2 none) (hSH : q_SH C = SHM) (x2 : Int32) (v : Int32 × QM) {res : (QM) ⊕ (Int32 × QM)} (h : Mo_lay_B230 x2 v = some res) (ke : ∀ x : QM, res = .inl x → WX C 8 276 [(0, .ref 0), (2, .int x2)] [] x) (kb : ∀ x : Int32 × QM, res = .inr x → WX C 8 230 [(0, .ref 0), (2, .int x2), (3, .int x.1)] [] x.2) : WX C 8 230 [(0, .ref 0), (2, .int x2), (3, .int v.1)] [] v.2 := by
  unfold Mo_lay_B230 at h
  refine x_iload_n hc dX9_lay_230 rfl 2 rfl ?_
  refine x_aload_n hc dX9_lay_231 rfl 0 rfl ?_
  refine x_getI hc dX9_lay_232 fl_RX9_116 (q_s hSH sm_0) rfl ?_
  refine x_icmp_ge (tgt := 276) hc dX9_lay_235 (by decide) (fun hb => ?_) (fun hb => ?_)
  · have h := ite_t hb h
    cases h
    exact x_sub (ke v.2 rfl) [0, 1] rfl
  · have h := ite_f hb h
    refine x_aload_n hc dX9_lay_238 rfl 0 rfl ?_
    refine x_getR hc dX9_lay_239 fl_RX9_40 (q_s hSH sm_0) rfl ?_
    refine x_bipush hc dX9_lay_242 kb_60 ?_
    refine x_iload_n hc dX9_lay_244 rfl 1 rfl ?_
    refine x_imul hc dX9_lay_245 ?_
    refine x_iload_n hc dX9_lay_246 rfl 2 rfl ?_
    refine x_iadd hc dX9_lay_247 ?_
    refine x_aload_n hc dX9_lay_248 rfl 0 rfl ?_
    refine x_getR hc dX9_lay_249 fl_RX9_44 (q_s hSH sm_0) rfl ?_
    refine x_bipush hc dX9_lay_252 kb_60 ?_
    refine x_iload_n hc dX9_lay_254 rfl 1 rfl ?_
    refine x_imul hc dX9_lay_255 ?_
    refine x_iload_n hc dX9_lay_256 rfl 2 rfl ?_
    refine x_iadd hc dX9_lay_257 ?_
    obtain ⟨b13, h⟩ := ck_some h
    refine x_iald hc dX9_lay_258 (q_s hSH sm_12) (inb_in b13) ?_
    refine x_ldc hc dX9_lay_259 kd_RX9_137 ?_
    refine x_icmp_ne (tgt := 268) hc dX9_lay_261 (by decide) (fun hb => ?_) (fun hb => ?_)
    · have h := ite_f hb h
      refine x_iconst hc dX9_lay_268 kc_0 ?_
      exact x_sub (S_Mo_lay_L230_J269 hc hSH x2 v.1 (0 : Int32) (((60 : Int32) * x2) + v.1) v.2 h ke kb) [0, 1, 2] rfl
    · have h := ite_t hb h
      refine x_iconst hc dX9_lay_264 kc_1 ?_
      refine x_goto (tgt := 269) hc dX9_lay_265 (by decide) ?_
      exact x_sub (S_Mo_lay_L230_J269 hc hSH x2 v.1 (1 : Int32) (((60 : Int32) * x2) + v.1) v.2 h ke kb) [0, 1, 2] rfl

theorem S_Mo_lay_L230 {C : QC} (hc : OKX C RX9 cX9_lay 8 2 none) (hSH : q_SH C = SHM) (x2 : Int32) {n : Nat} {v : Int32 × QM} {e : QM} (h : iter (Mo_lay_B230 x2) n v = some e) (ke : ∀ x : QM, e = x → WX C 8 276 [(0, .ref 0), (2, .int x2)] [] x) : WX C 8 230 [(0, .ref 0), (2, .int x2), (3, .int v.1)] [] v.2 :=
  iter_W (Wh := fun v => WX C 8 230 [(0, .ref 0), (2, .int x2), (3, .int v.1)] [] v.2) (fun a res hB k1 k2 => S_Mo_lay_B230 hc hSH x2 a hB (fun x hx => ke x (k1 _ hx).symm) k2) n v h

def Mo_lay_B220 (v : Int32 × QM) : Option ((QM) ⊕ (Int32 × QM)) :=
  (if (v.2.1 0 2) ≤ v.1 then some (.inl v.2) else Option.bind (iter (Mo_lay_B230 v.1) FU ((0 : Int32), v.2)) (fun e16 => some (.inr (v.1 + (1 : Int32), e16))))

set_option maxRecDepth 20000 in
set_option maxHeartbeats 2000000 in
theorem S_Mo_lay_B220 {C : QC} (hc : OKX C RX9 cX9_lay 8 2 none) (hSH : q_SH C = SHM) (v : Int32 × QM) {res : (QM) ⊕ (Int32 × QM)} (h : Mo_lay_B220 v = some res) (ke : ∀ x : QM, res = .inl x → WX C 8 282 [] [] x) (kb : ∀ x : Int32 × QM, res = .inr x → WX C 8 220 [(0, .ref 0), (2, .int x.1)] [] x.2) : WX C 8 220 [(0, .ref 0), (2, .int v.1)] [] v.2 := by
  unfold Mo_lay_B220 at h
  refine x_iload_n hc dX9_lay_220 rfl 1 rfl ?_
  refine x_aload_n hc dX9_lay_221 rfl 0 rfl ?_
  refine x_getI hc dX9_lay_222 fl_RX9_116 (q_s hSH sm_0) rfl ?_
  refine x_icmp_ge (tgt := 282) hc dX9_lay_225 (by decide) (fun hb => ?_) (fun hb => ?_)
  · have h := ite_t hb h
    cases h
    exact x_sub (ke v.2 rfl) [] rfl
  · have h := ite_f hb h
    refine x_iconst hc dX9_lay_228 kc_0 ?_
    refine x_istore_n (L2 := [(3, .int (0 : Int32)), (0, .ref 0), (2, .int v.1)]) hc dX9_lay_229 rfl (by decide) rfl ?_
    obtain ⟨e16, h16, h⟩ := bd_some h
    refine x_sub (S_Mo_lay_L230 hc hSH v.1 (v := ((0 : Int32), v.2)) h16 (fun x hx => ?_)) [1, 2, 0] rfl
    subst hx
    refine x_iinc (v := v.1 + (1 : Int32)) (L2 := [(2, .int (v.1 + (1 : Int32))), (0, .ref 0)]) hc dX9_lay_276 1 rfl (by rw [kc_1]) (by decide) rfl ?_
    refine x_goto (tgt := 220) hc dX9_lay_279 (by decide) ?_
    cases h
    exact x_sub (kb (v.1 + (1 : Int32), e16) rfl) [1, 0] rfl

theorem S_Mo_lay_L220 {C : QC} (hc : OKX C RX9 cX9_lay 8 2 none) (hSH : q_SH C = SHM) {n : Nat} {v : Int32 × QM} {e : QM} (h : iter (Mo_lay_B220) n v = some e) (ke : ∀ x : QM, e = x → WX C 8 282 [] [] x) : WX C 8 220 [(0, .ref 0), (2, .int v.1)] [] v.2 :=
  iter_W (Wh := fun v => WX C 8 220 [(0, .ref 0), (2, .int v.1)] [] v.2) (fun a res hB k1 k2 => S_Mo_lay_B220 hc hSH a hB (fun x hx => ke x (k1 _ hx).symm) k2) n v h

def Mo_lay (M : QM) : Option (QM) :=
  (if (M.1 0 15) = 0 then Option.bind (iter (Mo_lay_B15) FU ((0 : Int32), u_i M 0 15 (1 : Int32))) (fun e4 => Option.bind (iter (Mo_lay_B75) FU ((1 : Int32), (1 : Int32), e4)) (fun e12 => Option.bind (iter (Mo_lay_B220) FU ((0 : Int32), e12)) (fun e17 => some e17))) else some M)

set_option maxRecDepth 20000 in
set_option maxHeartbeats 2000000 in
theorem S_Mo_lay  {M : QM} {res : QM} (h : Mo_lay M = some res) : Cn yX9_lay cX9_lay 8 none 2 SHM [.ref 0] M (none) res := by
  refine q_enter (L := [(0, .ref 0)]) (by decide) (Nat.le_of_ble_eq_true rfl) rfl ?_
  intro C hc hSH hr hM
  have hc : OKX C RX9 cX9_lay 8 2 none := hc
  unfold Mo_lay at h
  refine x_aload_n hc dX9_lay_0 rfl 0 rfl ?_
  refine x_getI hc dX9_lay_1 fl_RX9_119 (q_s hSH sm_0) rfl ?_
  refine x_if_eq (tgt := 8) hc dX9_lay_4 (by decide) (fun hb => ?_) (fun hb => ?_)
  · have h := ite_t hb h
    refine x_aload_n hc dX9_lay_8 rfl 0 rfl ?_
    refine x_iconst hc dX9_lay_9 kc_1 ?_
    refine x_putI hc dX9_lay_10 fl_RX9_119 (fw_9_15 _ (Or.inr rfl)) (q_s hSH sm_0) rfl ?_
    refine x_iconst hc dX9_lay_13 kc_0 ?_
    refine x_istore_n (L2 := [(1, .int (0 : Int32)), (0, .ref 0)]) hc dX9_lay_14 rfl (by decide) rfl ?_
    obtain ⟨e4, h4, h⟩ := bd_some h
    refine x_sub (S_Mo_lay_L15 hc hSH (v := ((0 : Int32), u_i M 0 15 (1 : Int32))) h4 (fun x hx => ?_)) [1, 0] rfl
    subst hx
    refine x_iconst hc dX9_lay_71 kc_1 ?_
    refine x_istore_n (L2 := [(1, .int (1 : Int32)), (0, .ref 0)]) hc dX9_lay_72 rfl (by decide) rfl ?_
    refine x_iconst hc dX9_lay_73 kc_1 ?_
    refine x_istore_n (L2 := [(2, .int (1 : Int32)), (1, .int (1 : Int32)), (0, .ref 0)]) hc dX9_lay_74 rfl (by decide) rfl ?_
    obtain ⟨e12, h12, h⟩ := bd_some h
    refine x_sub (S_Mo_lay_L75 hc hSH (v := ((1 : Int32), (1 : Int32), e4)) h12 (fun x hx => ?_)) [2, 1, 0] rfl
    subst hx
    refine x_iconst hc dX9_lay_218 kc_0 ?_
    refine x_istore_n (L2 := [(2, .int (0 : Int32)), (0, .ref 0)]) hc dX9_lay_219 rfl (by decide) rfl ?_
    obtain ⟨e17, h17, h⟩ := bd_some h
    refine x_sub (S_Mo_lay_L220 hc hSH (v := ((0 : Int32), e12)) h17 (fun x hx => ?_)) [1, 0] rfl
    subst hx
    cases h
    exact x_vret hc dX9_lay_282 hr hM
  · have h := ite_f hb h
    cases h
    exact x_vret hc dX9_lay_7 hr hM

def Mo_areAlike (p1 : Int32) (p2 : Int32) (M : QM) : Option (Int32) :=
  ck (inb (((60 : Int32) * p1) + p2) 3600) ((if (M.1 11 (((60 : Int32) * p1) + p2).toNatClampNeg) = 0 then some (0 : Int32) else ck (inb (((60 : Int32) * p2) + p1) 3600) ((if (M.1 11 (((60 : Int32) * p2) + p1).toNatClampNeg) = 0 then some (0 : Int32) else some (1 : Int32)))))

set_option maxRecDepth 20000 in
set_option maxHeartbeats 2000000 in
theorem S_Mo_areAlike  {p1 : Int32} {p2 : Int32} {M : QM} {res : Int32} (h : Mo_areAlike p1 p2 M = some res) : Cn yX9_areAlike cX9_areAlike 3 (some .boolean) 0 SHM [.ref 0, .int p1, .int p2] M (some (.int res)) M := by
  refine q_enter (L := [(0, .ref 0), (1, .int p1), (2, .int p2)]) (by decide) (Nat.le_of_ble_eq_true rfl) rfl ?_
  intro C hc hSH hr hM
  have hc : OKX C RX9 cX9_areAlike 3 0 (some .boolean) := hc
  unfold Mo_areAlike at h
  refine x_aload_n hc dX9_areAlike_0 rfl 0 rfl ?_
  refine x_getR hc dX9_areAlike_1 fl_RX9_40 (q_s hSH sm_0) rfl ?_
  refine x_bipush hc dX9_areAlike_4 kb_60 ?_
  refine x_iload_n hc dX9_areAlike_6 rfl 1 rfl ?_
  refine x_imul hc dX9_areAlike_7 ?_
  refine x_iload_n hc dX9_areAlike_8 rfl 2 rfl ?_
  refine x_iadd hc dX9_areAlike_9 ?_
  obtain ⟨b1, h⟩ := ck_some h
  refine x_zald hc dX9_areAlike_10 (q_s hSH sm_11) (inb_in b1) ?_
  refine x_if_eq (tgt := 32) hc dX9_areAlike_11 (by decide) (fun hb => ?_) (fun hb => ?_)
  · have h := ite_t hb h
    refine x_iconst hc dX9_areAlike_32 kc_0 ?_
    cases h
    exact x_zret hc dX9_areAlike_33 nar_0 hr hM
  · have h := ite_f hb h
    refine x_aload_n hc dX9_areAlike_14 rfl 0 rfl ?_
    refine x_getR hc dX9_areAlike_15 fl_RX9_40 (q_s hSH sm_0) rfl ?_
    refine x_bipush hc dX9_areAlike_18 kb_60 ?_
    refine x_iload_n hc dX9_areAlike_20 rfl 2 rfl ?_
    refine x_imul hc dX9_areAlike_21 ?_
    refine x_iload_n hc dX9_areAlike_22 rfl 1 rfl ?_
    refine x_iadd hc dX9_areAlike_23 ?_
    obtain ⟨b2, h⟩ := ck_some h
    refine x_zald hc dX9_areAlike_24 (q_s hSH sm_11) (inb_in b2) ?_
    refine x_if_eq (tgt := 32) hc dX9_areAlike_25 (by decide) (fun hb => ?_) (fun hb => ?_)
    · have h := ite_t hb h
      refine x_iconst hc dX9_areAlike_32 kc_0 ?_
      cases h
      exact x_zret hc dX9_areAlike_33 nar_0 hr hM
    · have h := ite_f hb h
      refine x_iconst hc dX9_areAlike_28 kc_1 ?_
      refine x_goto (tgt := 33) hc dX9_areAlike_29 (by decide) ?_
      cases h
      exact x_zret hc dX9_areAlike_33 nar_1 hr hM

def Mo_alike (p1 : Int32) (p2 : Int32) (M : QM) : Option (Int32 × QM) :=
  Option.bind (Mo_areNodes p1 p2 M) (fun q1 => (if q1 = 0 then some ((-1 : Int32), M) else Option.bind (Mo_lay M) (fun q2 => Option.bind (Mo_areAlike p1 p2 q2) (fun q3 => (if q3 = 0 then some ((0 : Int32), q2) else some ((1 : Int32), q2))))))

set_option maxRecDepth 20000 in
set_option maxHeartbeats 2000000 in
theorem S_Mo_alike  {p1 : Int32} {p2 : Int32} {M : QM} {res : Int32 × QM} (h : Mo_alike p1 p2 M = some res) : Cn yX9_alike cX9_alike 3 (some .int) 3 SHM [.ref 0, .int p1, .int p2] M (some (.int res.1)) res.2 := by
  refine q_enter (L := [(0, .ref 0), (1, .int p1), (2, .int p2)]) (by decide) (Nat.le_of_ble_eq_true rfl) rfl ?_
  intro C hc hSH hr hM
  have hc : OKX C RX9 cX9_alike 3 3 (some .int) := hc
  unfold Mo_alike at h
  refine x_aload_n hc dX9_alike_0 rfl 0 rfl ?_
  refine x_iload_n hc dX9_alike_1 rfl 1 rfl ?_
  refine x_iload_n hc dX9_alike_2 rfl 2 rfl ?_
  obtain ⟨q1, h1, h⟩ := bd_some h
  refine x_callVi (As := [.int p1, .int p2]) (st := []) (o := 0) hc dX9_alike_3 cv_X9_areNodes lk_RX9_142 (q_s hSH sm_0) rfl rfl (q_cn hSH (S_Mo_areNodes h1)) (by decide) (Nat.le_of_ble_eq_true rfl) ?_
  refine x_if_ne (tgt := 11) hc dX9_alike_6 (by decide) (fun hb => ?_) (fun hb => ?_)
  · have h := ite_f hb h
    refine x_aload_n hc dX9_alike_11 rfl 0 rfl ?_
    obtain ⟨q2, h2, h⟩ := bd_some h
    refine x_callVv (As := []) (st := []) (o := 0) hc dX9_alike_12 cv_X9_lay lk_RX9_145 (q_s hSH sm_0) rfl rfl (q_cn hSH (S_Mo_lay h2)) (by decide) (Nat.le_of_ble_eq_true rfl) ?_
    refine x_aload_n hc dX9_alike_15 rfl 0 rfl ?_
    refine x_iload_n hc dX9_alike_16 rfl 1 rfl ?_
    refine x_iload_n hc dX9_alike_17 rfl 2 rfl ?_
    obtain ⟨q3, h3, h⟩ := bd_some h
    refine x_callVi (As := [.int p1, .int p2]) (st := []) (o := 0) hc dX9_alike_18 cv_X9_areAlike lk_RX9_154 (q_s hSH sm_0) rfl rfl (q_cn hSH (S_Mo_areAlike h3)) (by decide) (Nat.le_of_ble_eq_true rfl) ?_
    refine x_if_eq (tgt := 28) hc dX9_alike_21 (by decide) (fun hb => ?_) (fun hb => ?_)
    · have h := ite_t hb h
      refine x_iconst hc dX9_alike_28 kc_0 ?_
      cases h
      exact x_iret hc dX9_alike_29 hr hM
    · have h := ite_f hb h
      refine x_iconst hc dX9_alike_24 kc_1 ?_
      refine x_goto (tgt := 29) hc dX9_alike_25 (by decide) ?_
      cases h
      exact x_iret hc dX9_alike_29 hr hM
  · have h := ite_t hb h
    refine x_iconst hc dX9_alike_9 kc_m1 ?_
    cases h
    exact x_iret hc dX9_alike_10 hr hM

def Mo_begin (p1 : Int32) (p2 : Int32) (M : QM) : Option (QM) :=
  ck (inb (M.1 0 27) 101) (ck (inb ((u_i M 17 (M.1 0 27).toNatClampNeg p1).1 0 27) 101) (ck (inb ((u_i (u_i M 17 (M.1 0 27).toNatClampNeg p1) 19 ((u_i M 17 (M.1 0 27).toNatClampNeg p1).1 0 27).toNatClampNeg p2).1 0 27) 101) (some (u_i (u_i (u_i (u_i M 17 (M.1 0 27).toNatClampNeg p1) 19 ((u_i M 17 (M.1 0 27).toNatClampNeg p1).1 0 27).toNatClampNeg p2) 20 ((u_i (u_i M 17 (M.1 0 27).toNatClampNeg p1) 19 ((u_i M 17 (M.1 0 27).toNatClampNeg p1).1 0 27).toNatClampNeg p2).1 0 27).toNatClampNeg (0 : Int32)) 0 27 (((u_i (u_i (u_i M 17 (M.1 0 27).toNatClampNeg p1) 19 ((u_i M 17 (M.1 0 27).toNatClampNeg p1).1 0 27).toNatClampNeg p2) 20 ((u_i (u_i M 17 (M.1 0 27).toNatClampNeg p1) 19 ((u_i M 17 (M.1 0 27).toNatClampNeg p1).1 0 27).toNatClampNeg p2).1 0 27).toNatClampNeg (0 : Int32)).1 0 27) + (1 : Int32))))))

set_option maxRecDepth 20000 in
set_option maxHeartbeats 2000000 in
theorem S_Mo_begin  {p1 : Int32} {p2 : Int32} {M : QM} {res : QM} (h : Mo_begin p1 p2 M = some res) : Cn yX9_begin cX9_begin 3 none 0 SHM [.ref 0, .int p1, .int p2] M (none) res := by
  refine q_enter (L := [(0, .ref 0), (1, .int p1), (2, .int p2)]) (by decide) (Nat.le_of_ble_eq_true rfl) rfl ?_
  intro C hc hSH hr hM
  have hc : OKX C RX9 cX9_begin 3 0 none := hc
  unfold Mo_begin at h
  refine x_aload_n hc dX9_begin_0 rfl 0 rfl ?_
  refine x_getR hc dX9_begin_1 fl_RX9_59 (q_s hSH sm_0) rfl ?_
  refine x_aload_n hc dX9_begin_4 rfl 0 rfl ?_
  refine x_getI hc dX9_begin_5 fl_RX9_172 (q_s hSH sm_0) rfl ?_
  refine x_iload_n hc dX9_begin_8 rfl 1 rfl ?_
  obtain ⟨b1, h⟩ := ck_some h
  refine x_iast hc dX9_begin_9 (q_s hSH sm_17) (inb_in b1) ?_
  refine x_aload_n hc dX9_begin_10 rfl 0 rfl ?_
  refine x_getR hc dX9_begin_11 fl_RX9_65 (q_s hSH sm_0) rfl ?_
  refine x_aload_n hc dX9_begin_14 rfl 0 rfl ?_
  refine x_getI hc dX9_begin_15 fl_RX9_172 (q_s hSH sm_0) rfl ?_
  refine x_iload_n hc dX9_begin_18 rfl 2 rfl ?_
  obtain ⟨b2, h⟩ := ck_some h
  refine x_iast hc dX9_begin_19 (q_s hSH sm_19) (inb_in b2) ?_
  refine x_aload_n hc dX9_begin_20 rfl 0 rfl ?_
  refine x_getR hc dX9_begin_21 fl_RX9_68 (q_s hSH sm_0) rfl ?_
  refine x_aload_n hc dX9_begin_24 rfl 0 rfl ?_
  refine x_getI hc dX9_begin_25 fl_RX9_172 (q_s hSH sm_0) rfl ?_
  refine x_iconst hc dX9_begin_28 kc_0 ?_
  obtain ⟨b3, h⟩ := ck_some h
  refine x_iast hc dX9_begin_29 (q_s hSH sm_20) (inb_in b3) ?_
  refine x_aload_n hc dX9_begin_30 rfl 0 rfl ?_
  refine x_dup hc dX9_begin_31 rfl ?_
  refine x_getI hc dX9_begin_32 fl_RX9_172 (q_s hSH sm_0) rfl ?_
  refine x_iconst hc dX9_begin_35 kc_1 ?_
  refine x_iadd hc dX9_begin_36 ?_
  refine x_putI hc dX9_begin_37 fl_RX9_172 (fw_9_27 _) (q_s hSH sm_0) rfl ?_
  cases h
  exact x_vret hc dX9_begin_40 hr hM

def Mo_held (p0 : Int64) (M : QM) : Option (Int64) :=
  (if (lg_cmp p0 (1000000000 : Int64)) ≤ 0 then some p0 else some (1000000000 : Int64))

set_option maxRecDepth 20000 in
set_option maxHeartbeats 2000000 in
theorem S_Mo_held  {p0 : Int64} {M : QM} {res : Int64} (h : Mo_held p0 M = some res) : Cn yX9_held cX9_held 2 (some .long) 0 SHM [.long p0] M (some (.long res)) M := by
  refine q_enter (L := [(0, .long p0)]) (by decide) (Nat.le_of_ble_eq_true rfl) rfl ?_
  intro C hc hSH hr hM
  have hc : OKX C RX9 cX9_held 2 0 (some .long) := hc
  unfold Mo_held at h
  refine x_lload_n hc dX9_held_0 rfl 0 rfl ?_
  refine x_ldc2 hc dX9_held_1 kD_RX9_185 ?_
  refine x_lcmp hc dX9_held_4 ?_
  refine x_if_le (tgt := 14) hc dX9_held_5 (by decide) (fun hb => ?_) (fun hb => ?_)
  · have h := ite_t hb h
    refine x_lload_n hc dX9_held_14 rfl 0 rfl ?_
    cases h
    exact x_lret hc dX9_held_15 hr hM
  · have h := ite_f hb h
    refine x_ldc2 hc dX9_held_8 kD_RX9_185 ?_
    refine x_goto (tgt := 15) hc dX9_held_11 (by decide) ?_
    cases h
    exact x_lret hc dX9_held_15 hr hM

def Mo_choiceCount_B5 (x1 : Int32) (x2 : Int32) (M : QM) (v : Int64 × Int32) : Option ((Int64) ⊕ (Int64 × Int32)) :=
  (if (8 : Int32) ≤ v.2 then some (.inl v.1) else ck (inb (((8 : Int32) * x1) + v.2) 480) ((if (M.1 3 (((8 : Int32) * x1) + v.2).toNatClampNeg) < 0 then some (.inr (v.1 + (0 : Int64), v.2 + (1 : Int32))) else ck (inb (((8 : Int32) * x1) + v.2) 480) (ck (inb ((((13 : Int32) * (M.1 3 (((8 : Int32) * x1) + v.2).toNatClampNeg)) + x2) - (1 : Int32)) 780) (some (.inr (v.1 + (M.2 21 ((((13 : Int32) * (M.1 3 (((8 : Int32) * x1) + v.2).toNatClampNeg)) + x2) - (1 : Int32)).toNatClampNeg), v.2 + (1 : Int32))))))))

set_option maxRecDepth 20000 in
set_option maxHeartbeats 2000000 in
theorem S_Mo_choiceCount_B5 {C : QC} (hc : OKX C RX9 cX9_choiceCount 6 1 (some .long)) (hSH : q_SH C = SHM) (x1 : Int32) (x2 : Int32) (M : QM) (v : Int64 × Int32) {res : (Int64) ⊕ (Int64 × Int32)} (h : Mo_choiceCount_B5 x1 x2 M v = some res) (ke : ∀ x : Int64, res = .inl x → WX C 6 64 [(3, .long x)] [] M) (kb : ∀ x : Int64 × Int32, res = .inr x → WX C 6 5 [(0, .ref 0), (1, .int x1), (2, .int x2), (3, .long x.1), (5, .int x.2)] [] M) : WX C 6 5 [(0, .ref 0), (1, .int x1), (2, .int x2), (3, .long v.1), (5, .int v.2)] [] M := by
  unfold Mo_choiceCount_B5 at h
  refine x_iload hc dX9_choiceCount_5 4 rfl ?_
  refine x_bipush hc dX9_choiceCount_7 kb_8 ?_
  refine x_icmp_ge (tgt := 64) hc dX9_choiceCount_9 (by decide) (fun hb => ?_) (fun hb => ?_)
  · have h := ite_t hb h
    cases h
    exact x_sub (ke v.1 rfl) [3] rfl
  · have h := ite_f hb h
    refine x_lload_n hc dX9_choiceCount_12 rfl 3 rfl ?_
    refine x_aload_n hc dX9_choiceCount_13 rfl 0 rfl ?_
    refine x_getR hc dX9_choiceCount_14 fl_RX9_16 (q_s hSH sm_0) rfl ?_
    refine x_bipush hc dX9_choiceCount_17 kb_8 ?_
    refine x_iload_n hc dX9_choiceCount_19 rfl 1 rfl ?_
    refine x_imul hc dX9_choiceCount_20 ?_
    refine x_iload hc dX9_choiceCount_21 4 rfl ?_
    refine x_iadd hc dX9_choiceCount_23 ?_
    obtain ⟨b1, h⟩ := ck_some h
    refine x_iald hc dX9_choiceCount_24 (q_s hSH sm_3) (inb_in b1) ?_
    refine x_if_lt (tgt := 55) hc dX9_choiceCount_25 (by decide) (fun hb => ?_) (fun hb => ?_)
    · have h := ite_t hb h
      refine x_lconst hc dX9_choiceCount_55 kl_0 ?_
      refine x_ladd hc dX9_choiceCount_56 ?_
      refine x_lstore_n (L2 := [(3, .long (v.1 + (0 : Int64))), (0, .ref 0), (1, .int x1), (2, .int x2), (5, .int v.2)]) hc dX9_choiceCount_57 rfl (by decide) rfl ?_
      refine x_iinc (v := v.2 + (1 : Int32)) (L2 := [(5, .int (v.2 + (1 : Int32))), (3, .long (v.1 + (0 : Int64))), (0, .ref 0), (1, .int x1), (2, .int x2)]) hc dX9_choiceCount_58 4 rfl (by rw [kc_1]) (by decide) rfl ?_
      refine x_goto (tgt := 5) hc dX9_choiceCount_61 (by decide) ?_
      cases h
      exact x_sub (kb (v.1 + (0 : Int64), v.2 + (1 : Int32)) rfl) [2, 3, 4, 1, 0] rfl
    · have h := ite_f hb h
      refine x_aload_n hc dX9_choiceCount_28 rfl 0 rfl ?_
      refine x_getR hc dX9_choiceCount_29 fl_RX9_71 (q_s hSH sm_0) rfl ?_
      refine x_bipush hc dX9_choiceCount_32 kb_13 ?_
      refine x_aload_n hc dX9_choiceCount_34 rfl 0 rfl ?_
      refine x_getR hc dX9_choiceCount_35 fl_RX9_16 (q_s hSH sm_0) rfl ?_
      refine x_bipush hc dX9_choiceCount_38 kb_8 ?_
      refine x_iload_n hc dX9_choiceCount_40 rfl 1 rfl ?_
      refine x_imul hc dX9_choiceCount_41 ?_
      refine x_iload hc dX9_choiceCount_42 4 rfl ?_
      refine x_iadd hc dX9_choiceCount_44 ?_
      obtain ⟨b2, h⟩ := ck_some h
      refine x_iald hc dX9_choiceCount_45 (q_s hSH sm_3) (inb_in b2) ?_
      refine x_imul hc dX9_choiceCount_46 ?_
      refine x_iload_n hc dX9_choiceCount_47 rfl 2 rfl ?_
      refine x_iadd hc dX9_choiceCount_48 ?_
      refine x_iconst hc dX9_choiceCount_49 kc_1 ?_
      refine x_isub hc dX9_choiceCount_50 ?_
      obtain ⟨b3, h⟩ := ck_some h
      refine x_lald hc dX9_choiceCount_51 (q_s hSH sm_21) (inb_in b3) ?_
      refine x_goto (tgt := 56) hc dX9_choiceCount_52 (by decide) ?_
      refine x_ladd hc dX9_choiceCount_56 ?_
      refine x_lstore_n (L2 := [(3, .long (v.1 + (M.2 21 ((((13 : Int32) * (M.1 3 (((8 : Int32) * x1) + v.2).toNatClampNeg)) + x2) - (1 : Int32)).toNatClampNeg))), (0, .ref 0), (1, .int x1), (2, .int x2), (5, .int v.2)]) hc dX9_choiceCount_57 rfl (by decide) rfl ?_
      refine x_iinc (v := v.2 + (1 : Int32)) (L2 := [(5, .int (v.2 + (1 : Int32))), (3, .long (v.1 + (M.2 21 ((((13 : Int32) * (M.1 3 (((8 : Int32) * x1) + v.2).toNatClampNeg)) + x2) - (1 : Int32)).toNatClampNeg))), (0, .ref 0), (1, .int x1), (2, .int x2)]) hc dX9_choiceCount_58 4 rfl (by rw [kc_1]) (by decide) rfl ?_
      refine x_goto (tgt := 5) hc dX9_choiceCount_61 (by decide) ?_
      cases h
      exact x_sub (kb (v.1 + (M.2 21 ((((13 : Int32) * (M.1 3 (((8 : Int32) * x1) + v.2).toNatClampNeg)) + x2) - (1 : Int32)).toNatClampNeg), v.2 + (1 : Int32)) rfl) [2, 3, 4, 1, 0] rfl

theorem S_Mo_choiceCount_L5 {C : QC} (hc : OKX C RX9 cX9_choiceCount 6 1 (some .long)) (hSH : q_SH C = SHM) (x1 : Int32) (x2 : Int32) (M : QM) {n : Nat} {v : Int64 × Int32} {e : Int64} (h : iter (Mo_choiceCount_B5 x1 x2 M) n v = some e) (ke : ∀ x : Int64, e = x → WX C 6 64 [(3, .long x)] [] M) : WX C 6 5 [(0, .ref 0), (1, .int x1), (2, .int x2), (3, .long v.1), (5, .int v.2)] [] M :=
  iter_W (Wh := fun v => WX C 6 5 [(0, .ref 0), (1, .int x1), (2, .int x2), (3, .long v.1), (5, .int v.2)] [] M) (fun a res hB k1 k2 => S_Mo_choiceCount_B5 hc hSH x1 x2 M a hB (fun x hx => ke x (k1 _ hx).symm) k2) n v h

def Mo_choiceCount (p1 : Int32) (p2 : Int32) (M : QM) : Option (Int64) :=
  Option.bind (iter (Mo_choiceCount_B5 p1 p2 M) FU ((0 : Int64), (0 : Int32))) (fun e4 => Option.bind (Mo_held e4 M) (fun q5 => some q5))

set_option maxRecDepth 20000 in
set_option maxHeartbeats 2000000 in
theorem S_Mo_choiceCount  {p1 : Int32} {p2 : Int32} {M : QM} {res : Int64} (h : Mo_choiceCount p1 p2 M = some res) : Cn yX9_choiceCount cX9_choiceCount 6 (some .long) 1 SHM [.ref 0, .int p1, .int p2] M (some (.long res)) M := by
  refine q_enter (L := [(0, .ref 0), (1, .int p1), (2, .int p2)]) (by decide) (Nat.le_of_ble_eq_true rfl) rfl ?_
  intro C hc hSH hr hM
  have hc : OKX C RX9 cX9_choiceCount 6 1 (some .long) := hc
  unfold Mo_choiceCount at h
  refine x_lconst hc dX9_choiceCount_0 kl_0 ?_
  refine x_lstore_n (L2 := [(3, .long (0 : Int64)), (0, .ref 0), (1, .int p1), (2, .int p2)]) hc dX9_choiceCount_1 rfl (by decide) rfl ?_
  refine x_iconst hc dX9_choiceCount_2 kc_0 ?_
  refine x_istore (L2 := [(5, .int (0 : Int32)), (3, .long (0 : Int64)), (0, .ref 0), (1, .int p1), (2, .int p2)]) hc dX9_choiceCount_3 (by decide) rfl ?_
  obtain ⟨e4, h4, h⟩ := bd_some h
  refine x_sub (S_Mo_choiceCount_L5 hc hSH p1 p2 M (v := ((0 : Int64), (0 : Int32))) h4 (fun x hx => ?_)) [2, 3, 4, 1, 0] rfl
  subst hx
  refine x_lload_n hc dX9_choiceCount_64 rfl 0 rfl ?_
  obtain ⟨q5, h5, h⟩ := bd_some h
  refine x_callSl (As := [.long e4]) (st := []) hc dX9_choiceCount_65 cs_X9_held lk_RX9_187 rfl (q_cn hSH (S_Mo_held h5)) (by decide) (Nat.le_of_ble_eq_true rfl) ?_
  cases h
  exact x_lret hc dX9_choiceCount_68 hr hM

def Mo_come_J89 (x1 : Int32) (x2 : Int32) (x3 : Int32) (s0 : Int32) (M : QM) : Option (QM) :=
  ck (inb (((8 : Int32) * x3) + s0) 800) (ck (inb x2 16) (ck (inb x2 16) (some (u_i (u_i M 6 (((8 : Int32) * x3) + s0).toNatClampNeg x1) 9 x2.toNatClampNeg (((u_i M 6 (((8 : Int32) * x3) + s0).toNatClampNeg x1).1 9 x2.toNatClampNeg) - (1 : Int32))))))

set_option maxRecDepth 20000 in
set_option maxHeartbeats 2000000 in
theorem S_Mo_come_J89 {C : QC} (hc : OKX C RX9 cX9_come 5 0 none) (hSH : q_SH C = SHM) (x1 : Int32) (x2 : Int32) (x3 : Int32) (s0 : Int32) (M : QM) {res : QM} (h : Mo_come_J89 x1 x2 x3 s0 M = some res) (hr : q_r C = none) (hM : q_M C = res) : WX C 5 89 [(0, .ref 0), (1, .int x1), (2, .int x2), (3, .int x3)] [.int s0] M := by
  unfold Mo_come_J89 at h
  refine x_istore (L2 := [(4, .int s0), (0, .ref 0), (1, .int x1), (2, .int x2), (3, .int x3)]) hc dX9_come_89 (by decide) rfl ?_
  refine x_aload_n hc dX9_come_91 rfl 1 rfl ?_
  refine x_getR hc dX9_come_92 fl_RX9_25 (q_s hSH sm_0) rfl ?_
  refine x_bipush hc dX9_come_95 kb_8 ?_
  refine x_iload_n hc dX9_come_97 rfl 4 rfl ?_
  refine x_imul hc dX9_come_98 ?_
  refine x_iload hc dX9_come_99 0 rfl ?_
  refine x_iadd hc dX9_come_101 ?_
  refine x_iload_n hc dX9_come_102 rfl 2 rfl ?_
  obtain ⟨b4, h⟩ := ck_some h
  refine x_iast hc dX9_come_103 (q_s hSH sm_6) (inb_in b4) ?_
  refine x_aload_n hc dX9_come_104 rfl 1 rfl ?_
  refine x_getR hc dX9_come_105 fl_RX9_34 (q_s hSH sm_0) rfl ?_
  refine x_iload_n hc dX9_come_108 rfl 3 rfl ?_
  refine x_dup2 hc dX9_come_109 rfl rfl ?_
  obtain ⟨b5, h⟩ := ck_some h
  refine x_iald hc dX9_come_110 (q_s hSH sm_9) (inb_in b5) ?_
  refine x_iconst hc dX9_come_111 kc_1 ?_
  refine x_isub hc dX9_come_112 ?_
  obtain ⟨b6, h⟩ := ck_some h
  refine x_iast hc dX9_come_113 (q_s hSH sm_9) (inb_in b6) ?_
  cases h
  exact x_vret hc dX9_come_114 hr hM

def Mo_come_J88 (x1 : Int32) (x2 : Int32) (x3 : Int32) (M : QM) : Option (QM) :=
  Mo_come_J89 x1 x2 x3 (0 : Int32) M

set_option maxRecDepth 20000 in
set_option maxHeartbeats 2000000 in
theorem S_Mo_come_J88 {C : QC} (hc : OKX C RX9 cX9_come 5 0 none) (hSH : q_SH C = SHM) (x1 : Int32) (x2 : Int32) (x3 : Int32) (M : QM) {res : QM} (h : Mo_come_J88 x1 x2 x3 M = some res) (hr : q_r C = none) (hM : q_M C = res) : WX C 5 88 [(0, .ref 0), (1, .int x1), (2, .int x2), (3, .int x3)] [] M := by
  unfold Mo_come_J88 at h
  refine x_iconst hc dX9_come_88 kc_0 ?_
  exact x_sub (S_Mo_come_J89 hc hSH x1 x2 x3 (0 : Int32) M h hr hM) [0, 1, 2, 3] rfl

def Mo_come (p1 : Int32) (M : QM) : Option (QM) :=
  (if (M.1 0 10) = 0 then ck (inb (M.1 0 14) 8) (some (u_i M 7 (M.1 0 14).toNatClampNeg p1)) else ck (inb ((M.1 0 10) - (1 : Int32)) 16) (ck (inb ((M.1 0 10) - (1 : Int32)) 16) ((if (M.1 9 ((M.1 0 10) - (1 : Int32)).toNatClampNeg) = (100 : Int32) then ck (inb ((M.1 0 10) - (1 : Int32)) 16) (ck (inb (((8 : Int32) * (M.1 8 ((M.1 0 10) - (1 : Int32)).toNatClampNeg)) + (M.1 10 ((M.1 0 10) - (1 : Int32)).toNatClampNeg)) 800) (some (u_i M 6 (((8 : Int32) * (M.1 8 ((M.1 0 10) - (1 : Int32)).toNatClampNeg)) + (M.1 10 ((M.1 0 10) - (1 : Int32)).toNatClampNeg)).toNatClampNeg p1))) else ck (inb (M.1 8 ((M.1 0 10) - (1 : Int32)).toNatClampNeg) 100) ((if (M.1 5 (M.1 8 ((M.1 0 10) - (1 : Int32)).toNatClampNeg).toNatClampNeg) = (62 : Int32) then ck (inb ((M.1 0 10) - (1 : Int32)) 16) ((if (M.1 9 ((M.1 0 10) - (1 : Int32)).toNatClampNeg) = (1 : Int32) then Mo_come_J89 p1 ((M.1 0 10) - (1 : Int32)) (M.1 8 ((M.1 0 10) - (1 : Int32)).toNatClampNeg) (1 : Int32) M else Mo_come_J88 p1 ((M.1 0 10) - (1 : Int32)) (M.1 8 ((M.1 0 10) - (1 : Int32)).toNatClampNeg) M)) else Mo_come_J88 p1 ((M.1 0 10) - (1 : Int32)) (M.1 8 ((M.1 0 10) - (1 : Int32)).toNatClampNeg) M))))))

set_option maxRecDepth 20000 in
set_option maxHeartbeats 2000000 in
theorem S_Mo_come  {p1 : Int32} {M : QM} {res : QM} (h : Mo_come p1 M = some res) : Cn yX9_come cX9_come 5 none 0 SHM [.ref 0, .int p1] M (none) res := by
  refine q_enter (L := [(0, .ref 0), (1, .int p1)]) (by decide) (Nat.le_of_ble_eq_true rfl) rfl ?_
  intro C hc hSH hr hM
  have hc : OKX C RX9 cX9_come 5 0 none := hc
  unfold Mo_come at h
  refine x_aload_n hc dX9_come_0 rfl 0 rfl ?_
  refine x_getI hc dX9_come_1 fl_RX9_92 (q_s hSH sm_0) rfl ?_
  refine x_if_ne (tgt := 18) hc dX9_come_4 (by decide) (fun hb => ?_) (fun hb => ?_)
  · have h := ite_f hb h
    refine x_aload_n hc dX9_come_18 rfl 0 rfl ?_
    refine x_getI hc dX9_come_19 fl_RX9_92 (q_s hSH sm_0) rfl ?_
    refine x_iconst hc dX9_come_22 kc_1 ?_
    refine x_isub hc dX9_come_23 ?_
    refine x_istore_n (L2 := [(2, .int ((M.1 0 10) - (1 : Int32))), (0, .ref 0), (1, .int p1)]) hc dX9_come_24 rfl (by decide) rfl ?_
    refine x_aload_n hc dX9_come_25 rfl 1 rfl ?_
    refine x_getR hc dX9_come_26 fl_RX9_31 (q_s hSH sm_0) rfl ?_
    refine x_iload_n hc dX9_come_29 rfl 0 rfl ?_
    obtain ⟨b1, h⟩ := ck_some h
    refine x_iald hc dX9_come_30 (q_s hSH sm_8) (inb_in b1) ?_
    refine x_istore_n (L2 := [(3, .int (M.1 8 ((M.1 0 10) - (1 : Int32)).toNatClampNeg)), (2, .int ((M.1 0 10) - (1 : Int32))), (0, .ref 0), (1, .int p1)]) hc dX9_come_31 rfl (by decide) rfl ?_
    refine x_aload_n hc dX9_come_32 rfl 2 rfl ?_
    refine x_getR hc dX9_come_33 fl_RX9_34 (q_s hSH sm_0) rfl ?_
    refine x_iload_n hc dX9_come_36 rfl 1 rfl ?_
    obtain ⟨b2, h⟩ := ck_some h
    refine x_iald hc dX9_come_37 (q_s hSH sm_9) (inb_in b2) ?_
    refine x_bipush hc dX9_come_38 kb_100 ?_
    refine x_icmp_ne (tgt := 63) hc dX9_come_40 (by decide) (fun hb => ?_) (fun hb => ?_)
    · have h := ite_f hb h
      refine x_aload_n hc dX9_come_63 rfl 2 rfl ?_
      refine x_getR hc dX9_come_64 fl_RX9_22 (q_s hSH sm_0) rfl ?_
      refine x_iload_n hc dX9_come_67 rfl 0 rfl ?_
      obtain ⟨b3, h⟩ := ck_some h
      refine x_iald hc dX9_come_68 (q_s hSH sm_5) (inb_in b3) ?_
      refine x_bipush hc dX9_come_69 kb_62 ?_
      refine x_icmp_ne (tgt := 88) hc dX9_come_71 (by decide) (fun hb => ?_) (fun hb => ?_)
      · have h := ite_f hb h
        exact x_sub (S_Mo_come_J88 hc hSH p1 ((M.1 0 10) - (1 : Int32)) (M.1 8 ((M.1 0 10) - (1 : Int32)).toNatClampNeg) M h hr hM) [2, 3, 1, 0] rfl
      · have h := ite_t hb h
        refine x_aload_n hc dX9_come_74 rfl 2 rfl ?_
        refine x_getR hc dX9_come_75 fl_RX9_34 (q_s hSH sm_0) rfl ?_
        refine x_iload_n hc dX9_come_78 rfl 1 rfl ?_
        obtain ⟨b7, h⟩ := ck_some h
        refine x_iald hc dX9_come_79 (q_s hSH sm_9) (inb_in b7) ?_
        refine x_iconst hc dX9_come_80 kc_1 ?_
        refine x_icmp_ne (tgt := 88) hc dX9_come_81 (by decide) (fun hb => ?_) (fun hb => ?_)
        · have h := ite_f hb h
          exact x_sub (S_Mo_come_J88 hc hSH p1 ((M.1 0 10) - (1 : Int32)) (M.1 8 ((M.1 0 10) - (1 : Int32)).toNatClampNeg) M h hr hM) [2, 3, 1, 0] rfl
        · have h := ite_t hb h
          refine x_iconst hc dX9_come_84 kc_1 ?_
          refine x_goto (tgt := 89) hc dX9_come_85 (by decide) ?_
          exact x_sub (S_Mo_come_J89 hc hSH p1 ((M.1 0 10) - (1 : Int32)) (M.1 8 ((M.1 0 10) - (1 : Int32)).toNatClampNeg) (1 : Int32) M h hr hM) [2, 3, 1, 0] rfl
    · have h := ite_t hb h
      refine x_aload_n hc dX9_come_43 rfl 2 rfl ?_
      refine x_getR hc dX9_come_44 fl_RX9_25 (q_s hSH sm_0) rfl ?_
      refine x_bipush hc dX9_come_47 kb_8 ?_
      refine x_iload_n hc dX9_come_49 rfl 0 rfl ?_
      refine x_imul hc dX9_come_50 ?_
      refine x_aload_n hc dX9_come_51 rfl 2 rfl ?_
      refine x_getR hc dX9_come_52 fl_RX9_37 (q_s hSH sm_0) rfl ?_
      refine x_iload_n hc dX9_come_55 rfl 1 rfl ?_
      obtain ⟨b8, h⟩ := ck_some h
      refine x_iald hc dX9_come_56 (q_s hSH sm_10) (inb_in b8) ?_
      refine x_iadd hc dX9_come_57 ?_
      refine x_iload_n hc dX9_come_58 rfl 3 rfl ?_
      obtain ⟨b9, h⟩ := ck_some h
      refine x_iast hc dX9_come_59 (q_s hSH sm_6) (inb_in b9) ?_
      refine x_goto (tgt := 114) hc dX9_come_60 (by decide) ?_
      cases h
      exact x_vret hc dX9_come_114 hr hM
  · have h := ite_t hb h
    refine x_aload_n hc dX9_come_7 rfl 0 rfl ?_
    refine x_getR hc dX9_come_8 fl_RX9_28 (q_s hSH sm_0) rfl ?_
    refine x_aload_n hc dX9_come_11 rfl 0 rfl ?_
    refine x_getI hc dX9_come_12 fl_RX9_95 (q_s hSH sm_0) rfl ?_
    refine x_iload_n hc dX9_come_15 rfl 1 rfl ?_
    obtain ⟨b10, h⟩ := ck_some h
    refine x_iast hc dX9_come_16 (q_s hSH sm_7) (inb_in b10) ?_
    cases h
    exact x_vret hc dX9_come_17 hr hM

def Mo_comesTo_B4 (M : QM) (v : Int32 × Int32) : Option ((Int32) ⊕ (Int32 × Int32)) :=
  (if (9 : Int32) ≤ v.2 then some (.inl v.1) else (if v.1 < (100 : Int32) then some (.inl v.1) else ck (inb (v.1 - (100 : Int32)) 8) (some (.inr (M.1 7 (v.1 - (100 : Int32)).toNatClampNeg, v.2 + (1 : Int32))))))

set_option maxRecDepth 20000 in
set_option maxHeartbeats 2000000 in
theorem S_Mo_comesTo_B4 {C : QC} (hc : OKX C RX9 cX9_comesTo 4 0 (some .int)) (hSH : q_SH C = SHM) (M : QM) (v : Int32 × Int32) {res : (Int32) ⊕ (Int32 × Int32)} (h : Mo_comesTo_B4 M v = some res) (ke : ∀ x : Int32, res = .inl x → WX C 4 32 [(2, .int x)] [] M) (kb : ∀ x : Int32 × Int32, res = .inr x → WX C 4 4 [(0, .ref 0), (2, .int x.1), (3, .int x.2)] [] M) : WX C 4 4 [(0, .ref 0), (2, .int v.1), (3, .int v.2)] [] M := by
  unfold Mo_comesTo_B4 at h
  refine x_iload_n hc dX9_comesTo_4 rfl 2 rfl ?_
  refine x_bipush hc dX9_comesTo_5 kb_9 ?_
  refine x_icmp_ge (tgt := 32) hc dX9_comesTo_7 (by decide) (fun hb => ?_) (fun hb => ?_)
  · have h := ite_t hb h
    cases h
    exact x_sub (ke v.1 rfl) [1] rfl
  · have h := ite_f hb h
    refine x_iload_n hc dX9_comesTo_10 rfl 1 rfl ?_
    refine x_bipush hc dX9_comesTo_11 kb_100 ?_
    refine x_icmp_lt (tgt := 32) hc dX9_comesTo_13 (by decide) (fun hb => ?_) (fun hb => ?_)
    · have h := ite_t hb h
      cases h
      exact x_sub (ke v.1 rfl) [1] rfl
    · have h := ite_f hb h
      refine x_aload_n hc dX9_comesTo_16 rfl 0 rfl ?_
      refine x_getR hc dX9_comesTo_17 fl_RX9_28 (q_s hSH sm_0) rfl ?_
      refine x_iload_n hc dX9_comesTo_20 rfl 1 rfl ?_
      refine x_bipush hc dX9_comesTo_21 kb_100 ?_
      refine x_isub hc dX9_comesTo_23 ?_
      obtain ⟨b1, h⟩ := ck_some h
      refine x_iald hc dX9_comesTo_24 (q_s hSH sm_7) (inb_in b1) ?_
      refine x_istore_n (L2 := [(2, .int (M.1 7 (v.1 - (100 : Int32)).toNatClampNeg)), (0, .ref 0), (3, .int v.2)]) hc dX9_comesTo_25 rfl (by decide) rfl ?_
      refine x_iinc (v := v.2 + (1 : Int32)) (L2 := [(3, .int (v.2 + (1 : Int32))), (2, .int (M.1 7 (v.1 - (100 : Int32)).toNatClampNeg)), (0, .ref 0)]) hc dX9_comesTo_26 2 rfl (by rw [kc_1]) (by decide) rfl ?_
      refine x_goto (tgt := 4) hc dX9_comesTo_29 (by decide) ?_
      cases h
      exact x_sub (kb (M.1 7 (v.1 - (100 : Int32)).toNatClampNeg, v.2 + (1 : Int32)) rfl) [2, 1, 0] rfl

theorem S_Mo_comesTo_L4 {C : QC} (hc : OKX C RX9 cX9_comesTo 4 0 (some .int)) (hSH : q_SH C = SHM) (M : QM) {n : Nat} {v : Int32 × Int32} {e : Int32} (h : iter (Mo_comesTo_B4 M) n v = some e) (ke : ∀ x : Int32, e = x → WX C 4 32 [(2, .int x)] [] M) : WX C 4 4 [(0, .ref 0), (2, .int v.1), (3, .int v.2)] [] M :=
  iter_W (Wh := fun v => WX C 4 4 [(0, .ref 0), (2, .int v.1), (3, .int v.2)] [] M) (fun a res hB k1 k2 => S_Mo_comesTo_B4 hc hSH M a hB (fun x hx => ke x (k1 _ hx).symm) k2) n v h

def Mo_comesTo_J32 (x2 : Int32) (M : QM) : Option (Int32) :=
  (if x2 < (100 : Int32) then some x2 else some (-6 : Int32))

set_option maxRecDepth 20000 in
set_option maxHeartbeats 2000000 in
theorem S_Mo_comesTo_J32 {C : QC} (hc : OKX C RX9 cX9_comesTo 4 0 (some .int)) (hSH : q_SH C = SHM) (x2 : Int32) (M : QM) {res : Int32} (h : Mo_comesTo_J32 x2 M = some res) (hr : q_r C = some (.int res)) (hM : q_M C = M) : WX C 4 32 [(2, .int x2)] [] M := by
  unfold Mo_comesTo_J32 at h
  refine x_iload_n hc dX9_comesTo_32 rfl 0 rfl ?_
  refine x_bipush hc dX9_comesTo_33 kb_100 ?_
  refine x_icmp_lt (tgt := 43) hc dX9_comesTo_35 (by decide) (fun hb => ?_) (fun hb => ?_)
  · have h := ite_t hb h
    refine x_iload_n hc dX9_comesTo_43 rfl 0 rfl ?_
    cases h
    exact x_iret hc dX9_comesTo_44 hr hM
  · have h := ite_f hb h
    refine x_bipush hc dX9_comesTo_38 kb_m6 ?_
    refine x_goto (tgt := 44) hc dX9_comesTo_40 (by decide) ?_
    cases h
    exact x_iret hc dX9_comesTo_44 hr hM

def Mo_comesTo (p1 : Int32) (M : QM) : Option (Int32) :=
  Option.bind (iter (Mo_comesTo_B4 M) FU (p1, (0 : Int32))) (fun e2 => Mo_comesTo_J32 e2 M)

set_option maxRecDepth 20000 in
set_option maxHeartbeats 2000000 in
theorem S_Mo_comesTo  {p1 : Int32} {M : QM} {res : Int32} (h : Mo_comesTo p1 M = some res) : Cn yX9_comesTo cX9_comesTo 4 (some .int) 0 SHM [.ref 0, .int p1] M (some (.int res)) M := by
  refine q_enter (L := [(0, .ref 0), (1, .int p1)]) (by decide) (Nat.le_of_ble_eq_true rfl) rfl ?_
  intro C hc hSH hr hM
  have hc : OKX C RX9 cX9_comesTo 4 0 (some .int) := hc
  unfold Mo_comesTo at h
  refine x_iload_n hc dX9_comesTo_0 rfl 1 rfl ?_
  refine x_istore_n (L2 := [(2, .int p1), (0, .ref 0), (1, .int p1)]) hc dX9_comesTo_1 rfl (by decide) rfl ?_
  refine x_iconst hc dX9_comesTo_2 kc_0 ?_
  refine x_istore_n (L2 := [(3, .int (0 : Int32)), (2, .int p1), (0, .ref 0), (1, .int p1)]) hc dX9_comesTo_3 rfl (by decide) rfl ?_
  obtain ⟨e2, h2, h⟩ := bd_some h
  refine x_sub (S_Mo_comesTo_L4 hc hSH M (v := (p1, (0 : Int32))) h2 (fun x hx => ?_)) [2, 1, 0] rfl
  subst hx
  exact x_sub (S_Mo_comesTo_J32 hc hSH e2 M h hr hM) [0] rfl

def Mo_listCount_B37 (x2 : Int32) (x3 : Int32) (x4 : Int32) (v : Int32 × QM) : Option ((QM) ⊕ (Int32 × QM)) :=
  (if x4 < v.1 then some (.inl v.2) else ck (inb x4 13) (ck (inb (x4 - v.1) 13) (ck (inb (((13 : Int32) * x3) + v.1) 780) (Option.bind (Mo_held ((v.2.2 22 (x4 - v.1).toNatClampNeg) * (v.2.2 21 (((13 : Int32) * x3) + v.1).toNatClampNeg)) v.2) (fun q7 => Option.bind (Mo_held ((v.2.2 22 x4.toNatClampNeg) + q7) v.2) (fun q8 => ck (inb x4 13) (some (.inr (v.1 + (1 : Int32), u_l v.2 22 x4.toNatClampNeg q8)))))))))

set_option maxRecDepth 20000 in
set_option maxHeartbeats 2000000 in
theorem S_Mo_listCount_B37 {C : QC} (hc : OKX C RX9 cX9_listCount 6 1 (some .long)) (hSH : q_SH C = SHM) (x2 : Int32) (x3 : Int32) (x4 : Int32) (v : Int32 × QM) {res : (QM) ⊕ (Int32 × QM)} (h : Mo_listCount_B37 x2 x3 x4 v = some res) (ke : ∀ x : QM, res = .inl x → WX C 6 94 [(0, .ref 0), (2, .int x2), (3, .int x3), (4, .int x4)] [] x) (kb : ∀ x : Int32 × QM, res = .inr x → WX C 6 37 [(0, .ref 0), (2, .int x2), (3, .int x3), (4, .int x4), (5, .int x.1)] [] x.2) : WX C 6 37 [(0, .ref 0), (2, .int x2), (3, .int x3), (4, .int x4), (5, .int v.1)] [] v.2 := by
  unfold Mo_listCount_B37 at h
  refine x_iload hc dX9_listCount_37 4 rfl ?_
  refine x_iload hc dX9_listCount_39 3 rfl ?_
  refine x_icmp_gt (tgt := 94) hc dX9_listCount_41 (by decide) (fun hb => ?_) (fun hb => ?_)
  · have h := ite_t hb h
    cases h
    exact x_sub (ke v.2 rfl) [0, 1, 2, 3] rfl
  · have h := ite_f hb h
    refine x_aload_n hc dX9_listCount_44 rfl 0 rfl ?_
    refine x_getR hc dX9_listCount_45 fl_RX9_75 (q_s hSH sm_0) rfl ?_
    refine x_iload hc dX9_listCount_48 3 rfl ?_
    refine x_aload_n hc dX9_listCount_50 rfl 0 rfl ?_
    refine x_getR hc dX9_listCount_51 fl_RX9_75 (q_s hSH sm_0) rfl ?_
    refine x_iload hc dX9_listCount_54 3 rfl ?_
    obtain ⟨b4, h⟩ := ck_some h
    refine x_lald hc dX9_listCount_56 (q_s hSH sm_22) (inb_in b4) ?_
    refine x_aload_n hc dX9_listCount_57 rfl 0 rfl ?_
    refine x_getR hc dX9_listCount_58 fl_RX9_75 (q_s hSH sm_0) rfl ?_
    refine x_iload hc dX9_listCount_61 3 rfl ?_
    refine x_iload hc dX9_listCount_63 4 rfl ?_
    refine x_isub hc dX9_listCount_65 ?_
    obtain ⟨b5, h⟩ := ck_some h
    refine x_lald hc dX9_listCount_66 (q_s hSH sm_22) (inb_in b5) ?_
    refine x_aload_n hc dX9_listCount_67 rfl 0 rfl ?_
    refine x_getR hc dX9_listCount_68 fl_RX9_71 (q_s hSH sm_0) rfl ?_
    refine x_bipush hc dX9_listCount_71 kb_13 ?_
    refine x_iload_n hc dX9_listCount_73 rfl 2 rfl ?_
    refine x_imul hc dX9_listCount_74 ?_
    refine x_iload hc dX9_listCount_75 4 rfl ?_
    refine x_iadd hc dX9_listCount_77 ?_
    obtain ⟨b6, h⟩ := ck_some h
    refine x_lald hc dX9_listCount_78 (q_s hSH sm_21) (inb_in b6) ?_
    refine x_lmul hc dX9_listCount_79 ?_
    obtain ⟨q7, h7, h⟩ := bd_some h
    refine x_callSl (As := [.long ((v.2.2 22 (x4 - v.1).toNatClampNeg) * (v.2.2 21 (((13 : Int32) * x3) + v.1).toNatClampNeg))]) (st := [.long (v.2.2 22 x4.toNatClampNeg), .int x4, .ref 22]) hc dX9_listCount_80 cs_X9_held lk_RX9_187 rfl (q_cn hSH (S_Mo_held h7)) (by decide) (Nat.le_of_ble_eq_true rfl) ?_
    refine x_ladd hc dX9_listCount_83 ?_
    obtain ⟨q8, h8, h⟩ := bd_some h
    refine x_callSl (As := [.long ((v.2.2 22 x4.toNatClampNeg) + q7)]) (st := [.int x4, .ref 22]) hc dX9_listCount_84 cs_X9_held lk_RX9_187 rfl (q_cn hSH (S_Mo_held h8)) (by decide) (Nat.le_of_ble_eq_true rfl) ?_
    obtain ⟨b9, h⟩ := ck_some h
    refine x_last hc dX9_listCount_87 (q_s hSH sm_22) (inb_in b9) ?_
    refine x_iinc (v := v.1 + (1 : Int32)) (L2 := [(5, .int (v.1 + (1 : Int32))), (0, .ref 0), (2, .int x2), (3, .int x3), (4, .int x4)]) hc dX9_listCount_88 4 rfl (by rw [kc_1]) (by decide) rfl ?_
    refine x_goto (tgt := 37) hc dX9_listCount_91 (by decide) ?_
    cases h
    exact x_sub (kb (v.1 + (1 : Int32), u_l v.2 22 x4.toNatClampNeg q8) rfl) [1, 2, 3, 4, 0] rfl

theorem S_Mo_listCount_L37 {C : QC} (hc : OKX C RX9 cX9_listCount 6 1 (some .long)) (hSH : q_SH C = SHM) (x2 : Int32) (x3 : Int32) (x4 : Int32) {n : Nat} {v : Int32 × QM} {e : QM} (h : iter (Mo_listCount_B37 x2 x3 x4) n v = some e) (ke : ∀ x : QM, e = x → WX C 6 94 [(0, .ref 0), (2, .int x2), (3, .int x3), (4, .int x4)] [] x) : WX C 6 37 [(0, .ref 0), (2, .int x2), (3, .int x3), (4, .int x4), (5, .int v.1)] [] v.2 :=
  iter_W (Wh := fun v => WX C 6 37 [(0, .ref 0), (2, .int x2), (3, .int x3), (4, .int x4), (5, .int v.1)] [] v.2) (fun a res hB k1 k2 => S_Mo_listCount_B37 hc hSH x2 x3 x4 a hB (fun x hx => ke x (k1 _ hx).symm) k2) n v h

def Mo_listCount_B20 (x2 : Int32) (x3 : Int32) (v : Int32 × QM) : Option ((QM) ⊕ (Int32 × QM)) :=
  (if x2 ≤ v.1 then some (.inl v.2) else ck (inb v.1 13) (Option.bind (iter (Mo_listCount_B37 x2 x3 v.1) FU ((1 : Int32), u_l v.2 22 v.1.toNatClampNeg (0 : Int64))) (fun e10 => some (.inr (v.1 + (1 : Int32), e10)))))

set_option maxRecDepth 20000 in
set_option maxHeartbeats 2000000 in
theorem S_Mo_listCount_B20 {C : QC} (hc : OKX C RX9 cX9_listCount 6 1 (some .long)) (hSH : q_SH C = SHM) (x2 : Int32) (x3 : Int32) (v : Int32 × QM) {res : (QM) ⊕ (Int32 × QM)} (h : Mo_listCount_B20 x2 x3 v = some res) (ke : ∀ x : QM, res = .inl x → WX C 6 100 [(0, .ref 0), (2, .int x2)] [] x) (kb : ∀ x : Int32 × QM, res = .inr x → WX C 6 20 [(0, .ref 0), (2, .int x2), (3, .int x3), (4, .int x.1)] [] x.2) : WX C 6 20 [(0, .ref 0), (2, .int x2), (3, .int x3), (4, .int v.1)] [] v.2 := by
  unfold Mo_listCount_B20 at h
  refine x_iload hc dX9_listCount_20 3 rfl ?_
  refine x_iload_n hc dX9_listCount_22 rfl 1 rfl ?_
  refine x_icmp_ge (tgt := 100) hc dX9_listCount_23 (by decide) (fun hb => ?_) (fun hb => ?_)
  · have h := ite_t hb h
    cases h
    exact x_sub (ke v.2 rfl) [0, 1] rfl
  · have h := ite_f hb h
    refine x_aload_n hc dX9_listCount_26 rfl 0 rfl ?_
    refine x_getR hc dX9_listCount_27 fl_RX9_75 (q_s hSH sm_0) rfl ?_
    refine x_iload hc dX9_listCount_30 3 rfl ?_
    refine x_lconst hc dX9_listCount_32 kl_0 ?_
    obtain ⟨b3, h⟩ := ck_some h
    refine x_last hc dX9_listCount_33 (q_s hSH sm_22) (inb_in b3) ?_
    refine x_iconst hc dX9_listCount_34 kc_1 ?_
    refine x_istore (L2 := [(5, .int (1 : Int32)), (0, .ref 0), (2, .int x2), (3, .int x3), (4, .int v.1)]) hc dX9_listCount_35 (by decide) rfl ?_
    obtain ⟨e10, h10, h⟩ := bd_some h
    refine x_sub (S_Mo_listCount_L37 hc hSH x2 x3 v.1 (v := ((1 : Int32), u_l v.2 22 v.1.toNatClampNeg (0 : Int64))) h10 (fun x hx => ?_)) [1, 2, 3, 4, 0] rfl
    subst hx
    refine x_iinc (v := v.1 + (1 : Int32)) (L2 := [(4, .int (v.1 + (1 : Int32))), (0, .ref 0), (2, .int x2), (3, .int x3)]) hc dX9_listCount_94 3 rfl (by rw [kc_1]) (by decide) rfl ?_
    refine x_goto (tgt := 20) hc dX9_listCount_97 (by decide) ?_
    cases h
    exact x_sub (kb (v.1 + (1 : Int32), e10) rfl) [1, 2, 3, 0] rfl

theorem S_Mo_listCount_L20 {C : QC} (hc : OKX C RX9 cX9_listCount 6 1 (some .long)) (hSH : q_SH C = SHM) (x2 : Int32) (x3 : Int32) {n : Nat} {v : Int32 × QM} {e : QM} (h : iter (Mo_listCount_B20 x2 x3) n v = some e) (ke : ∀ x : QM, e = x → WX C 6 100 [(0, .ref 0), (2, .int x2)] [] x) : WX C 6 20 [(0, .ref 0), (2, .int x2), (3, .int x3), (4, .int v.1)] [] v.2 :=
  iter_W (Wh := fun v => WX C 6 20 [(0, .ref 0), (2, .int x2), (3, .int x3), (4, .int v.1)] [] v.2) (fun a res hB k1 k2 => S_Mo_listCount_B20 hc hSH x2 x3 a hB (fun x hx => ke x (k1 _ hx).symm) k2) n v h

def Mo_listCount (p1 : Int32) (p2 : Int32) (M : QM) : Option (Int64 × QM) :=
  ck (inb ((8 : Int32) * p1) 480) (ck (inb (0 : Int32) 13) (Option.bind (iter (Mo_listCount_B20 p2 (M.1 3 ((8 : Int32) * p1).toNatClampNeg)) FU ((1 : Int32), u_l M 22 (0 : Int32).toNatClampNeg (1 : Int64))) (fun e11 => ck (inb (p2 - (1 : Int32)) 13) (some (e11.2 22 (p2 - (1 : Int32)).toNatClampNeg, e11)))))

set_option maxRecDepth 20000 in
set_option maxHeartbeats 2000000 in
theorem S_Mo_listCount  {p1 : Int32} {p2 : Int32} {M : QM} {res : Int64 × QM} (h : Mo_listCount p1 p2 M = some res) : Cn yX9_listCount cX9_listCount 6 (some .long) 1 SHM [.ref 0, .int p1, .int p2] M (some (.long res.1)) res.2 := by
  refine q_enter (L := [(0, .ref 0), (1, .int p1), (2, .int p2)]) (by decide) (Nat.le_of_ble_eq_true rfl) rfl ?_
  intro C hc hSH hr hM
  have hc : OKX C RX9 cX9_listCount 6 1 (some .long) := hc
  unfold Mo_listCount at h
  refine x_aload_n hc dX9_listCount_0 rfl 0 rfl ?_
  refine x_getR hc dX9_listCount_1 fl_RX9_16 (q_s hSH sm_0) rfl ?_
  refine x_bipush hc dX9_listCount_4 kb_8 ?_
  refine x_iload_n hc dX9_listCount_6 rfl 1 rfl ?_
  refine x_imul hc dX9_listCount_7 ?_
  obtain ⟨b1, h⟩ := ck_some h
  refine x_iald hc dX9_listCount_8 (q_s hSH sm_3) (inb_in b1) ?_
  refine x_istore_n (L2 := [(3, .int (M.1 3 ((8 : Int32) * p1).toNatClampNeg)), (0, .ref 0), (1, .int p1), (2, .int p2)]) hc dX9_listCount_9 rfl (by decide) rfl ?_
  refine x_aload_n hc dX9_listCount_10 rfl 1 rfl ?_
  refine x_getR hc dX9_listCount_11 fl_RX9_75 (q_s hSH sm_0) rfl ?_
  refine x_iconst hc dX9_listCount_14 kc_0 ?_
  refine x_lconst hc dX9_listCount_15 kl_1 ?_
  obtain ⟨b2, h⟩ := ck_some h
  refine x_last hc dX9_listCount_16 (q_s hSH sm_22) (inb_in b2) ?_
  refine x_iconst hc dX9_listCount_17 kc_1 ?_
  refine x_istore (L2 := [(4, .int (1 : Int32)), (3, .int (M.1 3 ((8 : Int32) * p1).toNatClampNeg)), (0, .ref 0), (1, .int p1), (2, .int p2)]) hc dX9_listCount_18 (by decide) rfl ?_
  obtain ⟨e11, h11, h⟩ := bd_some h
  refine x_sub (S_Mo_listCount_L20 hc hSH p2 (M.1 3 ((8 : Int32) * p1).toNatClampNeg) (v := ((1 : Int32), u_l M 22 (0 : Int32).toNatClampNeg (1 : Int64))) h11 (fun x hx => ?_)) [2, 4, 1, 0] rfl
  subst hx
  refine x_aload_n hc dX9_listCount_100 rfl 0 rfl ?_
  refine x_getR hc dX9_listCount_101 fl_RX9_75 (q_s hSH sm_0) rfl ?_
  refine x_iload_n hc dX9_listCount_104 rfl 1 rfl ?_
  refine x_iconst hc dX9_listCount_105 kc_1 ?_
  refine x_isub hc dX9_listCount_106 ?_
  obtain ⟨b12, h⟩ := ck_some h
  refine x_lald hc dX9_listCount_107 (q_s hSH sm_22) (inb_in b12) ?_
  cases h
  exact x_lret hc dX9_listCount_108 hr hM

def Mo_recordCount_L2_J23 (x1 : Int32) (x2 : Int32) (x3 : Int32) (s0 : Int64) (s1 : Int32) (M : QM) : Option ((QM) ⊕ (Int32 × QM)) :=
  ck (inb s1 13) (some (.inr (x3 + (1 : Int32), u_l M 22 s1.toNatClampNeg s0)))

set_option maxRecDepth 20000 in
set_option maxHeartbeats 2000000 in
theorem S_Mo_recordCount_L2_J23 {C : QC} (hc : OKX C RX9 cX9_recordCount 7 1 (some .long)) (hSH : q_SH C = SHM) (x1 : Int32) (x2 : Int32) (x3 : Int32) (s0 : Int64) (s1 : Int32) (M : QM) {res : (QM) ⊕ (Int32 × QM)} (h : Mo_recordCount_L2_J23 x1 x2 x3 s0 s1 M = some res) (ke : ∀ x : QM, res = .inl x → WX C 7 30 [(0, .ref 0), (1, .int x1), (2, .int x2)] [] x) (kb : ∀ x : Int32 × QM, res = .inr x → WX C 7 2 [(0, .ref 0), (1, .int x1), (2, .int x2), (3, .int x.1)] [] x.2) : WX C 7 23 [(0, .ref 0), (1, .int x1), (2, .int x2), (3, .int x3)] [.long s0, .int s1, .ref 22] M := by
  unfold Mo_recordCount_L2_J23 at h
  obtain ⟨b1, h⟩ := ck_some h
  refine x_last hc dX9_recordCount_23 (q_s hSH sm_22) (inb_in b1) ?_
  refine x_iinc (v := x3 + (1 : Int32)) (L2 := [(3, .int (x3 + (1 : Int32))), (0, .ref 0), (1, .int x1), (2, .int x2)]) hc dX9_recordCount_24 3 rfl (by rw [kc_1]) (by decide) rfl ?_
  refine x_goto (tgt := 2) hc dX9_recordCount_27 (by decide) ?_
  cases h
  exact x_sub (kb (x3 + (1 : Int32), u_l M 22 s1.toNatClampNeg s0) rfl) [1, 2, 3, 0] rfl

def Mo_recordCount_B2 (x1 : Int32) (x2 : Int32) (v : Int32 × QM) : Option ((QM) ⊕ (Int32 × QM)) :=
  (if (13 : Int32) ≤ v.1 then some (.inl v.2) else (if v.1 = (1 : Int32) then Mo_recordCount_L2_J23 x1 x2 v.1 (1 : Int64) v.1 v.2 else Mo_recordCount_L2_J23 x1 x2 v.1 (0 : Int64) v.1 v.2))

set_option maxRecDepth 20000 in
set_option maxHeartbeats 2000000 in
theorem S_Mo_recordCount_B2 {C : QC} (hc : OKX C RX9 cX9_recordCount 7 1 (some .long)) (hSH : q_SH C = SHM) (x1 : Int32) (x2 : Int32) (v : Int32 × QM) {res : (QM) ⊕ (Int32 × QM)} (h : Mo_recordCount_B2 x1 x2 v = some res) (ke : ∀ x : QM, res = .inl x → WX C 7 30 [(0, .ref 0), (1, .int x1), (2, .int x2)] [] x) (kb : ∀ x : Int32 × QM, res = .inr x → WX C 7 2 [(0, .ref 0), (1, .int x1), (2, .int x2), (3, .int x.1)] [] x.2) : WX C 7 2 [(0, .ref 0), (1, .int x1), (2, .int x2), (3, .int v.1)] [] v.2 := by
  unfold Mo_recordCount_B2 at h
  refine x_iload_n hc dX9_recordCount_2 rfl 3 rfl ?_
  refine x_bipush hc dX9_recordCount_3 kb_13 ?_
  refine x_icmp_ge (tgt := 30) hc dX9_recordCount_5 (by decide) (fun hb => ?_) (fun hb => ?_)
  · have h := ite_t hb h
    cases h
    exact x_sub (ke v.2 rfl) [0, 1, 2] rfl
  · have h := ite_f hb h
    refine x_aload_n hc dX9_recordCount_8 rfl 0 rfl ?_
    refine x_getR hc dX9_recordCount_9 fl_RX9_75 (q_s hSH sm_0) rfl ?_
    refine x_iload_n hc dX9_recordCount_12 rfl 3 rfl ?_
    refine x_iload_n hc dX9_recordCount_13 rfl 3 rfl ?_
    refine x_iconst hc dX9_recordCount_14 kc_1 ?_
    refine x_icmp_ne (tgt := 22) hc dX9_recordCount_15 (by decide) (fun hb => ?_) (fun hb => ?_)
    · have h := ite_f hb h
      refine x_lconst hc dX9_recordCount_22 kl_0 ?_
      exact x_sub (S_Mo_recordCount_L2_J23 hc hSH x1 x2 v.1 (0 : Int64) v.1 v.2 h ke kb) [0, 1, 2, 3] rfl
    · have h := ite_t hb h
      refine x_lconst hc dX9_recordCount_18 kl_1 ?_
      refine x_goto (tgt := 23) hc dX9_recordCount_19 (by decide) ?_
      exact x_sub (S_Mo_recordCount_L2_J23 hc hSH x1 x2 v.1 (1 : Int64) v.1 v.2 h ke kb) [0, 1, 2, 3] rfl

theorem S_Mo_recordCount_L2 {C : QC} (hc : OKX C RX9 cX9_recordCount 7 1 (some .long)) (hSH : q_SH C = SHM) (x1 : Int32) (x2 : Int32) {n : Nat} {v : Int32 × QM} {e : QM} (h : iter (Mo_recordCount_B2 x1 x2) n v = some e) (ke : ∀ x : QM, e = x → WX C 7 30 [(0, .ref 0), (1, .int x1), (2, .int x2)] [] x) : WX C 7 2 [(0, .ref 0), (1, .int x1), (2, .int x2), (3, .int v.1)] [] v.2 :=
  iter_W (Wh := fun v => WX C 7 2 [(0, .ref 0), (1, .int x1), (2, .int x2), (3, .int v.1)] [] v.2) (fun a res hB k1 k2 => S_Mo_recordCount_B2 hc hSH x1 x2 a hB (fun x hx => ke x (k1 _ hx).symm) k2) n v h

def Mo_recordCount_B76 (x1 : Int32) (x2 : Int32) (x3 : Int32) (x4 : Int32) (x5 : Int32) (v : Int32 × QM) : Option ((QM) ⊕ (Int32 × QM)) :=
  (if x5 ≤ v.1 then some (.inl v.2) else ck (inb x5 13) (ck (inb (x5 - v.1) 13) (ck (inb (((13 : Int32) * x4) + v.1) 780) (Option.bind (Mo_held ((v.2.2 22 (x5 - v.1).toNatClampNeg) * (v.2.2 21 (((13 : Int32) * x4) + v.1).toNatClampNeg)) v.2) (fun q8 => Option.bind (Mo_held ((v.2.2 23 x5.toNatClampNeg) + q8) v.2) (fun q9 => ck (inb x5 13) (some (.inr (v.1 + (1 : Int32), u_l v.2 23 x5.toNatClampNeg q9)))))))))

set_option maxRecDepth 20000 in
set_option maxHeartbeats 2000000 in
theorem S_Mo_recordCount_B76 {C : QC} (hc : OKX C RX9 cX9_recordCount 7 1 (some .long)) (hSH : q_SH C = SHM) (x1 : Int32) (x2 : Int32) (x3 : Int32) (x4 : Int32) (x5 : Int32) (v : Int32 × QM) {res : (QM) ⊕ (Int32 × QM)} (h : Mo_recordCount_B76 x1 x2 x3 x4 x5 v = some res) (ke : ∀ x : QM, res = .inl x → WX C 7 134 [(0, .ref 0), (1, .int x1), (2, .int x2), (3, .int x3), (4, .int x4), (5, .int x5)] [] x) (kb : ∀ x : Int32 × QM, res = .inr x → WX C 7 76 [(0, .ref 0), (1, .int x1), (2, .int x2), (3, .int x3), (4, .int x4), (5, .int x5), (6, .int x.1)] [] x.2) : WX C 7 76 [(0, .ref 0), (1, .int x1), (2, .int x2), (3, .int x3), (4, .int x4), (5, .int x5), (6, .int v.1)] [] v.2 := by
  unfold Mo_recordCount_B76 at h
  refine x_iload hc dX9_recordCount_76 6 rfl ?_
  refine x_iload hc dX9_recordCount_78 5 rfl ?_
  refine x_icmp_ge (tgt := 134) hc dX9_recordCount_80 (by decide) (fun hb => ?_) (fun hb => ?_)
  · have h := ite_t hb h
    cases h
    exact x_sub (ke v.2 rfl) [0, 1, 2, 3, 4, 5] rfl
  · have h := ite_f hb h
    refine x_aload_n hc dX9_recordCount_83 rfl 0 rfl ?_
    refine x_getR hc dX9_recordCount_84 fl_RX9_78 (q_s hSH sm_0) rfl ?_
    refine x_iload hc dX9_recordCount_87 5 rfl ?_
    refine x_aload_n hc dX9_recordCount_89 rfl 0 rfl ?_
    refine x_getR hc dX9_recordCount_90 fl_RX9_78 (q_s hSH sm_0) rfl ?_
    refine x_iload hc dX9_recordCount_93 5 rfl ?_
    obtain ⟨b5, h⟩ := ck_some h
    refine x_lald hc dX9_recordCount_95 (q_s hSH sm_23) (inb_in b5) ?_
    refine x_aload_n hc dX9_recordCount_96 rfl 0 rfl ?_
    refine x_getR hc dX9_recordCount_97 fl_RX9_75 (q_s hSH sm_0) rfl ?_
    refine x_iload hc dX9_recordCount_100 5 rfl ?_
    refine x_iload hc dX9_recordCount_102 6 rfl ?_
    refine x_isub hc dX9_recordCount_104 ?_
    obtain ⟨b6, h⟩ := ck_some h
    refine x_lald hc dX9_recordCount_105 (q_s hSH sm_22) (inb_in b6) ?_
    refine x_aload_n hc dX9_recordCount_106 rfl 0 rfl ?_
    refine x_getR hc dX9_recordCount_107 fl_RX9_71 (q_s hSH sm_0) rfl ?_
    refine x_bipush hc dX9_recordCount_110 kb_13 ?_
    refine x_iload hc dX9_recordCount_112 4 rfl ?_
    refine x_imul hc dX9_recordCount_114 ?_
    refine x_iload hc dX9_recordCount_115 6 rfl ?_
    refine x_iadd hc dX9_recordCount_117 ?_
    obtain ⟨b7, h⟩ := ck_some h
    refine x_lald hc dX9_recordCount_118 (q_s hSH sm_21) (inb_in b7) ?_
    refine x_lmul hc dX9_recordCount_119 ?_
    obtain ⟨q8, h8, h⟩ := bd_some h
    refine x_callSl (As := [.long ((v.2.2 22 (x5 - v.1).toNatClampNeg) * (v.2.2 21 (((13 : Int32) * x4) + v.1).toNatClampNeg))]) (st := [.long (v.2.2 23 x5.toNatClampNeg), .int x5, .ref 23]) hc dX9_recordCount_120 cs_X9_held lk_RX9_187 rfl (q_cn hSH (S_Mo_held h8)) (by decide) (Nat.le_of_ble_eq_true rfl) ?_
    refine x_ladd hc dX9_recordCount_123 ?_
    obtain ⟨q9, h9, h⟩ := bd_some h
    refine x_callSl (As := [.long ((v.2.2 23 x5.toNatClampNeg) + q8)]) (st := [.int x5, .ref 23]) hc dX9_recordCount_124 cs_X9_held lk_RX9_187 rfl (q_cn hSH (S_Mo_held h9)) (by decide) (Nat.le_of_ble_eq_true rfl) ?_
    obtain ⟨b10, h⟩ := ck_some h
    refine x_last hc dX9_recordCount_127 (q_s hSH sm_23) (inb_in b10) ?_
    refine x_iinc (v := v.1 + (1 : Int32)) (L2 := [(6, .int (v.1 + (1 : Int32))), (0, .ref 0), (1, .int x1), (2, .int x2), (3, .int x3), (4, .int x4), (5, .int x5)]) hc dX9_recordCount_128 6 rfl (by rw [kc_1]) (by decide) rfl ?_
    refine x_goto (tgt := 76) hc dX9_recordCount_131 (by decide) ?_
    cases h
    exact x_sub (kb (v.1 + (1 : Int32), u_l v.2 23 x5.toNatClampNeg q9) rfl) [1, 2, 3, 4, 5, 6, 0] rfl

theorem S_Mo_recordCount_L76 {C : QC} (hc : OKX C RX9 cX9_recordCount 7 1 (some .long)) (hSH : q_SH C = SHM) (x1 : Int32) (x2 : Int32) (x3 : Int32) (x4 : Int32) (x5 : Int32) {n : Nat} {v : Int32 × QM} {e : QM} (h : iter (Mo_recordCount_B76 x1 x2 x3 x4 x5) n v = some e) (ke : ∀ x : QM, e = x → WX C 7 134 [(0, .ref 0), (1, .int x1), (2, .int x2), (3, .int x3), (4, .int x4), (5, .int x5)] [] x) : WX C 7 76 [(0, .ref 0), (1, .int x1), (2, .int x2), (3, .int x3), (4, .int x4), (5, .int x5), (6, .int v.1)] [] v.2 :=
  iter_W (Wh := fun v => WX C 7 76 [(0, .ref 0), (1, .int x1), (2, .int x2), (3, .int x3), (4, .int x4), (5, .int x5), (6, .int v.1)] [] v.2) (fun a res hB k1 k2 => S_Mo_recordCount_B76 hc hSH x1 x2 x3 x4 x5 a hB (fun x hx => ke x (k1 _ hx).symm) k2) n v h

def Mo_recordCount_B59 (x1 : Int32) (x2 : Int32) (x3 : Int32) (x4 : Int32) (v : Int32 × QM) : Option ((QM) ⊕ (Int32 × QM)) :=
  (if x2 < v.1 then some (.inl v.2) else ck (inb v.1 13) (Option.bind (iter (Mo_recordCount_B76 x1 x2 x3 x4 v.1) FU ((1 : Int32), u_l v.2 23 v.1.toNatClampNeg (0 : Int64))) (fun e11 => some (.inr (v.1 + (1 : Int32), e11)))))

set_option maxRecDepth 20000 in
set_option maxHeartbeats 2000000 in
theorem S_Mo_recordCount_B59 {C : QC} (hc : OKX C RX9 cX9_recordCount 7 1 (some .long)) (hSH : q_SH C = SHM) (x1 : Int32) (x2 : Int32) (x3 : Int32) (x4 : Int32) (v : Int32 × QM) {res : (QM) ⊕ (Int32 × QM)} (h : Mo_recordCount_B59 x1 x2 x3 x4 v = some res) (ke : ∀ x : QM, res = .inl x → WX C 7 140 [(0, .ref 0), (1, .int x1), (2, .int x2), (3, .int x3)] [] x) (kb : ∀ x : Int32 × QM, res = .inr x → WX C 7 59 [(0, .ref 0), (1, .int x1), (2, .int x2), (3, .int x3), (4, .int x4), (5, .int x.1)] [] x.2) : WX C 7 59 [(0, .ref 0), (1, .int x1), (2, .int x2), (3, .int x3), (4, .int x4), (5, .int v.1)] [] v.2 := by
  unfold Mo_recordCount_B59 at h
  refine x_iload hc dX9_recordCount_59 5 rfl ?_
  refine x_iload_n hc dX9_recordCount_61 rfl 2 rfl ?_
  refine x_icmp_gt (tgt := 140) hc dX9_recordCount_62 (by decide) (fun hb => ?_) (fun hb => ?_)
  · have h := ite_t hb h
    cases h
    exact x_sub (ke v.2 rfl) [0, 1, 2, 3] rfl
  · have h := ite_f hb h
    refine x_aload_n hc dX9_recordCount_65 rfl 0 rfl ?_
    refine x_getR hc dX9_recordCount_66 fl_RX9_78 (q_s hSH sm_0) rfl ?_
    refine x_iload hc dX9_recordCount_69 5 rfl ?_
    refine x_lconst hc dX9_recordCount_71 kl_0 ?_
    obtain ⟨b4, h⟩ := ck_some h
    refine x_last hc dX9_recordCount_72 (q_s hSH sm_23) (inb_in b4) ?_
    refine x_iconst hc dX9_recordCount_73 kc_1 ?_
    refine x_istore (L2 := [(6, .int (1 : Int32)), (0, .ref 0), (1, .int x1), (2, .int x2), (3, .int x3), (4, .int x4), (5, .int v.1)]) hc dX9_recordCount_74 (by decide) rfl ?_
    obtain ⟨e11, h11, h⟩ := bd_some h
    refine x_sub (S_Mo_recordCount_L76 hc hSH x1 x2 x3 x4 v.1 (v := ((1 : Int32), u_l v.2 23 v.1.toNatClampNeg (0 : Int64))) h11 (fun x hx => ?_)) [1, 2, 3, 4, 5, 6, 0] rfl
    subst hx
    refine x_iinc (v := v.1 + (1 : Int32)) (L2 := [(5, .int (v.1 + (1 : Int32))), (0, .ref 0), (1, .int x1), (2, .int x2), (3, .int x3), (4, .int x4)]) hc dX9_recordCount_134 5 rfl (by rw [kc_1]) (by decide) rfl ?_
    refine x_goto (tgt := 59) hc dX9_recordCount_137 (by decide) ?_
    cases h
    exact x_sub (kb (v.1 + (1 : Int32), e11) rfl) [1, 2, 3, 4, 5, 0] rfl

theorem S_Mo_recordCount_L59 {C : QC} (hc : OKX C RX9 cX9_recordCount 7 1 (some .long)) (hSH : q_SH C = SHM) (x1 : Int32) (x2 : Int32) (x3 : Int32) (x4 : Int32) {n : Nat} {v : Int32 × QM} {e : QM} (h : iter (Mo_recordCount_B59 x1 x2 x3 x4) n v = some e) (ke : ∀ x : QM, e = x → WX C 7 140 [(0, .ref 0), (1, .int x1), (2, .int x2), (3, .int x3)] [] x) : WX C 7 59 [(0, .ref 0), (1, .int x1), (2, .int x2), (3, .int x3), (4, .int x4), (5, .int v.1)] [] v.2 :=
  iter_W (Wh := fun v => WX C 7 59 [(0, .ref 0), (1, .int x1), (2, .int x2), (3, .int x3), (4, .int x4), (5, .int v.1)] [] v.2) (fun a res hB k1 k2 => S_Mo_recordCount_B59 hc hSH x1 x2 x3 x4 a hB (fun x hx => ke x (k1 _ hx).symm) k2) n v h

def Mo_recordCount_B143 (x1 : Int32) (x2 : Int32) (x3 : Int32) (v : Int32 × QM) : Option ((QM) ⊕ (Int32 × QM)) :=
  (if x2 < v.1 then some (.inl v.2) else ck (inb v.1 13) (ck (inb v.1 13) (some (.inr (v.1 + (1 : Int32), u_l v.2 22 v.1.toNatClampNeg (v.2.2 23 v.1.toNatClampNeg))))))

set_option maxRecDepth 20000 in
set_option maxHeartbeats 2000000 in
theorem S_Mo_recordCount_B143 {C : QC} (hc : OKX C RX9 cX9_recordCount 7 1 (some .long)) (hSH : q_SH C = SHM) (x1 : Int32) (x2 : Int32) (x3 : Int32) (v : Int32 × QM) {res : (QM) ⊕ (Int32 × QM)} (h : Mo_recordCount_B143 x1 x2 x3 v = some res) (ke : ∀ x : QM, res = .inl x → WX C 7 169 [(0, .ref 0), (1, .int x1), (2, .int x2), (3, .int x3)] [] x) (kb : ∀ x : Int32 × QM, res = .inr x → WX C 7 143 [(0, .ref 0), (1, .int x1), (2, .int x2), (3, .int x3), (5, .int x.1)] [] x.2) : WX C 7 143 [(0, .ref 0), (1, .int x1), (2, .int x2), (3, .int x3), (5, .int v.1)] [] v.2 := by
  unfold Mo_recordCount_B143 at h
  refine x_iload hc dX9_recordCount_143 4 rfl ?_
  refine x_iload_n hc dX9_recordCount_145 rfl 2 rfl ?_
  refine x_icmp_gt (tgt := 169) hc dX9_recordCount_146 (by decide) (fun hb => ?_) (fun hb => ?_)
  · have h := ite_t hb h
    cases h
    exact x_sub (ke v.2 rfl) [0, 1, 2, 3] rfl
  · have h := ite_f hb h
    refine x_aload_n hc dX9_recordCount_149 rfl 0 rfl ?_
    refine x_getR hc dX9_recordCount_150 fl_RX9_75 (q_s hSH sm_0) rfl ?_
    refine x_iload hc dX9_recordCount_153 4 rfl ?_
    refine x_aload_n hc dX9_recordCount_155 rfl 0 rfl ?_
    refine x_getR hc dX9_recordCount_156 fl_RX9_78 (q_s hSH sm_0) rfl ?_
    refine x_iload hc dX9_recordCount_159 4 rfl ?_
    obtain ⟨b13, h⟩ := ck_some h
    refine x_lald hc dX9_recordCount_161 (q_s hSH sm_23) (inb_in b13) ?_
    obtain ⟨b14, h⟩ := ck_some h
    refine x_last hc dX9_recordCount_162 (q_s hSH sm_22) (inb_in b14) ?_
    refine x_iinc (v := v.1 + (1 : Int32)) (L2 := [(5, .int (v.1 + (1 : Int32))), (0, .ref 0), (1, .int x1), (2, .int x2), (3, .int x3)]) hc dX9_recordCount_163 4 rfl (by rw [kc_1]) (by decide) rfl ?_
    refine x_goto (tgt := 143) hc dX9_recordCount_166 (by decide) ?_
    cases h
    exact x_sub (kb (v.1 + (1 : Int32), u_l v.2 22 v.1.toNatClampNeg (v.2.2 23 v.1.toNatClampNeg)) rfl) [1, 2, 3, 4, 0] rfl

theorem S_Mo_recordCount_L143 {C : QC} (hc : OKX C RX9 cX9_recordCount 7 1 (some .long)) (hSH : q_SH C = SHM) (x1 : Int32) (x2 : Int32) (x3 : Int32) {n : Nat} {v : Int32 × QM} {e : QM} (h : iter (Mo_recordCount_B143 x1 x2 x3) n v = some e) (ke : ∀ x : QM, e = x → WX C 7 169 [(0, .ref 0), (1, .int x1), (2, .int x2), (3, .int x3)] [] x) : WX C 7 143 [(0, .ref 0), (1, .int x1), (2, .int x2), (3, .int x3), (5, .int v.1)] [] v.2 :=
  iter_W (Wh := fun v => WX C 7 143 [(0, .ref 0), (1, .int x1), (2, .int x2), (3, .int x3), (5, .int v.1)] [] v.2) (fun a res hB k1 k2 => S_Mo_recordCount_B143 hc hSH x1 x2 x3 a hB (fun x hx => ke x (k1 _ hx).symm) k2) n v h

def Mo_recordCount_B32 (x1 : Int32) (x2 : Int32) (v : Int32 × QM) : Option ((QM) ⊕ (Int32 × QM)) :=
  (if (8 : Int32) ≤ v.1 then some (.inl v.2) else ck (inb (((8 : Int32) * x1) + v.1) 480) ((if (v.2.1 3 (((8 : Int32) * x1) + v.1).toNatClampNeg) < 0 then some (.inr (v.1 + (1 : Int32), v.2)) else Option.bind (iter (Mo_recordCount_B59 x1 x2 v.1 (v.2.1 3 (((8 : Int32) * x1) + v.1).toNatClampNeg)) FU ((0 : Int32), v.2)) (fun e12 => Option.bind (iter (Mo_recordCount_B143 x1 x2 v.1) FU ((0 : Int32), e12)) (fun e15 => some (.inr (v.1 + (1 : Int32), e15)))))))

set_option maxRecDepth 20000 in
set_option maxHeartbeats 2000000 in
theorem S_Mo_recordCount_B32 {C : QC} (hc : OKX C RX9 cX9_recordCount 7 1 (some .long)) (hSH : q_SH C = SHM) (x1 : Int32) (x2 : Int32) (v : Int32 × QM) {res : (QM) ⊕ (Int32 × QM)} (h : Mo_recordCount_B32 x1 x2 v = some res) (ke : ∀ x : QM, res = .inl x → WX C 7 175 [(0, .ref 0), (2, .int x2)] [] x) (kb : ∀ x : Int32 × QM, res = .inr x → WX C 7 32 [(0, .ref 0), (1, .int x1), (2, .int x2), (3, .int x.1)] [] x.2) : WX C 7 32 [(0, .ref 0), (1, .int x1), (2, .int x2), (3, .int v.1)] [] v.2 := by
  unfold Mo_recordCount_B32 at h
  refine x_iload_n hc dX9_recordCount_32 rfl 3 rfl ?_
  refine x_bipush hc dX9_recordCount_33 kb_8 ?_
  refine x_icmp_ge (tgt := 175) hc dX9_recordCount_35 (by decide) (fun hb => ?_) (fun hb => ?_)
  · have h := ite_t hb h
    cases h
    exact x_sub (ke v.2 rfl) [0, 2] rfl
  · have h := ite_f hb h
    refine x_aload_n hc dX9_recordCount_38 rfl 0 rfl ?_
    refine x_getR hc dX9_recordCount_39 fl_RX9_16 (q_s hSH sm_0) rfl ?_
    refine x_bipush hc dX9_recordCount_42 kb_8 ?_
    refine x_iload_n hc dX9_recordCount_44 rfl 1 rfl ?_
    refine x_imul hc dX9_recordCount_45 ?_
    refine x_iload_n hc dX9_recordCount_46 rfl 3 rfl ?_
    refine x_iadd hc dX9_recordCount_47 ?_
    obtain ⟨b3, h⟩ := ck_some h
    refine x_iald hc dX9_recordCount_48 (q_s hSH sm_3) (inb_in b3) ?_
    refine x_istore (L2 := [(4, .int (v.2.1 3 (((8 : Int32) * x1) + v.1).toNatClampNeg)), (0, .ref 0), (1, .int x1), (2, .int x2), (3, .int v.1)]) hc dX9_recordCount_49 (by decide) rfl ?_
    refine x_iload hc dX9_recordCount_51 0 rfl ?_
    refine x_if_lt (tgt := 169) hc dX9_recordCount_53 (by decide) (fun hb => ?_) (fun hb => ?_)
    · have h := ite_t hb h
      refine x_iinc (v := v.1 + (1 : Int32)) (L2 := [(3, .int (v.1 + (1 : Int32))), (4, .int (v.2.1 3 (((8 : Int32) * x1) + v.1).toNatClampNeg)), (0, .ref 0), (1, .int x1), (2, .int x2)]) hc dX9_recordCount_169 4 rfl (by rw [kc_1]) (by decide) rfl ?_
      refine x_goto (tgt := 32) hc dX9_recordCount_172 (by decide) ?_
      cases h
      exact x_sub (kb (v.1 + (1 : Int32), v.2) rfl) [2, 3, 4, 0] rfl
    · have h := ite_f hb h
      refine x_iconst hc dX9_recordCount_56 kc_0 ?_
      refine x_istore (L2 := [(5, .int (0 : Int32)), (4, .int (v.2.1 3 (((8 : Int32) * x1) + v.1).toNatClampNeg)), (0, .ref 0), (1, .int x1), (2, .int x2), (3, .int v.1)]) hc dX9_recordCount_57 (by decide) rfl ?_
      obtain ⟨e12, h12, h⟩ := bd_some h
      refine x_sub (S_Mo_recordCount_L59 hc hSH x1 x2 v.1 (v.2.1 3 (((8 : Int32) * x1) + v.1).toNatClampNeg) (v := ((0 : Int32), v.2)) h12 (fun x hx => ?_)) [2, 3, 4, 5, 1, 0] rfl
      subst hx
      refine x_iconst hc dX9_recordCount_140 kc_0 ?_
      refine x_istore (L2 := [(5, .int (0 : Int32)), (0, .ref 0), (1, .int x1), (2, .int x2), (3, .int v.1)]) hc dX9_recordCount_141 (by decide) rfl ?_
      obtain ⟨e15, h15, h⟩ := bd_some h
      refine x_sub (S_Mo_recordCount_L143 hc hSH x1 x2 v.1 (v := ((0 : Int32), e12)) h15 (fun x hx => ?_)) [1, 2, 3, 4, 0] rfl
      subst hx
      refine x_iinc (v := v.1 + (1 : Int32)) (L2 := [(3, .int (v.1 + (1 : Int32))), (0, .ref 0), (1, .int x1), (2, .int x2)]) hc dX9_recordCount_169 3 rfl (by rw [kc_1]) (by decide) rfl ?_
      refine x_goto (tgt := 32) hc dX9_recordCount_172 (by decide) ?_
      cases h
      exact x_sub (kb (v.1 + (1 : Int32), e15) rfl) [1, 2, 3, 0] rfl

theorem S_Mo_recordCount_L32 {C : QC} (hc : OKX C RX9 cX9_recordCount 7 1 (some .long)) (hSH : q_SH C = SHM) (x1 : Int32) (x2 : Int32) {n : Nat} {v : Int32 × QM} {e : QM} (h : iter (Mo_recordCount_B32 x1 x2) n v = some e) (ke : ∀ x : QM, e = x → WX C 7 175 [(0, .ref 0), (2, .int x2)] [] x) : WX C 7 32 [(0, .ref 0), (1, .int x1), (2, .int x2), (3, .int v.1)] [] v.2 :=
  iter_W (Wh := fun v => WX C 7 32 [(0, .ref 0), (1, .int x1), (2, .int x2), (3, .int v.1)] [] v.2) (fun a res hB k1 k2 => S_Mo_recordCount_B32 hc hSH x1 x2 a hB (fun x hx => ke x (k1 _ hx).symm) k2) n v h

def Mo_recordCount (p1 : Int32) (p2 : Int32) (M : QM) : Option (Int64 × QM) :=
  Option.bind (iter (Mo_recordCount_B2 p1 p2) FU ((0 : Int32), M)) (fun e2 => Option.bind (iter (Mo_recordCount_B32 p1 p2) FU ((0 : Int32), e2)) (fun e16 => ck (inb p2 13) (some (e16.2 22 p2.toNatClampNeg, e16))))

set_option maxRecDepth 20000 in
set_option maxHeartbeats 2000000 in
theorem S_Mo_recordCount  {p1 : Int32} {p2 : Int32} {M : QM} {res : Int64 × QM} (h : Mo_recordCount p1 p2 M = some res) : Cn yX9_recordCount cX9_recordCount 7 (some .long) 1 SHM [.ref 0, .int p1, .int p2] M (some (.long res.1)) res.2 := by
  refine q_enter (L := [(0, .ref 0), (1, .int p1), (2, .int p2)]) (by decide) (Nat.le_of_ble_eq_true rfl) rfl ?_
  intro C hc hSH hr hM
  have hc : OKX C RX9 cX9_recordCount 7 1 (some .long) := hc
  unfold Mo_recordCount at h
  refine x_iconst hc dX9_recordCount_0 kc_0 ?_
  refine x_istore_n (L2 := [(3, .int (0 : Int32)), (0, .ref 0), (1, .int p1), (2, .int p2)]) hc dX9_recordCount_1 rfl (by decide) rfl ?_
  obtain ⟨e2, h2, h⟩ := bd_some h
  refine x_sub (S_Mo_recordCount_L2 hc hSH p1 p2 (v := ((0 : Int32), M)) h2 (fun x hx => ?_)) [1, 2, 3, 0] rfl
  subst hx
  refine x_iconst hc dX9_recordCount_30 kc_0 ?_
  refine x_istore_n (L2 := [(3, .int (0 : Int32)), (0, .ref 0), (1, .int p1), (2, .int p2)]) hc dX9_recordCount_31 rfl (by decide) rfl ?_
  obtain ⟨e16, h16, h⟩ := bd_some h
  refine x_sub (S_Mo_recordCount_L32 hc hSH p1 p2 (v := ((0 : Int32), e2)) h16 (fun x hx => ?_)) [1, 2, 3, 0] rfl
  subst hx
  refine x_aload_n hc dX9_recordCount_175 rfl 0 rfl ?_
  refine x_getR hc dX9_recordCount_176 fl_RX9_75 (q_s hSH sm_0) rfl ?_
  refine x_iload_n hc dX9_recordCount_179 rfl 1 rfl ?_
  obtain ⟨b17, h⟩ := ck_some h
  refine x_lald hc dX9_recordCount_180 (q_s hSH sm_22) (inb_in b17) ?_
  cases h
  exact x_lret hc dX9_recordCount_181 hr hM

def Mo_count_B25 (x1 : Int32) (x2 : Int32) (v : Int32 × QM) : Option ((QM) ⊕ (Int32 × QM)) :=
  (if (780 : Int32) ≤ v.1 then some (.inl v.2) else ck (inb v.1 780) (some (.inr (v.1 + (1 : Int32), u_l v.2 21 v.1.toNatClampNeg (0 : Int64)))))

set_option maxRecDepth 20000 in
set_option maxHeartbeats 2000000 in
theorem S_Mo_count_B25 {C : QC} (hc : OKX C RX9 cX9_count 8 2 (some .int)) (hSH : q_SH C = SHM) (x1 : Int32) (x2 : Int32) (v : Int32 × QM) {res : (QM) ⊕ (Int32 × QM)} (h : Mo_count_B25 x1 x2 v = some res) (ke : ∀ x : QM, res = .inl x → WX C 8 45 [(0, .ref 0), (1, .int x1), (2, .int x2)] [] x) (kb : ∀ x : Int32 × QM, res = .inr x → WX C 8 25 [(0, .ref 0), (1, .int x1), (2, .int x2), (3, .int x.1)] [] x.2) : WX C 8 25 [(0, .ref 0), (1, .int x1), (2, .int x2), (3, .int v.1)] [] v.2 := by
  unfold Mo_count_B25 at h
  refine x_iload_n hc dX9_count_25 rfl 3 rfl ?_
  refine x_sipush hc dX9_count_26 ks_780 ?_
  refine x_icmp_ge (tgt := 45) hc dX9_count_29 (by decide) (fun hb => ?_) (fun hb => ?_)
  · have h := ite_t hb h
    cases h
    exact x_sub (ke v.2 rfl) [0, 1, 2] rfl
  · have h := ite_f hb h
    refine x_aload_n hc dX9_count_32 rfl 0 rfl ?_
    refine x_getR hc dX9_count_33 fl_RX9_71 (q_s hSH sm_0) rfl ?_
    refine x_iload_n hc dX9_count_36 rfl 3 rfl ?_
    refine x_lconst hc dX9_count_37 kl_0 ?_
    obtain ⟨b3, h⟩ := ck_some h
    refine x_last hc dX9_count_38 (q_s hSH sm_21) (inb_in b3) ?_
    refine x_iinc (v := v.1 + (1 : Int32)) (L2 := [(3, .int (v.1 + (1 : Int32))), (0, .ref 0), (1, .int x1), (2, .int x2)]) hc dX9_count_39 3 rfl (by rw [kc_1]) (by decide) rfl ?_
    refine x_goto (tgt := 25) hc dX9_count_42 (by decide) ?_
    cases h
    exact x_sub (kb (v.1 + (1 : Int32), u_l v.2 21 v.1.toNatClampNeg (0 : Int64)) rfl) [1, 2, 3, 0] rfl

theorem S_Mo_count_L25 {C : QC} (hc : OKX C RX9 cX9_count 8 2 (some .int)) (hSH : q_SH C = SHM) (x1 : Int32) (x2 : Int32) {n : Nat} {v : Int32 × QM} {e : QM} (h : iter (Mo_count_B25 x1 x2) n v = some e) (ke : ∀ x : QM, e = x → WX C 8 45 [(0, .ref 0), (1, .int x1), (2, .int x2)] [] x) : WX C 8 25 [(0, .ref 0), (1, .int x1), (2, .int x2), (3, .int v.1)] [] v.2 :=
  iter_W (Wh := fun v => WX C 8 25 [(0, .ref 0), (1, .int x1), (2, .int x2), (3, .int v.1)] [] v.2) (fun a res hB k1 k2 => S_Mo_count_B25 hc hSH x1 x2 a hB (fun x hx => ke x (k1 _ hx).symm) k2) n v h

def Mo_count_L55_J188 (x1 : Int32) (x2 : Int32) (x3 : Int32) (x4 : Int32) (s0 : Int64) (s1 : Int32) (M : QM) : Option ((QM) ⊕ (Int32 × QM)) :=
  ck (inb s1 780) (some (.inr (x4 + (1 : Int32), u_l M 21 s1.toNatClampNeg s0)))

set_option maxRecDepth 20000 in
set_option maxHeartbeats 2000000 in
theorem S_Mo_count_L55_J188 {C : QC} (hc : OKX C RX9 cX9_count 8 2 (some .int)) (hSH : q_SH C = SHM) (x1 : Int32) (x2 : Int32) (x3 : Int32) (x4 : Int32) (s0 : Int64) (s1 : Int32) (M : QM) {res : (QM) ⊕ (Int32 × QM)} (h : Mo_count_L55_J188 x1 x2 x3 x4 s0 s1 M = some res) (ke : ∀ x : QM, res = .inl x → WX C 8 195 [(0, .ref 0), (1, .int x1), (2, .int x2), (3, .int x3)] [] x) (kb : ∀ x : Int32 × QM, res = .inr x → WX C 8 55 [(0, .ref 0), (1, .int x1), (2, .int x2), (3, .int x3), (4, .int x.1)] [] x.2) : WX C 8 188 [(0, .ref 0), (1, .int x1), (2, .int x2), (3, .int x3), (4, .int x4)] [.long s0, .int s1, .ref 21] M := by
  unfold Mo_count_L55_J188 at h
  obtain ⟨b6, h⟩ := ck_some h
  refine x_last hc dX9_count_188 (q_s hSH sm_21) (inb_in b6) ?_
  refine x_iinc (v := x4 + (1 : Int32)) (L2 := [(4, .int (x4 + (1 : Int32))), (0, .ref 0), (1, .int x1), (2, .int x2), (3, .int x3)]) hc dX9_count_189 4 rfl (by rw [kc_1]) (by decide) rfl ?_
  refine x_goto (tgt := 55) hc dX9_count_192 (by decide) ?_
  cases h
  exact x_sub (kb (x4 + (1 : Int32), u_l M 21 s1.toNatClampNeg s0) rfl) [1, 2, 3, 4, 0] rfl

def Mo_count_L55_J113 (x1 : Int32) (x2 : Int32) (x3 : Int32) (x4 : Int32) (x5 : Int32) (s0 : Int64) (M : QM) : Option ((QM) ⊕ (Int32 × QM)) :=
  (if x5 = (123 : Int32) then Option.bind (Mo_recordCount x4 x3 M) (fun q9 => Mo_count_L55_J188 x1 x2 x3 x4 q9.1 (((13 : Int32) * x4) + x3) q9.2) else (if x5 = (91 : Int32) then Option.bind (Mo_choiceCount x4 x3 M) (fun q8 => Mo_count_L55_J188 x1 x2 x3 x4 q8 (((13 : Int32) * x4) + x3) M) else (if x5 = (42 : Int32) then Option.bind (Mo_listCount x4 x3 M) (fun q7 => Mo_count_L55_J188 x1 x2 x3 x4 q7.1 (((13 : Int32) * x4) + x3) q7.2) else (if x3 = (1 : Int32) then Mo_count_L55_J188 x1 x2 x3 x4 s0 (((13 : Int32) * x4) + x3) M else Mo_count_L55_J188 x1 x2 x3 x4 (0 : Int64) (((13 : Int32) * x4) + x3) M))))

set_option maxRecDepth 20000 in
set_option maxHeartbeats 2000000 in
theorem S_Mo_count_L55_J113 {C : QC} (hc : OKX C RX9 cX9_count 8 2 (some .int)) (hSH : q_SH C = SHM) (x1 : Int32) (x2 : Int32) (x3 : Int32) (x4 : Int32) (x5 : Int32) (s0 : Int64) (M : QM) {res : (QM) ⊕ (Int32 × QM)} (h : Mo_count_L55_J113 x1 x2 x3 x4 x5 s0 M = some res) (ke : ∀ x : QM, res = .inl x → WX C 8 195 [(0, .ref 0), (1, .int x1), (2, .int x2), (3, .int x3)] [] x) (kb : ∀ x : Int32 × QM, res = .inr x → WX C 8 55 [(0, .ref 0), (1, .int x1), (2, .int x2), (3, .int x3), (4, .int x.1)] [] x.2) : WX C 8 113 [(0, .ref 0), (1, .int x1), (2, .int x2), (3, .int x3), (4, .int x4), (5, .int x5)] [.long s0] M := by
  unfold Mo_count_L55_J113 at h
  refine x_lstore (L2 := [(6, .long s0), (0, .ref 0), (1, .int x1), (2, .int x2), (3, .int x3), (4, .int x4), (5, .int x5)]) hc dX9_count_113 (by decide) rfl ?_
  refine x_aload_n hc dX9_count_115 rfl 1 rfl ?_
  refine x_getR hc dX9_count_116 fl_RX9_71 (q_s hSH sm_0) rfl ?_
  refine x_bipush hc dX9_count_119 kb_13 ?_
  refine x_iload hc dX9_count_121 5 rfl ?_
  refine x_imul hc dX9_count_123 ?_
  refine x_iload_n hc dX9_count_124 rfl 4 rfl ?_
  refine x_iadd hc dX9_count_125 ?_
  refine x_iload hc dX9_count_126 6 rfl ?_
  refine x_bipush hc dX9_count_128 kb_123 ?_
  refine x_icmp_ne (tgt := 143) hc dX9_count_130 (by decide) (fun hb => ?_) (fun hb => ?_)
  · have h := ite_f hb h
    refine x_iload hc dX9_count_143 6 rfl ?_
    refine x_bipush hc dX9_count_145 kb_91 ?_
    refine x_icmp_ne (tgt := 160) hc dX9_count_147 (by decide) (fun hb => ?_) (fun hb => ?_)
    · have h := ite_f hb h
      refine x_iload hc dX9_count_160 6 rfl ?_
      refine x_bipush hc dX9_count_162 kb_42 ?_
      refine x_icmp_ne (tgt := 177) hc dX9_count_164 (by decide) (fun hb => ?_) (fun hb => ?_)
      · have h := ite_f hb h
        refine x_iload_n hc dX9_count_177 rfl 4 rfl ?_
        refine x_iconst hc dX9_count_178 kc_1 ?_
        refine x_icmp_ne (tgt := 187) hc dX9_count_179 (by decide) (fun hb => ?_) (fun hb => ?_)
        · have h := ite_f hb h
          refine x_lconst hc dX9_count_187 kl_0 ?_
          exact x_sub (S_Mo_count_L55_J188 hc hSH x1 x2 x3 x4 (0 : Int64) (((13 : Int32) * x4) + x3) M h ke kb) [1, 2, 3, 4, 5] rfl
        · have h := ite_t hb h
          refine x_lload hc dX9_count_182 0 rfl ?_
          refine x_goto (tgt := 188) hc dX9_count_184 (by decide) ?_
          exact x_sub (S_Mo_count_L55_J188 hc hSH x1 x2 x3 x4 s0 (((13 : Int32) * x4) + x3) M h ke kb) [1, 2, 3, 4, 5] rfl
      · have h := ite_t hb h
        refine x_aload_n hc dX9_count_167 rfl 1 rfl ?_
        refine x_iload hc dX9_count_168 5 rfl ?_
        refine x_iload_n hc dX9_count_170 rfl 4 rfl ?_
        obtain ⟨q7, h7, h⟩ := bd_some h
        refine x_callVl (As := [.int x4, .int x3]) (st := [.int (((13 : Int32) * x4) + x3), .ref 21]) (o := 0) hc dX9_count_171 cv_X9_listCount lk_RX9_203 (q_s hSH sm_0) rfl rfl (q_cn hSH (S_Mo_listCount h7)) (by decide) (Nat.le_of_ble_eq_true rfl) ?_
        refine x_goto (tgt := 188) hc dX9_count_174 (by decide) ?_
        exact x_sub (S_Mo_count_L55_J188 hc hSH x1 x2 x3 x4 q7.1 (((13 : Int32) * x4) + x3) q7.2 h ke kb) [1, 2, 3, 4, 5] rfl
    · have h := ite_t hb h
      refine x_aload_n hc dX9_count_150 rfl 1 rfl ?_
      refine x_iload hc dX9_count_151 5 rfl ?_
      refine x_iload_n hc dX9_count_153 rfl 4 rfl ?_
      obtain ⟨q8, h8, h⟩ := bd_some h
      refine x_callVl (As := [.int x4, .int x3]) (st := [.int (((13 : Int32) * x4) + x3), .ref 21]) (o := 0) hc dX9_count_154 cv_X9_choiceCount lk_RX9_200 (q_s hSH sm_0) rfl rfl (q_cn hSH (S_Mo_choiceCount h8)) (by decide) (Nat.le_of_ble_eq_true rfl) ?_
      refine x_goto (tgt := 188) hc dX9_count_157 (by decide) ?_
      exact x_sub (S_Mo_count_L55_J188 hc hSH x1 x2 x3 x4 q8 (((13 : Int32) * x4) + x3) M h ke kb) [1, 2, 3, 4, 5] rfl
  · have h := ite_t hb h
    refine x_aload_n hc dX9_count_133 rfl 1 rfl ?_
    refine x_iload hc dX9_count_134 5 rfl ?_
    refine x_iload_n hc dX9_count_136 rfl 4 rfl ?_
    obtain ⟨q9, h9, h⟩ := bd_some h
    refine x_callVl (As := [.int x4, .int x3]) (st := [.int (((13 : Int32) * x4) + x3), .ref 21]) (o := 0) hc dX9_count_137 cv_X9_recordCount lk_RX9_196 (q_s hSH sm_0) rfl rfl (q_cn hSH (S_Mo_recordCount h9)) (by decide) (Nat.le_of_ble_eq_true rfl) ?_
    refine x_goto (tgt := 188) hc dX9_count_140 (by decide) ?_
    exact x_sub (S_Mo_count_L55_J188 hc hSH x1 x2 x3 x4 q9.1 (((13 : Int32) * x4) + x3) q9.2 h ke kb) [1, 2, 3, 4, 5] rfl

def Mo_count_B55 (x1 : Int32) (x2 : Int32) (x3 : Int32) (v : Int32 × QM) : Option ((QM) ⊕ (Int32 × QM)) :=
  (if (v.2.1 0 2) ≤ v.1 then some (.inl v.2) else ck (inb v.1 60) ((if (v.2.1 2 v.1.toNatClampNeg) = (110 : Int32) then Mo_count_L55_J113 x1 x2 x3 v.1 (v.2.1 2 v.1.toNatClampNeg) (10 : Int64) v.2 else (if (v.2.1 2 v.1.toNatClampNeg) = (116 : Int32) then Mo_count_L55_J113 x1 x2 x3 v.1 (v.2.1 2 v.1.toNatClampNeg) (2 : Int64) v.2 else (if (v.2.1 2 v.1.toNatClampNeg) = (115 : Int32) then Mo_count_L55_J113 x1 x2 x3 v.1 (v.2.1 2 v.1.toNatClampNeg) (26 : Int64) v.2 else Mo_count_L55_J113 x1 x2 x3 v.1 (v.2.1 2 v.1.toNatClampNeg) (0 : Int64) v.2)))))

set_option maxRecDepth 20000 in
set_option maxHeartbeats 2000000 in
theorem S_Mo_count_B55 {C : QC} (hc : OKX C RX9 cX9_count 8 2 (some .int)) (hSH : q_SH C = SHM) (x1 : Int32) (x2 : Int32) (x3 : Int32) (v : Int32 × QM) {res : (QM) ⊕ (Int32 × QM)} (h : Mo_count_B55 x1 x2 x3 v = some res) (ke : ∀ x : QM, res = .inl x → WX C 8 195 [(0, .ref 0), (1, .int x1), (2, .int x2), (3, .int x3)] [] x) (kb : ∀ x : Int32 × QM, res = .inr x → WX C 8 55 [(0, .ref 0), (1, .int x1), (2, .int x2), (3, .int x3), (4, .int x.1)] [] x.2) : WX C 8 55 [(0, .ref 0), (1, .int x1), (2, .int x2), (3, .int x3), (4, .int v.1)] [] v.2 := by
  unfold Mo_count_B55 at h
  refine x_iload hc dX9_count_55 4 rfl ?_
  refine x_aload_n hc dX9_count_57 rfl 0 rfl ?_
  refine x_getI hc dX9_count_58 fl_RX9_116 (q_s hSH sm_0) rfl ?_
  refine x_icmp_ge (tgt := 195) hc dX9_count_61 (by decide) (fun hb => ?_) (fun hb => ?_)
  · have h := ite_t hb h
    cases h
    exact x_sub (ke v.2 rfl) [0, 1, 2, 3] rfl
  · have h := ite_f hb h
    refine x_aload_n hc dX9_count_64 rfl 0 rfl ?_
    refine x_getR hc dX9_count_65 fl_RX9_13 (q_s hSH sm_0) rfl ?_
    refine x_iload hc dX9_count_68 4 rfl ?_
    obtain ⟨b5, h⟩ := ck_some h
    refine x_iald hc dX9_count_70 (q_s hSH sm_2) (inb_in b5) ?_
    refine x_istore (L2 := [(5, .int (v.2.1 2 v.1.toNatClampNeg)), (0, .ref 0), (1, .int x1), (2, .int x2), (3, .int x3), (4, .int v.1)]) hc dX9_count_71 (by decide) rfl ?_
    refine x_iload hc dX9_count_73 0 rfl ?_
    refine x_bipush hc dX9_count_75 kb_110 ?_
    refine x_icmp_ne (tgt := 86) hc dX9_count_77 (by decide) (fun hb => ?_) (fun hb => ?_)
    · have h := ite_f hb h
      refine x_iload hc dX9_count_86 0 rfl ?_
      refine x_bipush hc dX9_count_88 kb_116 ?_
      refine x_icmp_ne (tgt := 99) hc dX9_count_90 (by decide) (fun hb => ?_) (fun hb => ?_)
      · have h := ite_f hb h
        refine x_iload hc dX9_count_99 0 rfl ?_
        refine x_bipush hc dX9_count_101 kb_115 ?_
        refine x_icmp_ne (tgt := 112) hc dX9_count_103 (by decide) (fun hb => ?_) (fun hb => ?_)
        · have h := ite_f hb h
          refine x_lconst hc dX9_count_112 kl_0 ?_
          exact x_sub (S_Mo_count_L55_J113 hc hSH x1 x2 x3 v.1 (v.2.1 2 v.1.toNatClampNeg) (0 : Int64) v.2 h ke kb) [1, 2, 3, 4, 5, 0] rfl
        · have h := ite_t hb h
          refine x_ldc2 hc dX9_count_106 kD_RX9_194 ?_
          refine x_goto (tgt := 113) hc dX9_count_109 (by decide) ?_
          exact x_sub (S_Mo_count_L55_J113 hc hSH x1 x2 x3 v.1 (v.2.1 2 v.1.toNatClampNeg) (26 : Int64) v.2 h ke kb) [1, 2, 3, 4, 5, 0] rfl
      · have h := ite_t hb h
        refine x_ldc2 hc dX9_count_93 kD_RX9_192 ?_
        refine x_goto (tgt := 113) hc dX9_count_96 (by decide) ?_
        exact x_sub (S_Mo_count_L55_J113 hc hSH x1 x2 x3 v.1 (v.2.1 2 v.1.toNatClampNeg) (2 : Int64) v.2 h ke kb) [1, 2, 3, 4, 5, 0] rfl
    · have h := ite_t hb h
      refine x_ldc2 hc dX9_count_80 kD_RX9_190 ?_
      refine x_goto (tgt := 113) hc dX9_count_83 (by decide) ?_
      exact x_sub (S_Mo_count_L55_J113 hc hSH x1 x2 x3 v.1 (v.2.1 2 v.1.toNatClampNeg) (10 : Int64) v.2 h ke kb) [1, 2, 3, 4, 5, 0] rfl

theorem S_Mo_count_L55 {C : QC} (hc : OKX C RX9 cX9_count 8 2 (some .int)) (hSH : q_SH C = SHM) (x1 : Int32) (x2 : Int32) (x3 : Int32) {n : Nat} {v : Int32 × QM} {e : QM} (h : iter (Mo_count_B55 x1 x2 x3) n v = some e) (ke : ∀ x : QM, e = x → WX C 8 195 [(0, .ref 0), (1, .int x1), (2, .int x2), (3, .int x3)] [] x) : WX C 8 55 [(0, .ref 0), (1, .int x1), (2, .int x2), (3, .int x3), (4, .int v.1)] [] v.2 :=
  iter_W (Wh := fun v => WX C 8 55 [(0, .ref 0), (1, .int x1), (2, .int x2), (3, .int x3), (4, .int v.1)] [] v.2) (fun a res hB k1 k2 => S_Mo_count_B55 hc hSH x1 x2 x3 a hB (fun x hx => ke x (k1 _ hx).symm) k2) n v h

def Mo_count_B47 (x1 : Int32) (x2 : Int32) (v : Int32 × QM) : Option ((QM) ⊕ (Int32 × QM)) :=
  (if x2 < v.1 then some (.inl v.2) else Option.bind (iter (Mo_count_B55 x1 x2 v.1) FU ((0 : Int32), v.2)) (fun e10 => some (.inr (v.1 + (1 : Int32), e10))))

set_option maxRecDepth 20000 in
set_option maxHeartbeats 2000000 in
theorem S_Mo_count_B47 {C : QC} (hc : OKX C RX9 cX9_count 8 2 (some .int)) (hSH : q_SH C = SHM) (x1 : Int32) (x2 : Int32) (v : Int32 × QM) {res : (QM) ⊕ (Int32 × QM)} (h : Mo_count_B47 x1 x2 v = some res) (ke : ∀ x : QM, res = .inl x → WX C 8 201 [(0, .ref 0), (1, .int x1), (2, .int x2)] [] x) (kb : ∀ x : Int32 × QM, res = .inr x → WX C 8 47 [(0, .ref 0), (1, .int x1), (2, .int x2), (3, .int x.1)] [] x.2) : WX C 8 47 [(0, .ref 0), (1, .int x1), (2, .int x2), (3, .int v.1)] [] v.2 := by
  unfold Mo_count_B47 at h
  refine x_iload_n hc dX9_count_47 rfl 3 rfl ?_
  refine x_iload_n hc dX9_count_48 rfl 2 rfl ?_
  refine x_icmp_gt (tgt := 201) hc dX9_count_49 (by decide) (fun hb => ?_) (fun hb => ?_)
  · have h := ite_t hb h
    cases h
    exact x_sub (ke v.2 rfl) [0, 1, 2] rfl
  · have h := ite_f hb h
    refine x_iconst hc dX9_count_52 kc_0 ?_
    refine x_istore (L2 := [(4, .int (0 : Int32)), (0, .ref 0), (1, .int x1), (2, .int x2), (3, .int v.1)]) hc dX9_count_53 (by decide) rfl ?_
    obtain ⟨e10, h10, h⟩ := bd_some h
    refine x_sub (S_Mo_count_L55 hc hSH x1 x2 v.1 (v := ((0 : Int32), v.2)) h10 (fun x hx => ?_)) [1, 2, 3, 4, 0] rfl
    subst hx
    refine x_iinc (v := v.1 + (1 : Int32)) (L2 := [(3, .int (v.1 + (1 : Int32))), (0, .ref 0), (1, .int x1), (2, .int x2)]) hc dX9_count_195 3 rfl (by rw [kc_1]) (by decide) rfl ?_
    refine x_goto (tgt := 47) hc dX9_count_198 (by decide) ?_
    cases h
    exact x_sub (kb (v.1 + (1 : Int32), e10) rfl) [1, 2, 3, 0] rfl

theorem S_Mo_count_L47 {C : QC} (hc : OKX C RX9 cX9_count 8 2 (some .int)) (hSH : q_SH C = SHM) (x1 : Int32) (x2 : Int32) {n : Nat} {v : Int32 × QM} {e : QM} (h : iter (Mo_count_B47 x1 x2) n v = some e) (ke : ∀ x : QM, e = x → WX C 8 201 [(0, .ref 0), (1, .int x1), (2, .int x2)] [] x) : WX C 8 47 [(0, .ref 0), (1, .int x1), (2, .int x2), (3, .int v.1)] [] v.2 :=
  iter_W (Wh := fun v => WX C 8 47 [(0, .ref 0), (1, .int x1), (2, .int x2), (3, .int v.1)] [] v.2) (fun a res hB k1 k2 => S_Mo_count_B47 hc hSH x1 x2 a hB (fun x hx => ke x (k1 _ hx).symm) k2) n v h

def Mo_count (p1 : Int32) (p2 : Int32) (M : QM) : Option (Int32 × QM) :=
  Option.bind (Mo_isNode p1 M) (fun q1 => (if q1 = 0 then some ((-1 : Int32), M) else Option.bind (Mo_in p2 (1 : Int32) (12 : Int32) M) (fun q2 => (if q2 = 0 then some ((-2 : Int32), M) else Option.bind (iter (Mo_count_B25 p1 p2) FU ((0 : Int32), M)) (fun e4 => Option.bind (iter (Mo_count_B47 p1 p2) FU ((1 : Int32), e4)) (fun e11 => ck (inb (((13 : Int32) * p1) + p2) 780) (some ((e11.2 21 (((13 : Int32) * p1) + p2).toNatClampNeg).toInt32, e11))))))))

set_option maxRecDepth 20000 in
set_option maxHeartbeats 2000000 in
theorem S_Mo_count  {p1 : Int32} {p2 : Int32} {M : QM} {res : Int32 × QM} (h : Mo_count p1 p2 M = some res) : Cn yX9_count cX9_count 8 (some .int) 2 SHM [.ref 0, .int p1, .int p2] M (some (.int res.1)) res.2 := by
  refine q_enter (L := [(0, .ref 0), (1, .int p1), (2, .int p2)]) (by decide) (Nat.le_of_ble_eq_true rfl) rfl ?_
  intro C hc hSH hr hM
  have hc : OKX C RX9 cX9_count 8 2 (some .int) := hc
  unfold Mo_count at h
  refine x_aload_n hc dX9_count_0 rfl 0 rfl ?_
  refine x_iload_n hc dX9_count_1 rfl 1 rfl ?_
  obtain ⟨q1, h1, h⟩ := bd_some h
  refine x_callVi (As := [.int p1]) (st := []) (o := 0) hc dX9_count_2 cv_X9_isNode lk_RX9_123 (q_s hSH sm_0) rfl rfl (q_cn hSH (S_Mo_isNode h1)) (by decide) (Nat.le_of_ble_eq_true rfl) ?_
  refine x_if_ne (tgt := 10) hc dX9_count_5 (by decide) (fun hb => ?_) (fun hb => ?_)
  · have h := ite_f hb h
    refine x_iload_n hc dX9_count_10 rfl 2 rfl ?_
    refine x_iconst hc dX9_count_11 kc_1 ?_
    refine x_bipush hc dX9_count_12 kb_12 ?_
    obtain ⟨q2, h2, h⟩ := bd_some h
    refine x_callSi (As := [.int p2, .int (1 : Int32), .int (12 : Int32)]) (st := []) hc dX9_count_14 cs_X9_in lk_RX9_84 rfl (q_cn hSH (S_Mo_in h2)) (by decide) (Nat.le_of_ble_eq_true rfl) ?_
    refine x_if_ne (tgt := 23) hc dX9_count_17 (by decide) (fun hb => ?_) (fun hb => ?_)
    · have h := ite_f hb h
      refine x_iconst hc dX9_count_23 kc_0 ?_
      refine x_istore_n (L2 := [(3, .int (0 : Int32)), (0, .ref 0), (1, .int p1), (2, .int p2)]) hc dX9_count_24 rfl (by decide) rfl ?_
      obtain ⟨e4, h4, h⟩ := bd_some h
      refine x_sub (S_Mo_count_L25 hc hSH p1 p2 (v := ((0 : Int32), M)) h4 (fun x hx => ?_)) [1, 2, 3, 0] rfl
      subst hx
      refine x_iconst hc dX9_count_45 kc_1 ?_
      refine x_istore_n (L2 := [(3, .int (1 : Int32)), (0, .ref 0), (1, .int p1), (2, .int p2)]) hc dX9_count_46 rfl (by decide) rfl ?_
      obtain ⟨e11, h11, h⟩ := bd_some h
      refine x_sub (S_Mo_count_L47 hc hSH p1 p2 (v := ((1 : Int32), e4)) h11 (fun x hx => ?_)) [1, 2, 3, 0] rfl
      subst hx
      refine x_aload_n hc dX9_count_201 rfl 0 rfl ?_
      refine x_getR hc dX9_count_202 fl_RX9_71 (q_s hSH sm_0) rfl ?_
      refine x_bipush hc dX9_count_205 kb_13 ?_
      refine x_iload_n hc dX9_count_207 rfl 1 rfl ?_
      refine x_imul hc dX9_count_208 ?_
      refine x_iload_n hc dX9_count_209 rfl 2 rfl ?_
      refine x_iadd hc dX9_count_210 ?_
      obtain ⟨b12, h⟩ := ck_some h
      refine x_lald hc dX9_count_211 (q_s hSH sm_21) (inb_in b12) ?_
      refine x_l2i hc dX9_count_212 ?_
      cases h
      exact x_iret hc dX9_count_213 hr hM
    · have h := ite_t hb h
      refine x_bipush hc dX9_count_20 kb_m2 ?_
      cases h
      exact x_iret hc dX9_count_22 hr hM
  · have h := ite_t hb h
    refine x_iconst hc dX9_count_8 kc_m1 ?_
    cases h
    exact x_iret hc dX9_count_9 hr hM

