def Mo_told_B48 (M : QM) (v : Int32 × Int32) : Option ((Int32) ⊕ (Int32 × Int32)) :=
  (if (8 : Int32) ≤ v.2 then some (.inl v.1) else ck (inb v.2 8) ((if (M.1 4 v.2.toNatClampNeg) < 0 then some (.inr (v.1 + (0 : Int32), v.2 + (1 : Int32))) else some (.inr (v.1 + (1 : Int32), v.2 + (1 : Int32))))))

set_option maxRecDepth 20000 in
set_option maxHeartbeats 2000000 in
theorem S_Mo_told_B48 {C : QC} (hc : OKX C RX9 cX9_told 5 3 (some .int)) (hSH : q_SH C = SHM) (M : QM) (v : Int32 × Int32) {res : (Int32) ⊕ (Int32 × Int32)} (h : Mo_told_B48 M v = some res) (ke : ∀ x : Int32, res = .inl x → WX C 5 77 [(2, .int x)] [] M) (kb : ∀ x : Int32 × Int32, res = .inr x → WX C 5 48 [(0, .ref 0), (2, .int x.1), (3, .int x.2)] [] M) : WX C 5 48 [(0, .ref 0), (2, .int v.1), (3, .int v.2)] [] M := by
  unfold Mo_told_B48 at h
  refine x_iload_n hc dX9_told_48 rfl 2 rfl ?_
  refine x_bipush hc dX9_told_49 kb_8 ?_
  refine x_icmp_ge (tgt := 77) hc dX9_told_51 (by decide) (fun hb => ?_) (fun hb => ?_)
  · have h := ite_t hb h
    cases h
    exact x_sub (ke v.1 rfl) [1] rfl
  · have h := ite_f hb h
    refine x_iload_n hc dX9_told_54 rfl 1 rfl ?_
    refine x_aload_n hc dX9_told_55 rfl 0 rfl ?_
    refine x_getR hc dX9_told_56 fl_RX9_19 (q_s hSH sm_0) rfl ?_
    refine x_iload_n hc dX9_told_59 rfl 2 rfl ?_
    obtain ⟨b3, h⟩ := ck_some h
    refine x_iald hc dX9_told_60 (q_s hSH sm_4) (inb_in b3) ?_
    refine x_if_lt (tgt := 68) hc dX9_told_61 (by decide) (fun hb => ?_) (fun hb => ?_)
    · have h := ite_t hb h
      refine x_iconst hc dX9_told_68 kc_0 ?_
      refine x_iadd hc dX9_told_69 ?_
      refine x_istore_n (L2 := [(2, .int (v.1 + (0 : Int32))), (0, .ref 0), (3, .int v.2)]) hc dX9_told_70 rfl (by decide) rfl ?_
      refine x_iinc (v := v.2 + (1 : Int32)) (L2 := [(3, .int (v.2 + (1 : Int32))), (2, .int (v.1 + (0 : Int32))), (0, .ref 0)]) hc dX9_told_71 2 rfl (by rw [kc_1]) (by decide) rfl ?_
      refine x_goto (tgt := 48) hc dX9_told_74 (by decide) ?_
      cases h
      exact x_sub (kb (v.1 + (0 : Int32), v.2 + (1 : Int32)) rfl) [2, 1, 0] rfl
    · have h := ite_f hb h
      refine x_iconst hc dX9_told_64 kc_1 ?_
      refine x_goto (tgt := 69) hc dX9_told_65 (by decide) ?_
      refine x_iadd hc dX9_told_69 ?_
      refine x_istore_n (L2 := [(2, .int (v.1 + (1 : Int32))), (0, .ref 0), (3, .int v.2)]) hc dX9_told_70 rfl (by decide) rfl ?_
      refine x_iinc (v := v.2 + (1 : Int32)) (L2 := [(3, .int (v.2 + (1 : Int32))), (2, .int (v.1 + (1 : Int32))), (0, .ref 0)]) hc dX9_told_71 2 rfl (by rw [kc_1]) (by decide) rfl ?_
      refine x_goto (tgt := 48) hc dX9_told_74 (by decide) ?_
      cases h
      exact x_sub (kb (v.1 + (1 : Int32), v.2 + (1 : Int32)) rfl) [2, 1, 0] rfl

theorem S_Mo_told_L48 {C : QC} (hc : OKX C RX9 cX9_told 5 3 (some .int)) (hSH : q_SH C = SHM) (M : QM) {n : Nat} {v : Int32 × Int32} {e : Int32} (h : iter (Mo_told_B48 M) n v = some e) (ke : ∀ x : Int32, e = x → WX C 5 77 [(2, .int x)] [] M) : WX C 5 48 [(0, .ref 0), (2, .int v.1), (3, .int v.2)] [] M :=
  iter_W (Wh := fun v => WX C 5 48 [(0, .ref 0), (2, .int v.1), (3, .int v.2)] [] M) (fun a res hB k1 k2 => S_Mo_told_B48 hc hSH M a hB (fun x hx => ke x (k1 _ hx).symm) k2) n v h

def Mo_told_B85 (M : QM) (v : Int32 × Int32) : Option ((Int32) ⊕ (Int32 × Int32)) :=
  (if (M.1 0 2) ≤ v.2 then some (.inl v.1) else ck (inb v.2 60) ((if (M.1 24 v.2.toNatClampNeg) ≤ (40 : Int32) then some (.inr (v.1 + (0 : Int32), v.2 + (1 : Int32))) else some (.inr (v.1 + (1 : Int32), v.2 + (1 : Int32))))))

set_option maxRecDepth 20000 in
set_option maxHeartbeats 2000000 in
theorem S_Mo_told_B85 {C : QC} (hc : OKX C RX9 cX9_told 5 3 (some .int)) (hSH : q_SH C = SHM) (M : QM) (v : Int32 × Int32) {res : (Int32) ⊕ (Int32 × Int32)} (h : Mo_told_B85 M v = some res) (ke : ∀ x : Int32, res = .inl x → WX C 5 118 [(2, .int x)] [] M) (kb : ∀ x : Int32 × Int32, res = .inr x → WX C 5 85 [(0, .ref 0), (2, .int x.1), (3, .int x.2)] [] M) : WX C 5 85 [(0, .ref 0), (2, .int v.1), (3, .int v.2)] [] M := by
  unfold Mo_told_B85 at h
  refine x_iload_n hc dX9_told_85 rfl 2 rfl ?_
  refine x_aload_n hc dX9_told_86 rfl 0 rfl ?_
  refine x_getI hc dX9_told_87 fl_RX9_116 (q_s hSH sm_0) rfl ?_
  refine x_icmp_ge (tgt := 118) hc dX9_told_90 (by decide) (fun hb => ?_) (fun hb => ?_)
  · have h := ite_t hb h
    cases h
    exact x_sub (ke v.1 rfl) [1] rfl
  · have h := ite_f hb h
    refine x_iload_n hc dX9_told_93 rfl 1 rfl ?_
    refine x_aload_n hc dX9_told_94 rfl 0 rfl ?_
    refine x_getR hc dX9_told_95 fl_RX9_81 (q_s hSH sm_0) rfl ?_
    refine x_iload_n hc dX9_told_98 rfl 2 rfl ?_
    obtain ⟨b7, h⟩ := ck_some h
    refine x_iald hc dX9_told_99 (q_s hSH sm_24) (inb_in b7) ?_
    refine x_bipush hc dX9_told_100 kb_40 ?_
    refine x_icmp_le (tgt := 109) hc dX9_told_102 (by decide) (fun hb => ?_) (fun hb => ?_)
    · have h := ite_t hb h
      refine x_iconst hc dX9_told_109 kc_0 ?_
      refine x_iadd hc dX9_told_110 ?_
      refine x_istore_n (L2 := [(2, .int (v.1 + (0 : Int32))), (0, .ref 0), (3, .int v.2)]) hc dX9_told_111 rfl (by decide) rfl ?_
      refine x_iinc (v := v.2 + (1 : Int32)) (L2 := [(3, .int (v.2 + (1 : Int32))), (2, .int (v.1 + (0 : Int32))), (0, .ref 0)]) hc dX9_told_112 2 rfl (by rw [kc_1]) (by decide) rfl ?_
      refine x_goto (tgt := 85) hc dX9_told_115 (by decide) ?_
      cases h
      exact x_sub (kb (v.1 + (0 : Int32), v.2 + (1 : Int32)) rfl) [2, 1, 0] rfl
    · have h := ite_f hb h
      refine x_iconst hc dX9_told_105 kc_1 ?_
      refine x_goto (tgt := 110) hc dX9_told_106 (by decide) ?_
      refine x_iadd hc dX9_told_110 ?_
      refine x_istore_n (L2 := [(2, .int (v.1 + (1 : Int32))), (0, .ref 0), (3, .int v.2)]) hc dX9_told_111 rfl (by decide) rfl ?_
      refine x_iinc (v := v.2 + (1 : Int32)) (L2 := [(3, .int (v.2 + (1 : Int32))), (2, .int (v.1 + (1 : Int32))), (0, .ref 0)]) hc dX9_told_112 2 rfl (by rw [kc_1]) (by decide) rfl ?_
      refine x_goto (tgt := 85) hc dX9_told_115 (by decide) ?_
      cases h
      exact x_sub (kb (v.1 + (1 : Int32), v.2 + (1 : Int32)) rfl) [2, 1, 0] rfl

theorem S_Mo_told_L85 {C : QC} (hc : OKX C RX9 cX9_told 5 3 (some .int)) (hSH : q_SH C = SHM) (M : QM) {n : Nat} {v : Int32 × Int32} {e : Int32} (h : iter (Mo_told_B85 M) n v = some e) (ke : ∀ x : Int32, e = x → WX C 5 118 [(2, .int x)] [] M) : WX C 5 85 [(0, .ref 0), (2, .int v.1), (3, .int v.2)] [] M :=
  iter_W (Wh := fun v => WX C 5 85 [(0, .ref 0), (2, .int v.1), (3, .int v.2)] [] M) (fun a res hB k1 k2 => S_Mo_told_B85 hc hSH M a hB (fun x hx => ke x (k1 _ hx).symm) k2) n v h

def Mo_told_B137 (x3 : Int32) (M : QM) (v : Int32 × Int32) : Option ((Int32) ⊕ (Int32 × Int32)) :=
  (if (M.1 0 2) ≤ v.2 then some (.inl v.1) else ck (inb (((60 : Int32) * x3) + v.2) 3600) ((if (M.1 11 (((60 : Int32) * x3) + v.2).toNatClampNeg) = 0 then some (.inr (v.1 + (0 : Int32), v.2 + (1 : Int32))) else (if x3 = v.2 then some (.inr (v.1 + (0 : Int32), v.2 + (1 : Int32))) else some (.inr (v.1 + (1 : Int32), v.2 + (1 : Int32)))))))

set_option maxRecDepth 20000 in
set_option maxHeartbeats 2000000 in
theorem S_Mo_told_B137 {C : QC} (hc : OKX C RX9 cX9_told 5 3 (some .int)) (hSH : q_SH C = SHM) (x3 : Int32) (M : QM) (v : Int32 × Int32) {res : (Int32) ⊕ (Int32 × Int32)} (h : Mo_told_B137 x3 M v = some res) (ke : ∀ x : Int32, res = .inl x → WX C 5 181 [(0, .ref 0), (2, .int x), (3, .int x3)] [] M) (kb : ∀ x : Int32 × Int32, res = .inr x → WX C 5 137 [(0, .ref 0), (2, .int x.1), (3, .int x3), (4, .int x.2)] [] M) : WX C 5 137 [(0, .ref 0), (2, .int v.1), (3, .int x3), (4, .int v.2)] [] M := by
  unfold Mo_told_B137 at h
  refine x_iload hc dX9_told_137 3 rfl ?_
  refine x_aload_n hc dX9_told_139 rfl 0 rfl ?_
  refine x_getI hc dX9_told_140 fl_RX9_116 (q_s hSH sm_0) rfl ?_
  refine x_icmp_ge (tgt := 181) hc dX9_told_143 (by decide) (fun hb => ?_) (fun hb => ?_)
  · have h := ite_t hb h
    cases h
    exact x_sub (ke v.1 rfl) [0, 1, 2] rfl
  · have h := ite_f hb h
    refine x_iload_n hc dX9_told_146 rfl 1 rfl ?_
    refine x_aload_n hc dX9_told_147 rfl 0 rfl ?_
    refine x_getR hc dX9_told_148 fl_RX9_40 (q_s hSH sm_0) rfl ?_
    refine x_bipush hc dX9_told_151 kb_60 ?_
    refine x_iload_n hc dX9_told_153 rfl 2 rfl ?_
    refine x_imul hc dX9_told_154 ?_
    refine x_iload hc dX9_told_155 3 rfl ?_
    refine x_iadd hc dX9_told_157 ?_
    obtain ⟨b11, h⟩ := ck_some h
    refine x_zald hc dX9_told_158 (q_s hSH sm_11) (inb_in b11) ?_
    refine x_if_eq (tgt := 172) hc dX9_told_159 (by decide) (fun hb => ?_) (fun hb => ?_)
    · have h := ite_t hb h
      refine x_iconst hc dX9_told_172 kc_0 ?_
      refine x_iadd hc dX9_told_173 ?_
      refine x_istore_n (L2 := [(2, .int (v.1 + (0 : Int32))), (0, .ref 0), (3, .int x3), (4, .int v.2)]) hc dX9_told_174 rfl (by decide) rfl ?_
      refine x_iinc (v := v.2 + (1 : Int32)) (L2 := [(4, .int (v.2 + (1 : Int32))), (2, .int (v.1 + (0 : Int32))), (0, .ref 0), (3, .int x3)]) hc dX9_told_175 3 rfl (by rw [kc_1]) (by decide) rfl ?_
      refine x_goto (tgt := 137) hc dX9_told_178 (by decide) ?_
      cases h
      exact x_sub (kb (v.1 + (0 : Int32), v.2 + (1 : Int32)) rfl) [2, 1, 3, 0] rfl
    · have h := ite_f hb h
      refine x_iload_n hc dX9_told_162 rfl 2 rfl ?_
      refine x_iload hc dX9_told_163 3 rfl ?_
      refine x_icmp_eq (tgt := 172) hc dX9_told_165 (by decide) (fun hb => ?_) (fun hb => ?_)
      · have h := ite_t hb h
        refine x_iconst hc dX9_told_172 kc_0 ?_
        refine x_iadd hc dX9_told_173 ?_
        refine x_istore_n (L2 := [(2, .int (v.1 + (0 : Int32))), (0, .ref 0), (3, .int x3), (4, .int v.2)]) hc dX9_told_174 rfl (by decide) rfl ?_
        refine x_iinc (v := v.2 + (1 : Int32)) (L2 := [(4, .int (v.2 + (1 : Int32))), (2, .int (v.1 + (0 : Int32))), (0, .ref 0), (3, .int x3)]) hc dX9_told_175 3 rfl (by rw [kc_1]) (by decide) rfl ?_
        refine x_goto (tgt := 137) hc dX9_told_178 (by decide) ?_
        cases h
        exact x_sub (kb (v.1 + (0 : Int32), v.2 + (1 : Int32)) rfl) [2, 1, 3, 0] rfl
      · have h := ite_f hb h
        refine x_iconst hc dX9_told_168 kc_1 ?_
        refine x_goto (tgt := 173) hc dX9_told_169 (by decide) ?_
        refine x_iadd hc dX9_told_173 ?_
        refine x_istore_n (L2 := [(2, .int (v.1 + (1 : Int32))), (0, .ref 0), (3, .int x3), (4, .int v.2)]) hc dX9_told_174 rfl (by decide) rfl ?_
        refine x_iinc (v := v.2 + (1 : Int32)) (L2 := [(4, .int (v.2 + (1 : Int32))), (2, .int (v.1 + (1 : Int32))), (0, .ref 0), (3, .int x3)]) hc dX9_told_175 3 rfl (by rw [kc_1]) (by decide) rfl ?_
        refine x_goto (tgt := 137) hc dX9_told_178 (by decide) ?_
        cases h
        exact x_sub (kb (v.1 + (1 : Int32), v.2 + (1 : Int32)) rfl) [2, 1, 3, 0] rfl

theorem S_Mo_told_L137 {C : QC} (hc : OKX C RX9 cX9_told 5 3 (some .int)) (hSH : q_SH C = SHM) (x3 : Int32) (M : QM) {n : Nat} {v : Int32 × Int32} {e : Int32} (h : iter (Mo_told_B137 x3 M) n v = some e) (ke : ∀ x : Int32, e = x → WX C 5 181 [(0, .ref 0), (2, .int x), (3, .int x3)] [] M) : WX C 5 137 [(0, .ref 0), (2, .int v.1), (3, .int x3), (4, .int v.2)] [] M :=
  iter_W (Wh := fun v => WX C 5 137 [(0, .ref 0), (2, .int v.1), (3, .int x3), (4, .int v.2)] [] M) (fun a res hB k1 k2 => S_Mo_told_B137 hc hSH x3 M a hB (fun x hx => ke x (k1 _ hx).symm) k2) n v h

def Mo_told_B126 (M : QM) (v : Int32 × Int32) : Option ((Int32) ⊕ (Int32 × Int32)) :=
  (if (M.1 0 2) ≤ v.2 then some (.inl v.1) else Option.bind (iter (Mo_told_B137 v.2 M) FU (v.1, (0 : Int32))) (fun e12 => some (.inr (e12, v.2 + (1 : Int32)))))

set_option maxRecDepth 20000 in
set_option maxHeartbeats 2000000 in
theorem S_Mo_told_B126 {C : QC} (hc : OKX C RX9 cX9_told 5 3 (some .int)) (hSH : q_SH C = SHM) (M : QM) (v : Int32 × Int32) {res : (Int32) ⊕ (Int32 × Int32)} (h : Mo_told_B126 M v = some res) (ke : ∀ x : Int32, res = .inl x → WX C 5 187 [(2, .int x)] [] M) (kb : ∀ x : Int32 × Int32, res = .inr x → WX C 5 126 [(0, .ref 0), (2, .int x.1), (3, .int x.2)] [] M) : WX C 5 126 [(0, .ref 0), (2, .int v.1), (3, .int v.2)] [] M := by
  unfold Mo_told_B126 at h
  refine x_iload_n hc dX9_told_126 rfl 2 rfl ?_
  refine x_aload_n hc dX9_told_127 rfl 0 rfl ?_
  refine x_getI hc dX9_told_128 fl_RX9_116 (q_s hSH sm_0) rfl ?_
  refine x_icmp_ge (tgt := 187) hc dX9_told_131 (by decide) (fun hb => ?_) (fun hb => ?_)
  · have h := ite_t hb h
    cases h
    exact x_sub (ke v.1 rfl) [1] rfl
  · have h := ite_f hb h
    refine x_iconst hc dX9_told_134 kc_0 ?_
    refine x_istore (L2 := [(4, .int (0 : Int32)), (0, .ref 0), (2, .int v.1), (3, .int v.2)]) hc dX9_told_135 (by decide) rfl ?_
    obtain ⟨e12, h12, h⟩ := bd_some h
    refine x_sub (S_Mo_told_L137 hc hSH v.2 M (v := (v.1, (0 : Int32))) h12 (fun x hx => ?_)) [1, 2, 3, 0] rfl
    subst hx
    refine x_iinc (v := v.2 + (1 : Int32)) (L2 := [(3, .int (v.2 + (1 : Int32))), (0, .ref 0), (2, .int e12)]) hc dX9_told_181 2 rfl (by rw [kc_1]) (by decide) rfl ?_
    refine x_goto (tgt := 126) hc dX9_told_184 (by decide) ?_
    cases h
    exact x_sub (kb (e12, v.2 + (1 : Int32)) rfl) [1, 2, 0] rfl

theorem S_Mo_told_L126 {C : QC} (hc : OKX C RX9 cX9_told 5 3 (some .int)) (hSH : q_SH C = SHM) (M : QM) {n : Nat} {v : Int32 × Int32} {e : Int32} (h : iter (Mo_told_B126 M) n v = some e) (ke : ∀ x : Int32, e = x → WX C 5 187 [(2, .int x)] [] M) : WX C 5 126 [(0, .ref 0), (2, .int v.1), (3, .int v.2)] [] M :=
  iter_W (Wh := fun v => WX C 5 126 [(0, .ref 0), (2, .int v.1), (3, .int v.2)] [] M) (fun a res hB k1 k2 => S_Mo_told_B126 hc hSH M a hB (fun x hx => ke x (k1 _ hx).symm) k2) n v h

def Mo_told (p1 : Int32) (M : QM) : Option (Int32 × QM) :=
  (if p1 = 0 then some (M.1 0 0, M) else if p1 = 1 then some (M.1 0 2, M) else if p1 = 2 then Option.bind (iter (Mo_told_B48 M) FU ((0 : Int32), (0 : Int32))) (fun e4 => some (e4, M)) else if p1 = 3 then Option.bind (Mo_layLeast M) (fun q6 => Option.bind (iter (Mo_told_B85 q6) FU ((0 : Int32), (0 : Int32))) (fun e8 => some (e8, q6))) else if p1 = 4 then Option.bind (Mo_lay M) (fun q10 => Option.bind (iter (Mo_told_B126 q10) FU ((0 : Int32), (0 : Int32))) (fun e13 => some (e13, q10))) else some ((-2 : Int32), M))

set_option maxRecDepth 20000 in
set_option maxHeartbeats 2000000 in
theorem S_Mo_told  {p1 : Int32} {M : QM} {res : Int32 × QM} (h : Mo_told p1 M = some res) : Cn yX9_told cX9_told 5 (some .int) 3 SHM [.ref 0, .int p1] M (some (.int res.1)) res.2 := by
  refine q_enter (L := [(0, .ref 0), (1, .int p1)]) (by decide) (Nat.le_of_ble_eq_true rfl) rfl ?_
  intro C hc hSH hr hM
  have hc : OKX C RX9 cX9_told 5 3 (some .int) := hc
  unfold Mo_told at h
  refine x_iconst hc dX9_told_0 kc_0 ?_
  refine x_istore_n (L2 := [(2, .int (0 : Int32)), (0, .ref 0), (1, .int p1)]) hc dX9_told_1 rfl (by decide) rfl ?_
  refine x_iload_n hc dX9_told_2 rfl 2 rfl ?_
  by_cases s1 : p1 = 0
  · have h := ite_t s1 h
    refine x_tableIn (off := 33) (tgt := 36) hc dX9_told_3 (by rw [s1]; decide) (by rw [s1]; decide) (by rw [s1]; rfl) (by decide) ?_
    refine x_aload_n hc dX9_told_36 rfl 1 rfl ?_
    refine x_getI hc dX9_told_37 fl_RX9_88 (q_s hSH sm_0) rfl ?_
    cases h
    exact x_iret hc dX9_told_40 hr hM
  · have h := ite_f s1 h
    by_cases s2 : p1 = 1
    · have h := ite_t s2 h
      refine x_tableIn (off := 38) (tgt := 41) hc dX9_told_3 (by rw [s2]; decide) (by rw [s2]; decide) (by rw [s2]; rfl) (by decide) ?_
      refine x_aload_n hc dX9_told_41 rfl 1 rfl ?_
      refine x_getI hc dX9_told_42 fl_RX9_116 (q_s hSH sm_0) rfl ?_
      cases h
      exact x_iret hc dX9_told_45 hr hM
    · have h := ite_f s2 h
      by_cases s5 : p1 = 2
      · have h := ite_t s5 h
        refine x_tableIn (off := 43) (tgt := 46) hc dX9_told_3 (by rw [s5]; decide) (by rw [s5]; decide) (by rw [s5]; rfl) (by decide) ?_
        refine x_iconst hc dX9_told_46 kc_0 ?_
        refine x_istore_n (L2 := [(3, .int (0 : Int32)), (2, .int (0 : Int32)), (0, .ref 0), (1, .int p1)]) hc dX9_told_47 rfl (by decide) rfl ?_
        obtain ⟨e4, h4, h⟩ := bd_some h
        refine x_sub (S_Mo_told_L48 hc hSH M (v := ((0 : Int32), (0 : Int32))) h4 (fun x hx => ?_)) [2, 1, 0] rfl
        subst hx
        refine x_iload_n hc dX9_told_77 rfl 0 rfl ?_
        cases h
        exact x_iret hc dX9_told_78 hr hM
      · have h := ite_f s5 h
        by_cases s9 : p1 = 3
        · have h := ite_t s9 h
          refine x_tableIn (off := 76) (tgt := 79) hc dX9_told_3 (by rw [s9]; decide) (by rw [s9]; decide) (by rw [s9]; rfl) (by decide) ?_
          refine x_aload_n hc dX9_told_79 rfl 1 rfl ?_
          obtain ⟨q6, h6, h⟩ := bd_some h
          refine x_callVv (As := []) (st := []) (o := 0) hc dX9_told_80 cv_X9_layLeast lk_RX9_206 (q_s hSH sm_0) rfl rfl (q_cn hSH (S_Mo_layLeast h6)) (by decide) (Nat.le_of_ble_eq_true rfl) ?_
          refine x_iconst hc dX9_told_83 kc_0 ?_
          refine x_istore_n (L2 := [(3, .int (0 : Int32)), (2, .int (0 : Int32)), (0, .ref 0), (1, .int p1)]) hc dX9_told_84 rfl (by decide) rfl ?_
          obtain ⟨e8, h8, h⟩ := bd_some h
          refine x_sub (S_Mo_told_L85 hc hSH q6 (v := ((0 : Int32), (0 : Int32))) h8 (fun x hx => ?_)) [2, 1, 0] rfl
          subst hx
          refine x_iload_n hc dX9_told_118 rfl 0 rfl ?_
          cases h
          exact x_iret hc dX9_told_119 hr hM
        · have h := ite_f s9 h
          by_cases s14 : p1 = 4
          · have h := ite_t s14 h
            refine x_tableIn (off := 117) (tgt := 120) hc dX9_told_3 (by rw [s14]; decide) (by rw [s14]; decide) (by rw [s14]; rfl) (by decide) ?_
            refine x_aload_n hc dX9_told_120 rfl 1 rfl ?_
            obtain ⟨q10, h10, h⟩ := bd_some h
            refine x_callVv (As := []) (st := []) (o := 0) hc dX9_told_121 cv_X9_lay lk_RX9_145 (q_s hSH sm_0) rfl rfl (q_cn hSH (S_Mo_lay h10)) (by decide) (Nat.le_of_ble_eq_true rfl) ?_
            refine x_iconst hc dX9_told_124 kc_0 ?_
            refine x_istore_n (L2 := [(3, .int (0 : Int32)), (2, .int (0 : Int32)), (0, .ref 0), (1, .int p1)]) hc dX9_told_125 rfl (by decide) rfl ?_
            obtain ⟨e13, h13, h⟩ := bd_some h
            refine x_sub (S_Mo_told_L126 hc hSH q10 (v := ((0 : Int32), (0 : Int32))) h13 (fun x hx => ?_)) [2, 1, 0] rfl
            subst hx
            refine x_iload_n hc dX9_told_187 rfl 0 rfl ?_
            cases h
            exact x_iret hc dX9_told_188 hr hM
          · have h := ite_f s14 h
            refine x_tableOut (tgt := 189) hc dX9_told_3 (by have := lv_neT s1 (a := 0) (by decide); have := lv_neT s2 (a := 1) (by decide); have := lv_neT s5 (a := 2) (by decide); have := lv_neT s9 (a := 3) (by decide); have := lv_neT s14 (a := 4) (by decide); omega) (by decide) ?_
            refine x_bipush hc dX9_told_189 kb_m2 ?_
            cases h
            exact x_iret hc dX9_told_191 hr hM

def Mo_way (p1 : Int32) (p2 : Int32) (p3 : Int32) (M : QM) : Option (Int32 × QM) :=
  Option.bind (Mo_areNodes p1 p2 M) (fun q1 => (if q1 = 0 then some ((-1 : Int32), M) else Option.bind (Mo_lay M) (fun q2 => ck (inb (((60 : Int32) * p1) + p2) 3600) ((if (q2.1 11 (((60 : Int32) * p1) + p2).toNatClampNeg) = 0 then (if p3 = (-1 : Int32) then ck (inb (((60 : Int32) * p1) + p2) 3600) (some (q2.1 12 (((60 : Int32) * p1) + p2).toNatClampNeg, q2)) else Option.bind (Mo_follow p1 p2 p3 q2) (fun q4 => some (q4.1, q4.2))) else some ((-6 : Int32), q2))))))

set_option maxRecDepth 20000 in
set_option maxHeartbeats 2000000 in
theorem S_Mo_way  {p1 : Int32} {p2 : Int32} {p3 : Int32} {M : QM} {res : Int32 × QM} (h : Mo_way p1 p2 p3 M = some res) : Cn yX9_way cX9_way 4 (some .int) 3 SHM [.ref 0, .int p1, .int p2, .int p3] M (some (.int res.1)) res.2 := by
  refine q_enter (L := [(0, .ref 0), (1, .int p1), (2, .int p2), (3, .int p3)]) (by decide) (Nat.le_of_ble_eq_true rfl) rfl ?_
  intro C hc hSH hr hM
  have hc : OKX C RX9 cX9_way 4 3 (some .int) := hc
  unfold Mo_way at h
  refine x_aload_n hc dX9_way_0 rfl 0 rfl ?_
  refine x_iload_n hc dX9_way_1 rfl 1 rfl ?_
  refine x_iload_n hc dX9_way_2 rfl 2 rfl ?_
  obtain ⟨q1, h1, h⟩ := bd_some h
  refine x_callVi (As := [.int p1, .int p2]) (st := []) (o := 0) hc dX9_way_3 cv_X9_areNodes lk_RX9_142 (q_s hSH sm_0) rfl rfl (q_cn hSH (S_Mo_areNodes h1)) (by decide) (Nat.le_of_ble_eq_true rfl) ?_
  refine x_if_ne (tgt := 11) hc dX9_way_6 (by decide) (fun hb => ?_) (fun hb => ?_)
  · have h := ite_f hb h
    refine x_aload_n hc dX9_way_11 rfl 0 rfl ?_
    obtain ⟨q2, h2, h⟩ := bd_some h
    refine x_callVv (As := []) (st := []) (o := 0) hc dX9_way_12 cv_X9_lay lk_RX9_145 (q_s hSH sm_0) rfl rfl (q_cn hSH (S_Mo_lay h2)) (by decide) (Nat.le_of_ble_eq_true rfl) ?_
    refine x_aload_n hc dX9_way_15 rfl 0 rfl ?_
    refine x_getR hc dX9_way_16 fl_RX9_40 (q_s hSH sm_0) rfl ?_
    refine x_bipush hc dX9_way_19 kb_60 ?_
    refine x_iload_n hc dX9_way_21 rfl 1 rfl ?_
    refine x_imul hc dX9_way_22 ?_
    refine x_iload_n hc dX9_way_23 rfl 2 rfl ?_
    refine x_iadd hc dX9_way_24 ?_
    obtain ⟨b3, h⟩ := ck_some h
    refine x_zald hc dX9_way_25 (q_s hSH sm_11) (inb_in b3) ?_
    refine x_if_eq (tgt := 32) hc dX9_way_26 (by decide) (fun hb => ?_) (fun hb => ?_)
    · have h := ite_t hb h
      refine x_iload_n hc dX9_way_32 rfl 3 rfl ?_
      refine x_iconst hc dX9_way_33 kc_m1 ?_
      refine x_icmp_ne (tgt := 51) hc dX9_way_34 (by decide) (fun hb => ?_) (fun hb => ?_)
      · have h := ite_f hb h
        refine x_aload_n hc dX9_way_51 rfl 0 rfl ?_
        refine x_iload_n hc dX9_way_52 rfl 1 rfl ?_
        refine x_iload_n hc dX9_way_53 rfl 2 rfl ?_
        refine x_iload_n hc dX9_way_54 rfl 3 rfl ?_
        obtain ⟨q4, h4, h⟩ := bd_some h
        refine x_callVi (As := [.int p1, .int p2, .int p3]) (st := []) (o := 0) hc dX9_way_55 cv_X9_follow lk_RX9_151 (q_s hSH sm_0) rfl rfl (q_cn hSH (S_Mo_follow h4)) (by decide) (Nat.le_of_ble_eq_true rfl) ?_
        cases h
        exact x_iret hc dX9_way_58 hr hM
      · have h := ite_t hb h
        refine x_aload_n hc dX9_way_37 rfl 0 rfl ?_
        refine x_getR hc dX9_way_38 fl_RX9_44 (q_s hSH sm_0) rfl ?_
        refine x_bipush hc dX9_way_41 kb_60 ?_
        refine x_iload_n hc dX9_way_43 rfl 1 rfl ?_
        refine x_imul hc dX9_way_44 ?_
        refine x_iload_n hc dX9_way_45 rfl 2 rfl ?_
        refine x_iadd hc dX9_way_46 ?_
        obtain ⟨b5, h⟩ := ck_some h
        refine x_iald hc dX9_way_47 (q_s hSH sm_12) (inb_in b5) ?_
        refine x_goto (tgt := 58) hc dX9_way_48 (by decide) ?_
        cases h
        exact x_iret hc dX9_way_58 hr hM
    · have h := ite_f hb h
      refine x_bipush hc dX9_way_29 kb_m6 ?_
      cases h
      exact x_iret hc dX9_way_31 hr hM
  · have h := ite_t hb h
    refine x_iconst hc dX9_way_9 kc_m1 ?_
    cases h
    exact x_iret hc dX9_way_10 hr hM

def Mo_wipe (M : QM) : Option (Int32 × QM) :=
  some (M.1 0 0, u_i M 0 0 (0 : Int32))

set_option maxRecDepth 20000 in
set_option maxHeartbeats 2000000 in
theorem S_Mo_wipe  {M : QM} {res : Int32 × QM} (h : Mo_wipe M = some res) : Cn yX9_wipe cX9_wipe 2 (some .int) 0 SHM [.ref 0] M (some (.int res.1)) res.2 := by
  refine q_enter (L := [(0, .ref 0)]) (by decide) (Nat.le_of_ble_eq_true rfl) rfl ?_
  intro C hc hSH hr hM
  have hc : OKX C RX9 cX9_wipe 2 0 (some .int) := hc
  unfold Mo_wipe at h
  refine x_aload_n hc dX9_wipe_0 rfl 0 rfl ?_
  refine x_getI hc dX9_wipe_1 fl_RX9_88 (q_s hSH sm_0) rfl ?_
  refine x_istore_n (L2 := [(1, .int (M.1 0 0)), (0, .ref 0)]) hc dX9_wipe_4 rfl (by decide) rfl ?_
  refine x_aload_n hc dX9_wipe_5 rfl 1 rfl ?_
  refine x_iconst hc dX9_wipe_6 kc_0 ?_
  refine x_putI hc dX9_wipe_7 fl_RX9_88 (fw_9_0 _) (q_s hSH sm_0) rfl ?_
  refine x_iload_n hc dX9_wipe_10 rfl 0 rfl ?_
  cases h
  exact x_iret hc dX9_wipe_11 hr hM

