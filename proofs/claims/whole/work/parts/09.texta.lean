def Te_nodeOf_B4 (M : QM) (v : Int32 × Int32) : Option (((Int32) ⊕ (Unit)) ⊕ (Int32 × Int32)) :=
  (if (8 : Int32) < v.2 then some (.inl (.inr ())) else (if (1000 : Int32) ≤ v.1 then Option.bind (Dr_nameAt (v.1 - (1000 : Int32)) M) (fun q1 => some (.inr (q1, v.2 + (1 : Int32)))) else some (.inl (.inl v.1))))

set_option maxRecDepth 20000 in
set_option maxHeartbeats 2000000 in
theorem S_Te_nodeOf_B4 {C : QC} (hc : OKX C RX6 cX6_nodeOf 4 1 (some .int)) (hSH : q_SH C = SHK) (M : QM) (v : Int32 × Int32) {res : ((Int32) ⊕ (Unit)) ⊕ (Int32 × Int32)} (h : Te_nodeOf_B4 M v = some res) (kr : ∀ x : Int32, res = .inl (.inl x) → q_r C = some (.int x) ∧ q_M C = M) (ke : ∀ x : Unit, res = .inl (.inr x) → WX C 4 38 [] [] M) (kb : ∀ x : Int32 × Int32, res = .inr x → WX C 4 4 [(0, .ref 8), (2, .int x.1), (3, .int x.2)] [] M) : WX C 4 4 [(0, .ref 8), (2, .int v.1), (3, .int v.2)] [] M := by
  unfold Te_nodeOf_B4 at h
  refine x_iload_n hc dX6_nodeOf_4 rfl 2 rfl ?_
  refine x_bipush hc dX6_nodeOf_5 kb_8 ?_
  refine x_icmp_gt (tgt := 38) hc dX6_nodeOf_7 (by decide) (fun hb => ?_) (fun hb => ?_)
  · have h := ite_t hb h
    cases h
    exact x_sub (ke () rfl) [] rfl
  · have h := ite_f hb h
    refine x_iload_n hc dX6_nodeOf_10 rfl 1 rfl ?_
    refine x_sipush hc dX6_nodeOf_11 ks_1000 ?_
    refine x_icmp_ge (tgt := 19) hc dX6_nodeOf_14 (by decide) (fun hb => ?_) (fun hb => ?_)
    · have h := ite_t hb h
      refine x_aload_n hc dX6_nodeOf_19 rfl 0 rfl ?_
      refine x_getR hc dX6_nodeOf_20 fl_RX6_20 (q_s hSH sh_8) rfl ?_
      refine x_iload_n hc dX6_nodeOf_23 rfl 1 rfl ?_
      refine x_sipush hc dX6_nodeOf_24 ks_1000 ?_
      refine x_isub hc dX6_nodeOf_27 ?_
      obtain ⟨q1, h1, h⟩ := bd_some h
      refine x_callVi (As := [.int (v.1 - (1000 : Int32))]) (st := []) (o := 9) hc dX6_nodeOf_28 cv_X3_nameAt lk_RX6_51 (q_s hSH sh_9) rfl rfl (q_cn hSH (S_Dr_nameAt h1)) (by decide) (Nat.le_of_ble_eq_true rfl) ?_
      refine x_istore_n (L2 := [(2, .int q1), (0, .ref 8), (3, .int v.2)]) hc dX6_nodeOf_31 rfl (by decide) rfl ?_
      refine x_iinc (v := v.2 + (1 : Int32)) (L2 := [(3, .int (v.2 + (1 : Int32))), (2, .int q1), (0, .ref 8)]) hc dX6_nodeOf_32 2 rfl (by rw [kc_1]) (by decide) rfl ?_
      refine x_goto (tgt := 4) hc dX6_nodeOf_35 (by decide) ?_
      cases h
      exact x_sub (kb (q1, v.2 + (1 : Int32)) rfl) [2, 1, 0] rfl
    · have h := ite_f hb h
      refine x_iload_n hc dX6_nodeOf_17 rfl 1 rfl ?_
      cases h
      exact x_iret hc dX6_nodeOf_18 (kr _ rfl).1 (kr _ rfl).2

theorem S_Te_nodeOf_L4 {C : QC} (hc : OKX C RX6 cX6_nodeOf 4 1 (some .int)) (hSH : q_SH C = SHK) (M : QM) {n : Nat} {v : Int32 × Int32} {e : (Int32) ⊕ (Unit)} (h : iter (Te_nodeOf_B4 M) n v = some e) (kr : ∀ x : Int32, e = .inl x → q_r C = some (.int x) ∧ q_M C = M) (ke : ∀ x : Unit, e = .inr x → WX C 4 38 [] [] M) : WX C 4 4 [(0, .ref 8), (2, .int v.1), (3, .int v.2)] [] M :=
  iter_W (Wh := fun v => WX C 4 4 [(0, .ref 8), (2, .int v.1), (3, .int v.2)] [] M) (fun a res hB k1 k2 => S_Te_nodeOf_B4 hc hSH M a hB (fun x hx => kr x (k1 _ hx).symm) (fun x hx => ke x (k1 _ hx).symm) k2) n v h

def Te_nodeOf (p1 : Int32) (M : QM) : Option (Int32) :=
  Option.bind (iter (Te_nodeOf_B4 M) FU (p1, (0 : Int32))) (fun e2 => Sum.elim (fun r2 => some r2) (fun y2 => some (-6 : Int32)) e2)

set_option maxRecDepth 20000 in
set_option maxHeartbeats 2000000 in
theorem S_Te_nodeOf  {p1 : Int32} {M : QM} {res : Int32} (h : Te_nodeOf p1 M = some res) : Cn yX6_nodeOf cX6_nodeOf 4 (some .int) 1 SHK [.ref 8, .int p1] M (some (.int res)) M := by
  refine q_enter (L := [(0, .ref 8), (1, .int p1)]) (by decide) (Nat.le_of_ble_eq_true rfl) rfl ?_
  intro C hc hSH hr hM
  have hc : OKX C RX6 cX6_nodeOf 4 1 (some .int) := hc
  unfold Te_nodeOf at h
  refine x_iload_n hc dX6_nodeOf_0 rfl 1 rfl ?_
  refine x_istore_n (L2 := [(2, .int p1), (0, .ref 8), (1, .int p1)]) hc dX6_nodeOf_1 rfl (by decide) rfl ?_
  refine x_iconst hc dX6_nodeOf_2 kc_0 ?_
  refine x_istore_n (L2 := [(3, .int (0 : Int32)), (2, .int p1), (0, .ref 8), (1, .int p1)]) hc dX6_nodeOf_3 rfl (by decide) rfl ?_
  obtain ⟨e2, h2, h⟩ := bd_some h
  refine x_sub (S_Te_nodeOf_L4 hc hSH M (v := (p1, (0 : Int32))) h2 (fun r2 hx => ?_) (fun y2 hx => ?_)) [2, 1, 0] rfl
  · subst hx
    have h := sum_l h
    cases h
    exact ⟨hr, hM⟩
  · subst hx
    have h := sum_r h
    refine x_bipush hc dX6_nodeOf_38 kb_m6 ?_
    cases h
    exact x_iret hc dX6_nodeOf_40 hr hM

def Te_allNamesComeToNodes_B2 (M : QM) (v : Int32) : Option (((Int32) ⊕ (Unit)) ⊕ (Int32)) :=
  (if (8 : Int32) ≤ v then some (.inl (.inr ())) else Option.bind (Dr_nameAt v M) (fun q1 => (if q1 = (-6 : Int32) then some (.inr (v + (1 : Int32))) else Option.bind (Dr_nameAt v M) (fun q2 => Option.bind (Te_nodeOf q2 M) (fun q3 => (if q3 = (-6 : Int32) then some (.inl (.inl (0 : Int32))) else some (.inr (v + (1 : Int32)))))))))

set_option maxRecDepth 20000 in
set_option maxHeartbeats 2000000 in
theorem S_Te_allNamesComeToNodes_B2 {C : QC} (hc : OKX C RX6 cX6_allNamesComeToNodes 4 2 (some .boolean)) (hSH : q_SH C = SHK) (M : QM) (v : Int32) {res : ((Int32) ⊕ (Unit)) ⊕ (Int32)} (h : Te_allNamesComeToNodes_B2 M v = some res) (kr : ∀ x : Int32, res = .inl (.inl x) → q_r C = some (.int x) ∧ q_M C = M) (ke : ∀ x : Unit, res = .inl (.inr x) → WX C 4 46 [(0, .ref 8)] [] M) (kb : ∀ x : Int32, res = .inr x → WX C 4 2 [(0, .ref 8), (1, .int x)] [] M) : WX C 4 2 [(0, .ref 8), (1, .int v)] [] M := by
  unfold Te_allNamesComeToNodes_B2 at h
  refine x_iload_n hc dX6_allNamesComeToNodes_2 rfl 1 rfl ?_
  refine x_bipush hc dX6_allNamesComeToNodes_3 kb_8 ?_
  refine x_icmp_ge (tgt := 46) hc dX6_allNamesComeToNodes_5 (by decide) (fun hb => ?_) (fun hb => ?_)
  · have h := ite_t hb h
    cases h
    exact x_sub (ke () rfl) [0] rfl
  · have h := ite_f hb h
    refine x_aload_n hc dX6_allNamesComeToNodes_8 rfl 0 rfl ?_
    refine x_getR hc dX6_allNamesComeToNodes_9 fl_RX6_20 (q_s hSH sh_8) rfl ?_
    refine x_iload_n hc dX6_allNamesComeToNodes_12 rfl 1 rfl ?_
    obtain ⟨q1, h1, h⟩ := bd_some h
    refine x_callVi (As := [.int v]) (st := []) (o := 9) hc dX6_allNamesComeToNodes_13 cv_X3_nameAt lk_RX6_51 (q_s hSH sh_9) rfl rfl (q_cn hSH (S_Dr_nameAt h1)) (by decide) (Nat.le_of_ble_eq_true rfl) ?_
    refine x_bipush hc dX6_allNamesComeToNodes_16 kb_m6 ?_
    refine x_icmp_eq (tgt := 40) hc dX6_allNamesComeToNodes_18 (by decide) (fun hb => ?_) (fun hb => ?_)
    · have h := ite_t hb h
      refine x_iinc (v := v + (1 : Int32)) (L2 := [(1, .int (v + (1 : Int32))), (0, .ref 8)]) hc dX6_allNamesComeToNodes_40 1 rfl (by rw [kc_1]) (by decide) rfl ?_
      refine x_goto (tgt := 2) hc dX6_allNamesComeToNodes_43 (by decide) ?_
      cases h
      exact x_sub (kb (v + (1 : Int32)) rfl) [1, 0] rfl
    · have h := ite_f hb h
      refine x_aload_n hc dX6_allNamesComeToNodes_21 rfl 0 rfl ?_
      refine x_aload_n hc dX6_allNamesComeToNodes_22 rfl 0 rfl ?_
      refine x_getR hc dX6_allNamesComeToNodes_23 fl_RX6_20 (q_s hSH sh_8) rfl ?_
      refine x_iload_n hc dX6_allNamesComeToNodes_26 rfl 1 rfl ?_
      obtain ⟨q2, h2, h⟩ := bd_some h
      refine x_callVi (As := [.int v]) (st := [.ref 8]) (o := 9) hc dX6_allNamesComeToNodes_27 cv_X3_nameAt lk_RX6_51 (q_s hSH sh_9) rfl rfl (q_cn hSH (S_Dr_nameAt h2)) (by decide) (Nat.le_of_ble_eq_true rfl) ?_
      obtain ⟨q3, h3, h⟩ := bd_some h
      refine x_callVi (As := [.int q2]) (st := []) (o := 8) hc dX6_allNamesComeToNodes_30 cv_X6_nodeOf lk_RX6_54 (q_s hSH sh_8) rfl rfl (q_cn hSH (S_Te_nodeOf h3)) (by decide) (Nat.le_of_ble_eq_true rfl) ?_
      refine x_bipush hc dX6_allNamesComeToNodes_33 kb_m6 ?_
      refine x_icmp_ne (tgt := 40) hc dX6_allNamesComeToNodes_35 (by decide) (fun hb => ?_) (fun hb => ?_)
      · have h := ite_f hb h
        refine x_iinc (v := v + (1 : Int32)) (L2 := [(1, .int (v + (1 : Int32))), (0, .ref 8)]) hc dX6_allNamesComeToNodes_40 1 rfl (by rw [kc_1]) (by decide) rfl ?_
        refine x_goto (tgt := 2) hc dX6_allNamesComeToNodes_43 (by decide) ?_
        cases h
        exact x_sub (kb (v + (1 : Int32)) rfl) [1, 0] rfl
      · have h := ite_t hb h
        refine x_iconst hc dX6_allNamesComeToNodes_38 kc_0 ?_
        cases h
        exact x_zret hc dX6_allNamesComeToNodes_39 nar_0 (kr _ rfl).1 (kr _ rfl).2

theorem S_Te_allNamesComeToNodes_L2 {C : QC} (hc : OKX C RX6 cX6_allNamesComeToNodes 4 2 (some .boolean)) (hSH : q_SH C = SHK) (M : QM) {n : Nat} {v : Int32} {e : (Int32) ⊕ (Unit)} (h : iter (Te_allNamesComeToNodes_B2 M) n v = some e) (kr : ∀ x : Int32, e = .inl x → q_r C = some (.int x) ∧ q_M C = M) (ke : ∀ x : Unit, e = .inr x → WX C 4 46 [(0, .ref 8)] [] M) : WX C 4 2 [(0, .ref 8), (1, .int v)] [] M :=
  iter_W (Wh := fun v => WX C 4 2 [(0, .ref 8), (1, .int v)] [] M) (fun a res hB k1 k2 => S_Te_allNamesComeToNodes_B2 hc hSH M a hB (fun x hx => kr x (k1 _ hx).symm) (fun x hx => ke x (k1 _ hx).symm) k2) n v h

def Te_allNamesComeToNodes_B61 (x1 : Int32) (M : QM) (v : Int32) : Option (((Int32) ⊕ (Unit)) ⊕ (Int32)) :=
  (if (8 : Int32) ≤ v then some (.inl (.inr ())) else Option.bind (Dr_partAt x1 v M) (fun q6 => (if q6 = (-6 : Int32) then some (.inr (v + (1 : Int32))) else Option.bind (Te_nodeOf q6 M) (fun q7 => (if q7 = (-6 : Int32) then some (.inl (.inl (0 : Int32))) else some (.inr (v + (1 : Int32))))))))

set_option maxRecDepth 20000 in
set_option maxHeartbeats 2000000 in
theorem S_Te_allNamesComeToNodes_B61 {C : QC} (hc : OKX C RX6 cX6_allNamesComeToNodes 4 2 (some .boolean)) (hSH : q_SH C = SHK) (x1 : Int32) (M : QM) (v : Int32) {res : ((Int32) ⊕ (Unit)) ⊕ (Int32)} (h : Te_allNamesComeToNodes_B61 x1 M v = some res) (kr : ∀ x : Int32, res = .inl (.inl x) → q_r C = some (.int x) ∧ q_M C = M) (ke : ∀ x : Unit, res = .inl (.inr x) → WX C 4 101 [(0, .ref 8), (1, .int x1)] [] M) (kb : ∀ x : Int32, res = .inr x → WX C 4 61 [(0, .ref 8), (1, .int x1), (2, .int x)] [] M) : WX C 4 61 [(0, .ref 8), (1, .int x1), (2, .int v)] [] M := by
  unfold Te_allNamesComeToNodes_B61 at h
  refine x_iload_n hc dX6_allNamesComeToNodes_61 rfl 2 rfl ?_
  refine x_bipush hc dX6_allNamesComeToNodes_62 kb_8 ?_
  refine x_icmp_ge (tgt := 101) hc dX6_allNamesComeToNodes_64 (by decide) (fun hb => ?_) (fun hb => ?_)
  · have h := ite_t hb h
    cases h
    exact x_sub (ke () rfl) [0, 1] rfl
  · have h := ite_f hb h
    refine x_aload_n hc dX6_allNamesComeToNodes_67 rfl 0 rfl ?_
    refine x_getR hc dX6_allNamesComeToNodes_68 fl_RX6_20 (q_s hSH sh_8) rfl ?_
    refine x_iload_n hc dX6_allNamesComeToNodes_71 rfl 1 rfl ?_
    refine x_iload_n hc dX6_allNamesComeToNodes_72 rfl 2 rfl ?_
    obtain ⟨q6, h6, h⟩ := bd_some h
    refine x_callVi (As := [.int x1, .int v]) (st := []) (o := 9) hc dX6_allNamesComeToNodes_73 cv_X3_partAt lk_RX6_57 (q_s hSH sh_9) rfl rfl (q_cn hSH (S_Dr_partAt h6)) (by decide) (Nat.le_of_ble_eq_true rfl) ?_
    refine x_istore_n (L2 := [(3, .int q6), (0, .ref 8), (1, .int x1), (2, .int v)]) hc dX6_allNamesComeToNodes_76 rfl (by decide) rfl ?_
    refine x_iload_n hc dX6_allNamesComeToNodes_77 rfl 0 rfl ?_
    refine x_bipush hc dX6_allNamesComeToNodes_78 kb_m6 ?_
    refine x_icmp_eq (tgt := 95) hc dX6_allNamesComeToNodes_80 (by decide) (fun hb => ?_) (fun hb => ?_)
    · have h := ite_t hb h
      refine x_iinc (v := v + (1 : Int32)) (L2 := [(2, .int (v + (1 : Int32))), (3, .int q6), (0, .ref 8), (1, .int x1)]) hc dX6_allNamesComeToNodes_95 3 rfl (by rw [kc_1]) (by decide) rfl ?_
      refine x_goto (tgt := 61) hc dX6_allNamesComeToNodes_98 (by decide) ?_
      cases h
      exact x_sub (kb (v + (1 : Int32)) rfl) [2, 3, 0] rfl
    · have h := ite_f hb h
      refine x_aload_n hc dX6_allNamesComeToNodes_83 rfl 1 rfl ?_
      refine x_iload_n hc dX6_allNamesComeToNodes_84 rfl 0 rfl ?_
      obtain ⟨q7, h7, h⟩ := bd_some h
      refine x_callVi (As := [.int q6]) (st := []) (o := 8) hc dX6_allNamesComeToNodes_85 cv_X6_nodeOf lk_RX6_54 (q_s hSH sh_8) rfl rfl (q_cn hSH (S_Te_nodeOf h7)) (by decide) (Nat.le_of_ble_eq_true rfl) ?_
      refine x_bipush hc dX6_allNamesComeToNodes_88 kb_m6 ?_
      refine x_icmp_ne (tgt := 95) hc dX6_allNamesComeToNodes_90 (by decide) (fun hb => ?_) (fun hb => ?_)
      · have h := ite_f hb h
        refine x_iinc (v := v + (1 : Int32)) (L2 := [(2, .int (v + (1 : Int32))), (3, .int q6), (0, .ref 8), (1, .int x1)]) hc dX6_allNamesComeToNodes_95 3 rfl (by rw [kc_1]) (by decide) rfl ?_
        refine x_goto (tgt := 61) hc dX6_allNamesComeToNodes_98 (by decide) ?_
        cases h
        exact x_sub (kb (v + (1 : Int32)) rfl) [2, 3, 0] rfl
      · have h := ite_t hb h
        refine x_iconst hc dX6_allNamesComeToNodes_93 kc_0 ?_
        cases h
        exact x_zret hc dX6_allNamesComeToNodes_94 nar_0 (kr _ rfl).1 (kr _ rfl).2

theorem S_Te_allNamesComeToNodes_L61 {C : QC} (hc : OKX C RX6 cX6_allNamesComeToNodes 4 2 (some .boolean)) (hSH : q_SH C = SHK) (x1 : Int32) (M : QM) {n : Nat} {v : Int32} {e : (Int32) ⊕ (Unit)} (h : iter (Te_allNamesComeToNodes_B61 x1 M) n v = some e) (kr : ∀ x : Int32, e = .inl x → q_r C = some (.int x) ∧ q_M C = M) (ke : ∀ x : Unit, e = .inr x → WX C 4 101 [(0, .ref 8), (1, .int x1)] [] M) : WX C 4 61 [(0, .ref 8), (1, .int x1), (2, .int v)] [] M :=
  iter_W (Wh := fun v => WX C 4 61 [(0, .ref 8), (1, .int x1), (2, .int v)] [] M) (fun a res hB k1 k2 => S_Te_allNamesComeToNodes_B61 hc hSH x1 M a hB (fun x hx => kr x (k1 _ hx).symm) (fun x hx => ke x (k1 _ hx).symm) k2) n v h

def Te_allNamesComeToNodes_B48 (M : QM) (v : Int32) : Option (((Int32) ⊕ (Unit)) ⊕ (Int32)) :=
  Option.bind (Dr_nodes M) (fun q5 => (if q5 ≤ v then some (.inl (.inr ())) else Option.bind (iter (Te_allNamesComeToNodes_B61 v M) FU (0 : Int32)) (fun e8 => Sum.elim (fun r8 => some (.inl (.inl r8))) (fun y8 => some (.inr (v + (1 : Int32)))) e8)))

set_option maxRecDepth 20000 in
set_option maxHeartbeats 2000000 in
theorem S_Te_allNamesComeToNodes_B48 {C : QC} (hc : OKX C RX6 cX6_allNamesComeToNodes 4 2 (some .boolean)) (hSH : q_SH C = SHK) (M : QM) (v : Int32) {res : ((Int32) ⊕ (Unit)) ⊕ (Int32)} (h : Te_allNamesComeToNodes_B48 M v = some res) (kr : ∀ x : Int32, res = .inl (.inl x) → q_r C = some (.int x) ∧ q_M C = M) (ke : ∀ x : Unit, res = .inl (.inr x) → WX C 4 107 [] [] M) (kb : ∀ x : Int32, res = .inr x → WX C 4 48 [(0, .ref 8), (1, .int x)] [] M) : WX C 4 48 [(0, .ref 8), (1, .int v)] [] M := by
  unfold Te_allNamesComeToNodes_B48 at h
  refine x_iload_n hc dX6_allNamesComeToNodes_48 rfl 1 rfl ?_
  refine x_aload_n hc dX6_allNamesComeToNodes_49 rfl 0 rfl ?_
  refine x_getR hc dX6_allNamesComeToNodes_50 fl_RX6_20 (q_s hSH sh_8) rfl ?_
  obtain ⟨q5, h5, h⟩ := bd_some h
  refine x_callVi (As := []) (st := [.int v]) (o := 9) hc dX6_allNamesComeToNodes_53 cv_X3_nodes lk_RX6_48 (q_s hSH sh_9) rfl rfl (q_cn hSH (S_Dr_nodes h5)) (by decide) (Nat.le_of_ble_eq_true rfl) ?_
  refine x_icmp_ge (tgt := 107) hc dX6_allNamesComeToNodes_56 (by decide) (fun hb => ?_) (fun hb => ?_)
  · have h := ite_t hb h
    cases h
    exact x_sub (ke () rfl) [] rfl
  · have h := ite_f hb h
    refine x_iconst hc dX6_allNamesComeToNodes_59 kc_0 ?_
    refine x_istore_n (L2 := [(2, .int (0 : Int32)), (0, .ref 8), (1, .int v)]) hc dX6_allNamesComeToNodes_60 rfl (by decide) rfl ?_
    obtain ⟨e8, h8, h⟩ := bd_some h
    refine x_sub (S_Te_allNamesComeToNodes_L61 hc hSH v M (v := (0 : Int32)) h8 (fun r8 hx => ?_) (fun y8 hx => ?_)) [1, 2, 0] rfl
    · subst hx
      have h := sum_l h
      cases h
      exact kr _ rfl
    · subst hx
      have h := sum_r h
      refine x_iinc (v := v + (1 : Int32)) (L2 := [(1, .int (v + (1 : Int32))), (0, .ref 8)]) hc dX6_allNamesComeToNodes_101 1 rfl (by rw [kc_1]) (by decide) rfl ?_
      refine x_goto (tgt := 48) hc dX6_allNamesComeToNodes_104 (by decide) ?_
      cases h
      exact x_sub (kb (v + (1 : Int32)) rfl) [1, 0] rfl

theorem S_Te_allNamesComeToNodes_L48 {C : QC} (hc : OKX C RX6 cX6_allNamesComeToNodes 4 2 (some .boolean)) (hSH : q_SH C = SHK) (M : QM) {n : Nat} {v : Int32} {e : (Int32) ⊕ (Unit)} (h : iter (Te_allNamesComeToNodes_B48 M) n v = some e) (kr : ∀ x : Int32, e = .inl x → q_r C = some (.int x) ∧ q_M C = M) (ke : ∀ x : Unit, e = .inr x → WX C 4 107 [] [] M) : WX C 4 48 [(0, .ref 8), (1, .int v)] [] M :=
  iter_W (Wh := fun v => WX C 4 48 [(0, .ref 8), (1, .int v)] [] M) (fun a res hB k1 k2 => S_Te_allNamesComeToNodes_B48 hc hSH M a hB (fun x hx => kr x (k1 _ hx).symm) (fun x hx => ke x (k1 _ hx).symm) k2) n v h

def Te_allNamesComeToNodes (M : QM) : Option (Int32) :=
  Option.bind (iter (Te_allNamesComeToNodes_B2 M) FU (0 : Int32)) (fun e4 => Sum.elim (fun r4 => some r4) (fun y4 => Option.bind (iter (Te_allNamesComeToNodes_B48 M) FU (0 : Int32)) (fun e9 => Sum.elim (fun r9 => some r9) (fun y9 => some (1 : Int32)) e9)) e4)

set_option maxRecDepth 20000 in
set_option maxHeartbeats 2000000 in
theorem S_Te_allNamesComeToNodes  {M : QM} {res : Int32} (h : Te_allNamesComeToNodes M = some res) : Cn yX6_allNamesComeToNodes cX6_allNamesComeToNodes 4 (some .boolean) 2 SHK [.ref 8] M (some (.int res)) M := by
  refine q_enter (L := [(0, .ref 8)]) (by decide) (Nat.le_of_ble_eq_true rfl) rfl ?_
  intro C hc hSH hr hM
  have hc : OKX C RX6 cX6_allNamesComeToNodes 4 2 (some .boolean) := hc
  unfold Te_allNamesComeToNodes at h
  refine x_iconst hc dX6_allNamesComeToNodes_0 kc_0 ?_
  refine x_istore_n (L2 := [(1, .int (0 : Int32)), (0, .ref 8)]) hc dX6_allNamesComeToNodes_1 rfl (by decide) rfl ?_
  obtain ⟨e4, h4, h⟩ := bd_some h
  refine x_sub (S_Te_allNamesComeToNodes_L2 hc hSH M (v := (0 : Int32)) h4 (fun r4 hx => ?_) (fun y4 hx => ?_)) [1, 0] rfl
  · subst hx
    have h := sum_l h
    cases h
    exact ⟨hr, hM⟩
  · subst hx
    have h := sum_r h
    refine x_iconst hc dX6_allNamesComeToNodes_46 kc_0 ?_
    refine x_istore_n (L2 := [(1, .int (0 : Int32)), (0, .ref 8)]) hc dX6_allNamesComeToNodes_47 rfl (by decide) rfl ?_
    obtain ⟨e9, h9, h⟩ := bd_some h
    refine x_sub (S_Te_allNamesComeToNodes_L48 hc hSH M (v := (0 : Int32)) h9 (fun r9 hx => ?_) (fun y9 hx => ?_)) [1, 0] rfl
    · subst hx
      have h := sum_l h
      cases h
      exact ⟨hr, hM⟩
    · subst hx
      have h := sum_r h
      refine x_iconst hc dX6_allNamesComeToNodes_107 kc_1 ?_
      cases h
      exact x_zret hc dX6_allNamesComeToNodes_108 nar_1 hr hM

def Te_copyInto_B33 (x2 : Int32) (x3 : Int32) (v : Int32 × QM) : Option ((QM) ⊕ (Int32 × QM)) :=
  (if (8 : Int32) ≤ v.1 then some (.inl v.2) else Option.bind (Dr_partAt x2 v.1 v.2) (fun q5 => (if q5 = (-6 : Int32) then some (.inr (v.1 + (1 : Int32), v.2)) else Option.bind (Te_nodeOf q5 v.2) (fun q6 => Option.bind (Ne_setPart x3 v.1 q6 v.2) (fun q7 => some (.inr (v.1 + (1 : Int32), q7)))))))

set_option maxRecDepth 20000 in
set_option maxHeartbeats 2000000 in
theorem S_Te_copyInto_B33 {C : QC} (hc : OKX C RX6 cX6_copyInto 6 2 none) (hSH : q_SH C = SHK) (x2 : Int32) (x3 : Int32) (v : Int32 × QM) {res : (QM) ⊕ (Int32 × QM)} (h : Te_copyInto_B33 x2 x3 v = some res) (ke : ∀ x : QM, res = .inl x → WX C 6 78 [(0, .ref 8), (1, .ref 3), (2, .int x2)] [] x) (kb : ∀ x : Int32 × QM, res = .inr x → WX C 6 33 [(0, .ref 8), (1, .ref 3), (2, .int x2), (3, .int x3), (4, .int x.1)] [] x.2) : WX C 6 33 [(0, .ref 8), (1, .ref 3), (2, .int x2), (3, .int x3), (4, .int v.1)] [] v.2 := by
  unfold Te_copyInto_B33 at h
  refine x_iload hc dX6_copyInto_33 4 rfl ?_
  refine x_bipush hc dX6_copyInto_35 kb_8 ?_
  refine x_icmp_ge (tgt := 78) hc dX6_copyInto_37 (by decide) (fun hb => ?_) (fun hb => ?_)
  · have h := ite_t hb h
    cases h
    exact x_sub (ke v.2 rfl) [0, 1, 2] rfl
  · have h := ite_f hb h
    refine x_aload_n hc dX6_copyInto_40 rfl 0 rfl ?_
    refine x_getR hc dX6_copyInto_41 fl_RX6_20 (q_s hSH sh_8) rfl ?_
    refine x_iload_n hc dX6_copyInto_44 rfl 2 rfl ?_
    refine x_iload hc dX6_copyInto_45 4 rfl ?_
    obtain ⟨q5, h5, h⟩ := bd_some h
    refine x_callVi (As := [.int x2, .int v.1]) (st := []) (o := 9) hc dX6_copyInto_47 cv_X3_partAt lk_RX6_57 (q_s hSH sh_9) rfl rfl (q_cn hSH (S_Dr_partAt h5)) (by decide) (Nat.le_of_ble_eq_true rfl) ?_
    refine x_istore (L2 := [(5, .int q5), (0, .ref 8), (1, .ref 3), (2, .int x2), (3, .int x3), (4, .int v.1)]) hc dX6_copyInto_50 (by decide) rfl ?_
    refine x_iload hc dX6_copyInto_52 0 rfl ?_
    refine x_bipush hc dX6_copyInto_54 kb_m6 ?_
    refine x_icmp_eq (tgt := 72) hc dX6_copyInto_56 (by decide) (fun hb => ?_) (fun hb => ?_)
    · have h := ite_t hb h
      refine x_iinc (v := v.1 + (1 : Int32)) (L2 := [(4, .int (v.1 + (1 : Int32))), (5, .int q5), (0, .ref 8), (1, .ref 3), (2, .int x2), (3, .int x3)]) hc dX6_copyInto_72 5 rfl (by rw [kc_1]) (by decide) rfl ?_
      refine x_goto (tgt := 33) hc dX6_copyInto_75 (by decide) ?_
      cases h
      exact x_sub (kb (v.1 + (1 : Int32), v.2) rfl) [2, 3, 4, 5, 0] rfl
    · have h := ite_f hb h
      refine x_aload_n hc dX6_copyInto_59 rfl 2 rfl ?_
      refine x_iload_n hc dX6_copyInto_60 rfl 4 rfl ?_
      refine x_iload hc dX6_copyInto_61 5 rfl ?_
      refine x_aload_n hc dX6_copyInto_63 rfl 1 rfl ?_
      refine x_iload hc dX6_copyInto_64 0 rfl ?_
      obtain ⟨q6, h6, h⟩ := bd_some h
      refine x_callVi (As := [.int q5]) (st := [.int v.1, .int x3, .ref 3]) (o := 8) hc dX6_copyInto_66 cv_X6_nodeOf lk_RX6_54 (q_s hSH sh_8) rfl rfl (q_cn hSH (S_Te_nodeOf h6)) (by decide) (Nat.le_of_ble_eq_true rfl) ?_
      obtain ⟨q7, h7, h⟩ := bd_some h
      refine x_callVv (As := [.int x3, .int v.1, .int q6]) (st := []) (o := 3) hc dX6_copyInto_69 cv_X3_setPart lk_RX6_67 (q_s hSH sh_3) rfl rfl (q_cn hSH (S_Ne_setPart h7)) (by decide) (Nat.le_of_ble_eq_true rfl) ?_
      refine x_iinc (v := v.1 + (1 : Int32)) (L2 := [(4, .int (v.1 + (1 : Int32))), (5, .int q5), (0, .ref 8), (1, .ref 3), (2, .int x2), (3, .int x3)]) hc dX6_copyInto_72 5 rfl (by rw [kc_1]) (by decide) rfl ?_
      refine x_goto (tgt := 33) hc dX6_copyInto_75 (by decide) ?_
      cases h
      exact x_sub (kb (v.1 + (1 : Int32), q7) rfl) [2, 3, 4, 5, 0] rfl

theorem S_Te_copyInto_L33 {C : QC} (hc : OKX C RX6 cX6_copyInto 6 2 none) (hSH : q_SH C = SHK) (x2 : Int32) (x3 : Int32) {n : Nat} {v : Int32 × QM} {e : QM} (h : iter (Te_copyInto_B33 x2 x3) n v = some e) (ke : ∀ x : QM, e = x → WX C 6 78 [(0, .ref 8), (1, .ref 3), (2, .int x2)] [] x) : WX C 6 33 [(0, .ref 8), (1, .ref 3), (2, .int x2), (3, .int x3), (4, .int v.1)] [] v.2 :=
  iter_W (Wh := fun v => WX C 6 33 [(0, .ref 8), (1, .ref 3), (2, .int x2), (3, .int x3), (4, .int v.1)] [] v.2) (fun a res hB k1 k2 => S_Te_copyInto_B33 hc hSH x2 x3 a hB (fun x hx => ke x (k1 _ hx).symm) k2) n v h

def Te_copyInto_B6 (v : Int32 × QM) : Option ((QM) ⊕ (Int32 × QM)) :=
  Option.bind (Dr_nodes v.2) (fun q2 => (if q2 ≤ v.1 then some (.inl v.2) else Option.bind (Dr_signOf v.1 v.2) (fun q3 => Option.bind (Ne_addNode q3 v.2) (fun q4 => Option.bind (iter (Te_copyInto_B33 v.1 q4.1) FU ((0 : Int32), q4.2)) (fun e8 => some (.inr (v.1 + (1 : Int32), e8)))))))

set_option maxRecDepth 20000 in
set_option maxHeartbeats 2000000 in
theorem S_Te_copyInto_B6 {C : QC} (hc : OKX C RX6 cX6_copyInto 6 2 none) (hSH : q_SH C = SHK) (v : Int32 × QM) {res : (QM) ⊕ (Int32 × QM)} (h : Te_copyInto_B6 v = some res) (ke : ∀ x : QM, res = .inl x → WX C 6 84 [(0, .ref 8), (1, .ref 3)] [] x) (kb : ∀ x : Int32 × QM, res = .inr x → WX C 6 6 [(0, .ref 8), (1, .ref 3), (2, .int x.1)] [] x.2) : WX C 6 6 [(0, .ref 8), (1, .ref 3), (2, .int v.1)] [] v.2 := by
  unfold Te_copyInto_B6 at h
  refine x_iload_n hc dX6_copyInto_6 rfl 2 rfl ?_
  refine x_aload_n hc dX6_copyInto_7 rfl 0 rfl ?_
  refine x_getR hc dX6_copyInto_8 fl_RX6_20 (q_s hSH sh_8) rfl ?_
  obtain ⟨q2, h2, h⟩ := bd_some h
  refine x_callVi (As := []) (st := [.int v.1]) (o := 9) hc dX6_copyInto_11 cv_X3_nodes lk_RX6_48 (q_s hSH sh_9) rfl rfl (q_cn hSH (S_Dr_nodes h2)) (by decide) (Nat.le_of_ble_eq_true rfl) ?_
  refine x_icmp_ge (tgt := 84) hc dX6_copyInto_14 (by decide) (fun hb => ?_) (fun hb => ?_)
  · have h := ite_t hb h
    cases h
    exact x_sub (ke v.2 rfl) [0, 1] rfl
  · have h := ite_f hb h
    refine x_aload_n hc dX6_copyInto_17 rfl 1 rfl ?_
    refine x_aload_n hc dX6_copyInto_18 rfl 0 rfl ?_
    refine x_getR hc dX6_copyInto_19 fl_RX6_20 (q_s hSH sh_8) rfl ?_
    refine x_iload_n hc dX6_copyInto_22 rfl 2 rfl ?_
    obtain ⟨q3, h3, h⟩ := bd_some h
    refine x_callVi (As := [.int v.1]) (st := [.ref 3]) (o := 9) hc dX6_copyInto_23 cv_X3_signOf lk_RX6_61 (q_s hSH sh_9) rfl rfl (q_cn hSH (S_Dr_signOf h3)) (by decide) (Nat.le_of_ble_eq_true rfl) ?_
    obtain ⟨q4, h4, h⟩ := bd_some h
    refine x_callVi (As := [.int q3]) (st := []) (o := 3) hc dX6_copyInto_26 cv_X3_addNode lk_RX6_64 (q_s hSH sh_3) rfl rfl (q_cn hSH (S_Ne_addNode h4)) (by decide) (Nat.le_of_ble_eq_true rfl) ?_
    refine x_istore_n (L2 := [(3, .int q4.1), (0, .ref 8), (1, .ref 3), (2, .int v.1)]) hc dX6_copyInto_29 rfl (by decide) rfl ?_
    refine x_iconst hc dX6_copyInto_30 kc_0 ?_
    refine x_istore (L2 := [(4, .int (0 : Int32)), (3, .int q4.1), (0, .ref 8), (1, .ref 3), (2, .int v.1)]) hc dX6_copyInto_31 (by decide) rfl ?_
    obtain ⟨e8, h8, h⟩ := bd_some h
    refine x_sub (S_Te_copyInto_L33 hc hSH v.1 q4.1 (v := ((0 : Int32), q4.2)) h8 (fun x hx => ?_)) [2, 3, 4, 1, 0] rfl
    subst hx
    refine x_iinc (v := v.1 + (1 : Int32)) (L2 := [(2, .int (v.1 + (1 : Int32))), (0, .ref 8), (1, .ref 3)]) hc dX6_copyInto_78 2 rfl (by rw [kc_1]) (by decide) rfl ?_
    refine x_goto (tgt := 6) hc dX6_copyInto_81 (by decide) ?_
    cases h
    exact x_sub (kb (v.1 + (1 : Int32), e8) rfl) [1, 2, 0] rfl

theorem S_Te_copyInto_L6 {C : QC} (hc : OKX C RX6 cX6_copyInto 6 2 none) (hSH : q_SH C = SHK) {n : Nat} {v : Int32 × QM} {e : QM} (h : iter (Te_copyInto_B6) n v = some e) (ke : ∀ x : QM, e = x → WX C 6 84 [(0, .ref 8), (1, .ref 3)] [] x) : WX C 6 6 [(0, .ref 8), (1, .ref 3), (2, .int v.1)] [] v.2 :=
  iter_W (Wh := fun v => WX C 6 6 [(0, .ref 8), (1, .ref 3), (2, .int v.1)] [] v.2) (fun a res hB k1 k2 => S_Te_copyInto_B6 hc hSH a hB (fun x hx => ke x (k1 _ hx).symm) k2) n v h

def Te_copyInto_B86 (v : Int32 × QM) : Option ((QM) ⊕ (Int32 × QM)) :=
  (if (8 : Int32) ≤ v.1 then some (.inl v.2) else Option.bind (Dr_nameAt v.1 v.2) (fun q10 => Option.bind (Te_nodeOf q10 v.2) (fun q11 => Option.bind (Ne_setName v.1 q11 v.2) (fun q12 => some (.inr (v.1 + (1 : Int32), q12))))))

set_option maxRecDepth 20000 in
set_option maxHeartbeats 2000000 in
theorem S_Te_copyInto_B86 {C : QC} (hc : OKX C RX6 cX6_copyInto 6 2 none) (hSH : q_SH C = SHK) (v : Int32 × QM) {res : (QM) ⊕ (Int32 × QM)} (h : Te_copyInto_B86 v = some res) (ke : ∀ x : QM, res = .inl x → WX C 6 115 [] [] x) (kb : ∀ x : Int32 × QM, res = .inr x → WX C 6 86 [(0, .ref 8), (1, .ref 3), (2, .int x.1)] [] x.2) : WX C 6 86 [(0, .ref 8), (1, .ref 3), (2, .int v.1)] [] v.2 := by
  unfold Te_copyInto_B86 at h
  refine x_iload_n hc dX6_copyInto_86 rfl 2 rfl ?_
  refine x_bipush hc dX6_copyInto_87 kb_8 ?_
  refine x_icmp_ge (tgt := 115) hc dX6_copyInto_89 (by decide) (fun hb => ?_) (fun hb => ?_)
  · have h := ite_t hb h
    cases h
    exact x_sub (ke v.2 rfl) [] rfl
  · have h := ite_f hb h
    refine x_aload_n hc dX6_copyInto_92 rfl 1 rfl ?_
    refine x_iload_n hc dX6_copyInto_93 rfl 2 rfl ?_
    refine x_aload_n hc dX6_copyInto_94 rfl 0 rfl ?_
    refine x_aload_n hc dX6_copyInto_95 rfl 0 rfl ?_
    refine x_getR hc dX6_copyInto_96 fl_RX6_20 (q_s hSH sh_8) rfl ?_
    refine x_iload_n hc dX6_copyInto_99 rfl 2 rfl ?_
    obtain ⟨q10, h10, h⟩ := bd_some h
    refine x_callVi (As := [.int v.1]) (st := [.ref 8, .int v.1, .ref 3]) (o := 9) hc dX6_copyInto_100 cv_X3_nameAt lk_RX6_51 (q_s hSH sh_9) rfl rfl (q_cn hSH (S_Dr_nameAt h10)) (by decide) (Nat.le_of_ble_eq_true rfl) ?_
    obtain ⟨q11, h11, h⟩ := bd_some h
    refine x_callVi (As := [.int q10]) (st := [.int v.1, .ref 3]) (o := 8) hc dX6_copyInto_103 cv_X6_nodeOf lk_RX6_54 (q_s hSH sh_8) rfl rfl (q_cn hSH (S_Te_nodeOf h11)) (by decide) (Nat.le_of_ble_eq_true rfl) ?_
    obtain ⟨q12, h12, h⟩ := bd_some h
    refine x_callVv (As := [.int v.1, .int q11]) (st := []) (o := 3) hc dX6_copyInto_106 cv_X3_setName lk_RX6_71 (q_s hSH sh_3) rfl rfl (q_cn hSH (S_Ne_setName h12)) (by decide) (Nat.le_of_ble_eq_true rfl) ?_
    refine x_iinc (v := v.1 + (1 : Int32)) (L2 := [(2, .int (v.1 + (1 : Int32))), (0, .ref 8), (1, .ref 3)]) hc dX6_copyInto_109 2 rfl (by rw [kc_1]) (by decide) rfl ?_
    refine x_goto (tgt := 86) hc dX6_copyInto_112 (by decide) ?_
    cases h
    exact x_sub (kb (v.1 + (1 : Int32), q12) rfl) [1, 2, 0] rfl

theorem S_Te_copyInto_L86 {C : QC} (hc : OKX C RX6 cX6_copyInto 6 2 none) (hSH : q_SH C = SHK) {n : Nat} {v : Int32 × QM} {e : QM} (h : iter (Te_copyInto_B86) n v = some e) (ke : ∀ x : QM, e = x → WX C 6 115 [] [] x) : WX C 6 86 [(0, .ref 8), (1, .ref 3), (2, .int v.1)] [] v.2 :=
  iter_W (Wh := fun v => WX C 6 86 [(0, .ref 8), (1, .ref 3), (2, .int v.1)] [] v.2) (fun a res hB k1 k2 => S_Te_copyInto_B86 hc hSH a hB (fun x hx => ke x (k1 _ hx).symm) k2) n v h

def Te_copyInto (M : QM) : Option (QM) :=
  Option.bind (Ne_clear M) (fun q1 => Option.bind (iter (Te_copyInto_B6) FU ((0 : Int32), q1)) (fun e9 => Option.bind (iter (Te_copyInto_B86) FU ((0 : Int32), e9)) (fun e13 => some e13)))

set_option maxRecDepth 20000 in
set_option maxHeartbeats 2000000 in
theorem S_Te_copyInto  {M : QM} {res : QM} (h : Te_copyInto M = some res) : Cn yX6_copyInto cX6_copyInto 6 none 2 SHK [.ref 8, .ref 3] M (none) res := by
  refine q_enter (L := [(0, .ref 8), (1, .ref 3)]) (by decide) (Nat.le_of_ble_eq_true rfl) rfl ?_
  intro C hc hSH hr hM
  have hc : OKX C RX6 cX6_copyInto 6 2 none := hc
  unfold Te_copyInto at h
  refine x_aload_n hc dX6_copyInto_0 rfl 1 rfl ?_
  obtain ⟨q1, h1, h⟩ := bd_some h
  refine x_callVv (As := []) (st := []) (o := 3) hc dX6_copyInto_1 cv_X3_clear lk_RX6_32 (q_s hSH sh_3) rfl rfl (q_cn hSH (S_Ne_clear h1)) (by decide) (Nat.le_of_ble_eq_true rfl) ?_
  refine x_iconst hc dX6_copyInto_4 kc_0 ?_
  refine x_istore_n (L2 := [(2, .int (0 : Int32)), (0, .ref 8), (1, .ref 3)]) hc dX6_copyInto_5 rfl (by decide) rfl ?_
  obtain ⟨e9, h9, h⟩ := bd_some h
  refine x_sub (S_Te_copyInto_L6 hc hSH (v := ((0 : Int32), q1)) h9 (fun x hx => ?_)) [1, 2, 0] rfl
  subst hx
  refine x_iconst hc dX6_copyInto_84 kc_0 ?_
  refine x_istore_n (L2 := [(2, .int (0 : Int32)), (0, .ref 8), (1, .ref 3)]) hc dX6_copyInto_85 rfl (by decide) rfl ?_
  obtain ⟨e13, h13, h⟩ := bd_some h
  refine x_sub (S_Te_copyInto_L86 hc hSH (v := ((0 : Int32), e9)) h13 (fun x hx => ?_)) [1, 2, 0] rfl
  subst hx
  cases h
  exact x_vret hc dX6_copyInto_115 hr hM

def Te_isKindSign (p0 : Int32) (M : QM) : Option (Int32) :=
  (if p0 = 33 then some (1 : Int32) else if p0 = 42 then some (1 : Int32) else if p0 = 46 then some (1 : Int32) else if p0 = 62 then some (1 : Int32) else if p0 = 91 then some (1 : Int32) else if p0 = 110 then some (1 : Int32) else if p0 = 115 then some (1 : Int32) else if p0 = 116 then some (1 : Int32) else if p0 = 123 then some (1 : Int32) else some (0 : Int32))

set_option maxRecDepth 20000 in
set_option maxHeartbeats 2000000 in
theorem S_Te_isKindSign  {p0 : Int32} {M : QM} {res : Int32} (h : Te_isKindSign p0 M = some res) : Cn yX6_isKindSign cX6_isKindSign 1 (some .boolean) 0 SHK [.int p0] M (some (.int res)) M := by
  refine q_enter (L := [(0, .int p0)]) (by decide) (Nat.le_of_ble_eq_true rfl) rfl ?_
  intro C hc hSH hr hM
  have hc : OKX C RX6 cX6_isKindSign 1 0 (some .boolean) := hc
  unfold Te_isKindSign at h
  refine x_iload_n hc dX6_isKindSign_0 rfl 0 rfl ?_
  by_cases s1 : p0 = 33
  · have h := ite_t s1 h
    refine x_lookup (off := 83) (tgt := 84) hc dX6_isKindSign_1 (by decide) (q_hit s1 (by decide)) (by decide) ?_
    refine x_iconst hc dX6_isKindSign_84 kc_1 ?_
    cases h
    exact x_zret hc dX6_isKindSign_85 nar_1 hr hM
  · have h := ite_f s1 h
    by_cases s2 : p0 = 42
    · have h := ite_t s2 h
      refine x_lookup (off := 83) (tgt := 84) hc dX6_isKindSign_1 (by decide) ((lv_osw s1 (by decide)).trans (q_hit s2 (by decide))) (by decide) ?_
      refine x_iconst hc dX6_isKindSign_84 kc_1 ?_
      cases h
      exact x_zret hc dX6_isKindSign_85 nar_1 hr hM
    · have h := ite_f s2 h
      by_cases s3 : p0 = 46
      · have h := ite_t s3 h
        refine x_lookup (off := 83) (tgt := 84) hc dX6_isKindSign_1 (by decide) ((lv_osw s1 (by decide)).trans ((lv_osw s2 (by decide)).trans (q_hit s3 (by decide)))) (by decide) ?_
        refine x_iconst hc dX6_isKindSign_84 kc_1 ?_
        cases h
        exact x_zret hc dX6_isKindSign_85 nar_1 hr hM
      · have h := ite_f s3 h
        by_cases s4 : p0 = 62
        · have h := ite_t s4 h
          refine x_lookup (off := 83) (tgt := 84) hc dX6_isKindSign_1 (by decide) ((lv_osw s1 (by decide)).trans ((lv_osw s2 (by decide)).trans ((lv_osw s3 (by decide)).trans (q_hit s4 (by decide))))) (by decide) ?_
          refine x_iconst hc dX6_isKindSign_84 kc_1 ?_
          cases h
          exact x_zret hc dX6_isKindSign_85 nar_1 hr hM
        · have h := ite_f s4 h
          by_cases s5 : p0 = 91
          · have h := ite_t s5 h
            refine x_lookup (off := 83) (tgt := 84) hc dX6_isKindSign_1 (by decide) ((lv_osw s1 (by decide)).trans ((lv_osw s2 (by decide)).trans ((lv_osw s3 (by decide)).trans ((lv_osw s4 (by decide)).trans (q_hit s5 (by decide)))))) (by decide) ?_
            refine x_iconst hc dX6_isKindSign_84 kc_1 ?_
            cases h
            exact x_zret hc dX6_isKindSign_85 nar_1 hr hM
          · have h := ite_f s5 h
            by_cases s6 : p0 = 110
            · have h := ite_t s6 h
              refine x_lookup (off := 83) (tgt := 84) hc dX6_isKindSign_1 (by decide) ((lv_osw s1 (by decide)).trans ((lv_osw s2 (by decide)).trans ((lv_osw s3 (by decide)).trans ((lv_osw s4 (by decide)).trans ((lv_osw s5 (by decide)).trans (q_hit s6 (by decide))))))) (by decide) ?_
              refine x_iconst hc dX6_isKindSign_84 kc_1 ?_
              cases h
              exact x_zret hc dX6_isKindSign_85 nar_1 hr hM
            · have h := ite_f s6 h
              by_cases s7 : p0 = 115
              · have h := ite_t s7 h
                refine x_lookup (off := 83) (tgt := 84) hc dX6_isKindSign_1 (by decide) ((lv_osw s1 (by decide)).trans ((lv_osw s2 (by decide)).trans ((lv_osw s3 (by decide)).trans ((lv_osw s4 (by decide)).trans ((lv_osw s5 (by decide)).trans ((lv_osw s6 (by decide)).trans (q_hit s7 (by decide)))))))) (by decide) ?_
                refine x_iconst hc dX6_isKindSign_84 kc_1 ?_
                cases h
                exact x_zret hc dX6_isKindSign_85 nar_1 hr hM
              · have h := ite_f s7 h
                by_cases s8 : p0 = 116
                · have h := ite_t s8 h
                  refine x_lookup (off := 83) (tgt := 84) hc dX6_isKindSign_1 (by decide) ((lv_osw s1 (by decide)).trans ((lv_osw s2 (by decide)).trans ((lv_osw s3 (by decide)).trans ((lv_osw s4 (by decide)).trans ((lv_osw s5 (by decide)).trans ((lv_osw s6 (by decide)).trans ((lv_osw s7 (by decide)).trans (q_hit s8 (by decide))))))))) (by decide) ?_
                  refine x_iconst hc dX6_isKindSign_84 kc_1 ?_
                  cases h
                  exact x_zret hc dX6_isKindSign_85 nar_1 hr hM
                · have h := ite_f s8 h
                  by_cases s9 : p0 = 123
                  · have h := ite_t s9 h
                    refine x_lookup (off := 83) (tgt := 84) hc dX6_isKindSign_1 (by decide) ((lv_osw s1 (by decide)).trans ((lv_osw s2 (by decide)).trans ((lv_osw s3 (by decide)).trans ((lv_osw s4 (by decide)).trans ((lv_osw s5 (by decide)).trans ((lv_osw s6 (by decide)).trans ((lv_osw s7 (by decide)).trans ((lv_osw s8 (by decide)).trans (q_hit s9 (by decide)))))))))) (by decide) ?_
                    refine x_iconst hc dX6_isKindSign_84 kc_1 ?_
                    cases h
                    exact x_zret hc dX6_isKindSign_85 nar_1 hr hM
                  · have h := ite_f s9 h
                    refine x_lookup (off := 85) (tgt := 86) hc dX6_isKindSign_1 (by decide) ((lv_osw s1 (by decide)).trans ((lv_osw s2 (by decide)).trans ((lv_osw s3 (by decide)).trans ((lv_osw s4 (by decide)).trans ((lv_osw s5 (by decide)).trans ((lv_osw s6 (by decide)).trans ((lv_osw s7 (by decide)).trans ((lv_osw s8 (by decide)).trans ((lv_osw s9 (by decide)).trans rfl))))))))) (by decide) ?_
                    refine x_iconst hc dX6_isKindSign_86 kc_0 ?_
                    cases h
                    exact x_zret hc dX6_isKindSign_87 nar_0 hr hM

def Te_needsParts (p0 : Int32) (M : QM) : Option (Int32) :=
  (if p0 = (42 : Int32) then some (1 : Int32) else (if p0 = (62 : Int32) then some (1 : Int32) else some (0 : Int32)))

set_option maxRecDepth 20000 in
set_option maxHeartbeats 2000000 in
theorem S_Te_needsParts  {p0 : Int32} {M : QM} {res : Int32} (h : Te_needsParts p0 M = some res) : Cn yX6_needsParts cX6_needsParts 1 (some .boolean) 0 SHK [.int p0] M (some (.int res)) M := by
  refine q_enter (L := [(0, .int p0)]) (by decide) (Nat.le_of_ble_eq_true rfl) rfl ?_
  intro C hc hSH hr hM
  have hc : OKX C RX6 cX6_needsParts 1 0 (some .boolean) := hc
  unfold Te_needsParts at h
  refine x_iload_n hc dX6_needsParts_0 rfl 0 rfl ?_
  refine x_bipush hc dX6_needsParts_1 kb_42 ?_
  refine x_icmp_eq (tgt := 12) hc dX6_needsParts_3 (by decide) (fun hb => ?_) (fun hb => ?_)
  · have h := ite_t hb h
    refine x_iconst hc dX6_needsParts_12 kc_1 ?_
    refine x_goto (tgt := 17) hc dX6_needsParts_13 (by decide) ?_
    cases h
    exact x_zret hc dX6_needsParts_17 nar_1 hr hM
  · have h := ite_f hb h
    refine x_iload_n hc dX6_needsParts_6 rfl 0 rfl ?_
    refine x_bipush hc dX6_needsParts_7 kb_62 ?_
    refine x_icmp_ne (tgt := 16) hc dX6_needsParts_9 (by decide) (fun hb => ?_) (fun hb => ?_)
    · have h := ite_f hb h
      refine x_iconst hc dX6_needsParts_16 kc_0 ?_
      cases h
      exact x_zret hc dX6_needsParts_17 nar_0 hr hM
    · have h := ite_t hb h
      refine x_iconst hc dX6_needsParts_12 kc_1 ?_
      refine x_goto (tgt := 17) hc dX6_needsParts_13 (by decide) ?_
      cases h
      exact x_zret hc dX6_needsParts_17 nar_1 hr hM

def Te_nodesRead (M : QM) : Option (Int32) :=
  Option.bind (Dr_nodes M) (fun q1 => some q1)

set_option maxRecDepth 20000 in
set_option maxHeartbeats 2000000 in
theorem S_Te_nodesRead  {M : QM} {res : Int32} (h : Te_nodesRead M = some res) : Cn yX6_nodesRead cX6_nodesRead 1 (some .int) 1 SHK [.ref 8] M (some (.int res)) M := by
  refine q_enter (L := [(0, .ref 8)]) (by decide) (Nat.le_of_ble_eq_true rfl) rfl ?_
  intro C hc hSH hr hM
  have hc : OKX C RX6 cX6_nodesRead 1 1 (some .int) := hc
  unfold Te_nodesRead at h
  refine x_aload_n hc dX6_nodesRead_0 rfl 0 rfl ?_
  refine x_getR hc dX6_nodesRead_1 fl_RX6_20 (q_s hSH sh_8) rfl ?_
  obtain ⟨q1, h1, h⟩ := bd_some h
  refine x_callVi (As := []) (st := []) (o := 9) hc dX6_nodesRead_4 cv_X3_nodes lk_RX6_48 (q_s hSH sh_9) rfl rfl (q_cn hSH (S_Dr_nodes h1)) (by decide) (Nat.le_of_ble_eq_true rfl) ?_
  cases h
  exact x_iret hc dX6_nodesRead_7 hr hM

def Te_readPart (rk : Int32 → QM → Option (Int32 × QM)) (p1 : Int32) (p2 : Int32) (p3 : Int32) (M : QM) : Option (QM) :=
  (if (M.1 8 3) = 0 then Option.bind (rk (p3 + (1 : Int32)) M) (fun q1 => Option.bind (Dr_setPart p1 p2 q1.1 q1.2) (fun q2 => some q2)) else some M)

set_option maxRecDepth 20000 in
set_option maxHeartbeats 2000000 in
theorem S_Te_readPart (rk : Int32 → QM → Option (Int32 × QM)) (dk : Nat) (hdk : 4 ≤ dk) (hrk : ∀ (a : Int32) (M : QM) (res : Int32 × QM), rk a M = some res → Cn yX6_readKind cX6_readKind 4 (some .int) dk SHK [.ref 8, .int a] M (some (.int res.1)) res.2)  {p1 : Int32} {p2 : Int32} {p3 : Int32} {M : QM} {res : QM} (h : Te_readPart rk p1 p2 p3 M = some res) : Cn yX6_readPart cX6_readPart 4 none (dk + 1) SHK [.ref 8, .int p1, .int p2, .int p3] M (none) res := by
  refine q_enter (L := [(0, .ref 8), (1, .int p1), (2, .int p2), (3, .int p3)]) (by decide) (Nat.le_of_ble_eq_true rfl) rfl ?_
  intro C hc hSH hr hM
  have hc : OKX C RX6 cX6_readPart 4 (dk + 1) none := hc
  unfold Te_readPart at h
  refine x_aload_n hc dX6_readPart_0 rfl 0 rfl ?_
  refine x_getI hc dX6_readPart_1 fl_RX6_28 (q_s hSH sh_8) rfl ?_
  refine x_if_ne (tgt := 23) hc dX6_readPart_4 (by decide) (fun hb => ?_) (fun hb => ?_)
  · have h := ite_f hb h
    cases h
    exact x_vret hc dX6_readPart_23 hr hM
  · have h := ite_t hb h
    refine x_aload_n hc dX6_readPart_7 rfl 0 rfl ?_
    refine x_getR hc dX6_readPart_8 fl_RX6_20 (q_s hSH sh_8) rfl ?_
    refine x_iload_n hc dX6_readPart_11 rfl 1 rfl ?_
    refine x_iload_n hc dX6_readPart_12 rfl 2 rfl ?_
    refine x_aload_n hc dX6_readPart_13 rfl 0 rfl ?_
    refine x_iload_n hc dX6_readPart_14 rfl 3 rfl ?_
    refine x_iconst hc dX6_readPart_15 kc_1 ?_
    refine x_iadd hc dX6_readPart_16 ?_
    obtain ⟨q1, h1, h⟩ := bd_some h
    refine x_callVi (As := [.int (p3 + (1 : Int32))]) (st := [.int p2, .int p1, .ref 9]) (o := 8) hc dX6_readPart_17 cv_X6_readKind lk_RX6_75 (q_s hSH sh_8) rfl rfl (q_cn hSH (hrk _ _ _ h1)) (by omega) (Nat.le_of_ble_eq_true rfl) ?_
    obtain ⟨q2, h2, h⟩ := bd_some h
    refine x_callVv (As := [.int p1, .int p2, .int q1.1]) (st := []) (o := 9) hc dX6_readPart_20 cv_X3_setPart lk_RX6_67 (q_s hSH sh_9) rfl rfl (q_cn hSH (S_Dr_setPart h2)) (by omega) (Nat.le_of_ble_eq_true rfl) ?_
    cases h
    exact x_vret hc dX6_readPart_23 hr hM

def Te_readLetters_L6_J77 (rk : Int32 → QM → Option (Int32 × QM)) (M : QM) : Option (((QM) ⊕ (QM)) ⊕ (Int32 × Int32 × QM)) :=
  some (.inl (.inl (u_i M 8 3 (1 : Int32))))

set_option maxRecDepth 20000 in
set_option maxHeartbeats 2000000 in
theorem S_Te_readLetters_L6_J77 {C : QC} (rk : Int32 → QM → Option (Int32 × QM)) (dk : Nat) (hdk : 4 ≤ dk) (hrk : ∀ (a : Int32) (M : QM) (res : Int32 × QM), rk a M = some res → Cn yX6_readKind cX6_readKind 4 (some .int) dk SHK [.ref 8, .int a] M (some (.int res.1)) res.2) (hc : OKX C RX6 cX6_readLetters 8 (dk + 2) none) (hSH : q_SH C = SHK) (x1 : Int32) (x2 : Int32) (x3 : Int32) (M : QM) {res : ((QM) ⊕ (QM)) ⊕ (Int32 × Int32 × QM)} (h : Te_readLetters_L6_J77 rk M = some res) (kr : ∀ x : QM, res = .inl (.inl x) → q_r C = none ∧ q_M C = x) (ke : ∀ x : QM, res = .inl (.inr x) → WX C 8 113 [] [] x) (kb : ∀ x : Int32 × Int32 × QM, res = .inr x → WX C 8 6 [(0, .ref 8), (1, .int x1), (2, .int x2), (3, .int x3), (4, .int x.1), (5, .int x.2.1)] [] x.2.2) : WX C 8 77 [(0, .ref 8)] [] M := by
  unfold Te_readLetters_L6_J77 at h
  refine x_aload_n hc dX6_readLetters_77 rfl 0 rfl ?_
  refine x_iconst hc dX6_readLetters_78 kc_1 ?_
  refine x_putI hc dX6_readLetters_79 fl_RX6_28 (fw_6_3 _ (Or.inr rfl)) (q_s hSH sh_8) rfl ?_
  cases h
  exact x_vret hc dX6_readLetters_82 (kr _ rfl).1 (kr _ rfl).2

def Te_readLetters_B6 (rk : Int32 → QM → Option (Int32 × QM)) (x1 : Int32) (x2 : Int32) (x3 : Int32) (v : Int32 × Int32 × QM) : Option (((QM) ⊕ (QM)) ⊕ (Int32 × Int32 × QM)) :=
  (if (8 : Int32) < v.2.1 then some (.inl (.inr v.2.2)) else (if (v.2.2.1 8 3) = 0 then Option.bind (Pa_signAt (v.2.2.1 8 2) v.2.2) (fun q1 => (if q1 = x2 then some (.inl (.inl (u_i v.2.2 8 2 ((v.2.2.1 8 2) + (1 : Int32))))) else (if (q1 - (97 : Int32)) < v.1 then Te_readLetters_L6_J77 rk v.2.2 else (if (8 : Int32) ≤ (q1 - (97 : Int32)) then Te_readLetters_L6_J77 rk v.2.2 else (if x3 < (12 : Int32) then Option.bind (Te_readPart rk x1 (q1 - (97 : Int32)) x3 (u_i v.2.2 8 2 ((v.2.2.1 8 2) + (1 : Int32)))) (fun q2 => some (.inr ((q1 - (97 : Int32)) + (1 : Int32), v.2.1 + (1 : Int32), q2))) else Te_readLetters_L6_J77 rk v.2.2))))) else some (.inl (.inr v.2.2))))

set_option maxRecDepth 20000 in
set_option maxHeartbeats 2000000 in
theorem S_Te_readLetters_B6 {C : QC} (rk : Int32 → QM → Option (Int32 × QM)) (dk : Nat) (hdk : 4 ≤ dk) (hrk : ∀ (a : Int32) (M : QM) (res : Int32 × QM), rk a M = some res → Cn yX6_readKind cX6_readKind 4 (some .int) dk SHK [.ref 8, .int a] M (some (.int res.1)) res.2) (hc : OKX C RX6 cX6_readLetters 8 (dk + 2) none) (hSH : q_SH C = SHK) (x1 : Int32) (x2 : Int32) (x3 : Int32) (v : Int32 × Int32 × QM) {res : ((QM) ⊕ (QM)) ⊕ (Int32 × Int32 × QM)} (h : Te_readLetters_B6 rk x1 x2 x3 v = some res) (kr : ∀ x : QM, res = .inl (.inl x) → q_r C = none ∧ q_M C = x) (ke : ∀ x : QM, res = .inl (.inr x) → WX C 8 113 [] [] x) (kb : ∀ x : Int32 × Int32 × QM, res = .inr x → WX C 8 6 [(0, .ref 8), (1, .int x1), (2, .int x2), (3, .int x3), (4, .int x.1), (5, .int x.2.1)] [] x.2.2) : WX C 8 6 [(0, .ref 8), (1, .int x1), (2, .int x2), (3, .int x3), (4, .int v.1), (5, .int v.2.1)] [] v.2.2 := by
  unfold Te_readLetters_B6 at h
  refine x_iload hc dX6_readLetters_6 5 rfl ?_
  refine x_bipush hc dX6_readLetters_8 kb_8 ?_
  refine x_icmp_gt (tgt := 113) hc dX6_readLetters_10 (by decide) (fun hb => ?_) (fun hb => ?_)
  · have h := ite_t hb h
    cases h
    exact x_sub (ke v.2.2 rfl) [] rfl
  · have h := ite_f hb h
    refine x_aload_n hc dX6_readLetters_13 rfl 0 rfl ?_
    refine x_getI hc dX6_readLetters_14 fl_RX6_28 (q_s hSH sh_8) rfl ?_
    refine x_if_ne (tgt := 113) hc dX6_readLetters_17 (by decide) (fun hb => ?_) (fun hb => ?_)
    · have h := ite_f hb h
      cases h
      exact x_sub (ke v.2.2 rfl) [] rfl
    · have h := ite_t hb h
      refine x_aload_n hc dX6_readLetters_20 rfl 0 rfl ?_
      refine x_getR hc dX6_readLetters_21 fl_RX6_9 (q_s hSH sh_8) rfl ?_
      refine x_aload_n hc dX6_readLetters_24 rfl 0 rfl ?_
      refine x_getI hc dX6_readLetters_25 fl_RX6_24 (q_s hSH sh_8) rfl ?_
      obtain ⟨q1, h1, h⟩ := bd_some h
      refine x_callVi (As := [.int (v.2.2.1 8 2)]) (st := []) (o := 1) hc dX6_readLetters_28 cv_X4_signAt lk_RX6_44 (q_s hSH sh_1) rfl rfl (q_cn hSH (S_Pa_signAt h1)) (by omega) (Nat.le_of_ble_eq_true rfl) ?_
      refine x_istore (L2 := [(6, .int q1), (0, .ref 8), (1, .int x1), (2, .int x2), (3, .int x3), (4, .int v.1), (5, .int v.2.1)]) hc dX6_readLetters_31 (by decide) rfl ?_
      refine x_iload hc dX6_readLetters_33 0 rfl ?_
      refine x_iload_n hc dX6_readLetters_35 rfl 3 rfl ?_
      refine x_icmp_ne (tgt := 50) hc dX6_readLetters_36 (by decide) (fun hb => ?_) (fun hb => ?_)
      · have h := ite_f hb h
        refine x_iload hc dX6_readLetters_50 0 rfl ?_
        refine x_bipush hc dX6_readLetters_52 kb_97 ?_
        refine x_isub hc dX6_readLetters_54 ?_
        refine x_istore (L2 := [(7, .int (q1 - (97 : Int32))), (6, .int q1), (0, .ref 8), (1, .int x1), (2, .int x2), (3, .int x3), (4, .int v.1), (5, .int v.2.1)]) hc dX6_readLetters_55 (by decide) rfl ?_
        refine x_iload hc dX6_readLetters_57 0 rfl ?_
        refine x_iload hc dX6_readLetters_59 6 rfl ?_
        refine x_icmp_lt (tgt := 77) hc dX6_readLetters_61 (by decide) (fun hb => ?_) (fun hb => ?_)
        · have h := ite_t hb h
          exact x_sub (S_Te_readLetters_L6_J77 rk dk hdk hrk hc hSH x1 x2 x3 v.2.2 h kr ke kb) [2] rfl
        · have h := ite_f hb h
          refine x_iload hc dX6_readLetters_64 0 rfl ?_
          refine x_bipush hc dX6_readLetters_66 kb_8 ?_
          refine x_icmp_ge (tgt := 77) hc dX6_readLetters_68 (by decide) (fun hb => ?_) (fun hb => ?_)
          · have h := ite_t hb h
            exact x_sub (S_Te_readLetters_L6_J77 rk dk hdk hrk hc hSH x1 x2 x3 v.2.2 h kr ke kb) [2] rfl
          · have h := ite_f hb h
            refine x_iload_n hc dX6_readLetters_71 rfl 5 rfl ?_
            refine x_bipush hc dX6_readLetters_72 kb_12 ?_
            refine x_icmp_lt (tgt := 83) hc dX6_readLetters_74 (by decide) (fun hb => ?_) (fun hb => ?_)
            · have h := ite_t hb h
              refine x_aload_n hc dX6_readLetters_83 rfl 2 rfl ?_
              refine x_dup hc dX6_readLetters_84 rfl ?_
              refine x_getI hc dX6_readLetters_85 fl_RX6_24 (q_s hSH sh_8) rfl ?_
              refine x_iconst hc dX6_readLetters_88 kc_1 ?_
              refine x_iadd hc dX6_readLetters_89 ?_
              refine x_putI hc dX6_readLetters_90 fl_RX6_24 (fw_6_2 _) (q_s hSH sh_8) rfl ?_
              refine x_aload_n hc dX6_readLetters_93 rfl 2 rfl ?_
              refine x_iload_n hc dX6_readLetters_94 rfl 3 rfl ?_
              refine x_iload hc dX6_readLetters_95 0 rfl ?_
              refine x_iload_n hc dX6_readLetters_97 rfl 5 rfl ?_
              obtain ⟨q2, h2, h⟩ := bd_some h
              refine x_callVv (As := [.int x1, .int (q1 - (97 : Int32)), .int x3]) (st := []) (o := 8) hc dX6_readLetters_98 cv_X6_readPart lk_RX6_88 (q_s hSH sh_8) rfl rfl (q_cn hSH (S_Te_readPart rk dk hdk hrk h2)) (by omega) (Nat.le_of_ble_eq_true rfl) ?_
              refine x_iload hc dX6_readLetters_101 0 rfl ?_
              refine x_iconst hc dX6_readLetters_103 kc_1 ?_
              refine x_iadd hc dX6_readLetters_104 ?_
              refine x_istore (L2 := [(4, .int ((q1 - (97 : Int32)) + (1 : Int32))), (7, .int (q1 - (97 : Int32))), (6, .int q1), (0, .ref 8), (1, .int x1), (2, .int x2), (3, .int x3), (5, .int v.2.1)]) hc dX6_readLetters_105 (by decide) rfl ?_
              refine x_iinc (v := v.2.1 + (1 : Int32)) (L2 := [(5, .int (v.2.1 + (1 : Int32))), (4, .int ((q1 - (97 : Int32)) + (1 : Int32))), (7, .int (q1 - (97 : Int32))), (6, .int q1), (0, .ref 8), (1, .int x1), (2, .int x2), (3, .int x3)]) hc dX6_readLetters_107 7 rfl (by rw [kc_1]) (by decide) rfl ?_
              refine x_goto (tgt := 6) hc dX6_readLetters_110 (by decide) ?_
              cases h
              exact x_sub (kb ((q1 - (97 : Int32)) + (1 : Int32), v.2.1 + (1 : Int32), q2) rfl) [4, 5, 6, 7, 1, 0] rfl
            · have h := ite_f hb h
              exact x_sub (S_Te_readLetters_L6_J77 rk dk hdk hrk hc hSH x1 x2 x3 v.2.2 h kr ke kb) [2] rfl
      · have h := ite_t hb h
        refine x_aload_n hc dX6_readLetters_39 rfl 1 rfl ?_
        refine x_dup hc dX6_readLetters_40 rfl ?_
        refine x_getI hc dX6_readLetters_41 fl_RX6_24 (q_s hSH sh_8) rfl ?_
        refine x_iconst hc dX6_readLetters_44 kc_1 ?_
        refine x_iadd hc dX6_readLetters_45 ?_
        refine x_putI hc dX6_readLetters_46 fl_RX6_24 (fw_6_2 _) (q_s hSH sh_8) rfl ?_
        cases h
        exact x_vret hc dX6_readLetters_49 (kr _ rfl).1 (kr _ rfl).2

theorem S_Te_readLetters_L6 {C : QC} (rk : Int32 → QM → Option (Int32 × QM)) (dk : Nat) (hdk : 4 ≤ dk) (hrk : ∀ (a : Int32) (M : QM) (res : Int32 × QM), rk a M = some res → Cn yX6_readKind cX6_readKind 4 (some .int) dk SHK [.ref 8, .int a] M (some (.int res.1)) res.2) (hc : OKX C RX6 cX6_readLetters 8 (dk + 2) none) (hSH : q_SH C = SHK) (x1 : Int32) (x2 : Int32) (x3 : Int32) {n : Nat} {v : Int32 × Int32 × QM} {e : (QM) ⊕ (QM)} (h : iter (Te_readLetters_B6 rk x1 x2 x3) n v = some e) (kr : ∀ x : QM, e = .inl x → q_r C = none ∧ q_M C = x) (ke : ∀ x : QM, e = .inr x → WX C 8 113 [] [] x) : WX C 8 6 [(0, .ref 8), (1, .int x1), (2, .int x2), (3, .int x3), (4, .int v.1), (5, .int v.2.1)] [] v.2.2 :=
  iter_W (Wh := fun v => WX C 8 6 [(0, .ref 8), (1, .int x1), (2, .int x2), (3, .int x3), (4, .int v.1), (5, .int v.2.1)] [] v.2.2) (fun a res hB k1 k2 => S_Te_readLetters_B6 rk dk hdk hrk hc hSH x1 x2 x3 a hB (fun x hx => kr x (k1 _ hx).symm) (fun x hx => ke x (k1 _ hx).symm) k2) n v h

def Te_readLetters (rk : Int32 → QM → Option (Int32 × QM)) (p1 : Int32) (p2 : Int32) (p3 : Int32) (M : QM) : Option (QM) :=
  Option.bind (iter (Te_readLetters_B6 rk p1 p2 p3) FU ((0 : Int32), (0 : Int32), M)) (fun e3 => Sum.elim (fun r3 => some r3) (fun y3 => some y3) e3)

set_option maxRecDepth 20000 in
set_option maxHeartbeats 2000000 in
theorem S_Te_readLetters (rk : Int32 → QM → Option (Int32 × QM)) (dk : Nat) (hdk : 4 ≤ dk) (hrk : ∀ (a : Int32) (M : QM) (res : Int32 × QM), rk a M = some res → Cn yX6_readKind cX6_readKind 4 (some .int) dk SHK [.ref 8, .int a] M (some (.int res.1)) res.2)  {p1 : Int32} {p2 : Int32} {p3 : Int32} {M : QM} {res : QM} (h : Te_readLetters rk p1 p2 p3 M = some res) : Cn yX6_readLetters cX6_readLetters 8 none (dk + 2) SHK [.ref 8, .int p1, .int p2, .int p3] M (none) res := by
  refine q_enter (L := [(0, .ref 8), (1, .int p1), (2, .int p2), (3, .int p3)]) (by decide) (Nat.le_of_ble_eq_true rfl) rfl ?_
  intro C hc hSH hr hM
  have hc : OKX C RX6 cX6_readLetters 8 (dk + 2) none := hc
  unfold Te_readLetters at h
  refine x_iconst hc dX6_readLetters_0 kc_0 ?_
  refine x_istore (L2 := [(4, .int (0 : Int32)), (0, .ref 8), (1, .int p1), (2, .int p2), (3, .int p3)]) hc dX6_readLetters_1 (by decide) rfl ?_
  refine x_iconst hc dX6_readLetters_3 kc_0 ?_
  refine x_istore (L2 := [(5, .int (0 : Int32)), (4, .int (0 : Int32)), (0, .ref 8), (1, .int p1), (2, .int p2), (3, .int p3)]) hc dX6_readLetters_4 (by decide) rfl ?_
  obtain ⟨e3, h3, h⟩ := bd_some h
  refine x_sub (S_Te_readLetters_L6 rk dk hdk hrk hc hSH p1 p2 p3 (v := ((0 : Int32), (0 : Int32), M)) h3 (fun r3 hx => ?_) (fun y3 hx => ?_)) [2, 3, 4, 5, 1, 0] rfl
  · subst hx
    have h := sum_l h
    cases h
    exact ⟨hr, hM⟩
  · subst hx
    have h := sum_r h
    cases h
    exact x_vret hc dX6_readLetters_113 hr hM

def Te_readKind_J77 (rk : Int32 → QM → Option (Int32 × QM)) (M : QM) : Option (Int32 × QM) :=
  some ((-6 : Int32), u_i M 8 3 (1 : Int32))

set_option maxRecDepth 20000 in
set_option maxHeartbeats 2000000 in
theorem S_Te_readKind_J77 {C : QC} (rk : Int32 → QM → Option (Int32 × QM)) (dk : Nat) (hdk : 4 ≤ dk) (hrk : ∀ (a : Int32) (M : QM) (res : Int32 × QM), rk a M = some res → Cn yX6_readKind cX6_readKind 4 (some .int) dk SHK [.ref 8, .int a] M (some (.int res.1)) res.2) (hc : OKX C RX6 cX6_readKind 4 (dk + 3) (some .int)) (hSH : q_SH C = SHK) (M : QM) {res : Int32 × QM} (h : Te_readKind_J77 rk M = some res) (hr : q_r C = some (.int res.1)) (hM : q_M C = res.2) : WX C 4 77 [(0, .ref 8)] [] M := by
  unfold Te_readKind_J77 at h
  refine x_aload_n hc dX6_readKind_77 rfl 0 rfl ?_
  refine x_iconst hc dX6_readKind_78 kc_1 ?_
  refine x_putI hc dX6_readKind_79 fl_RX6_28 (fw_6_3 _ (Or.inr rfl)) (q_s hSH sh_8) rfl ?_
  refine x_bipush hc dX6_readKind_82 kb_m6 ?_
  cases h
  exact x_iret hc dX6_readKind_84 hr hM

def Te_readKind_J131 (rk : Int32 → QM → Option (Int32 × QM)) (x1 : Int32) (x3 : Int32) (s0 : Int32) (s1 : Int32) (M : QM) : Option (Int32 × QM) :=
  Option.bind (Te_readLetters rk s1 s0 x1 M) (fun q4 => some (x3, q4))

set_option maxRecDepth 20000 in
set_option maxHeartbeats 2000000 in
theorem S_Te_readKind_J131 {C : QC} (rk : Int32 → QM → Option (Int32 × QM)) (dk : Nat) (hdk : 4 ≤ dk) (hrk : ∀ (a : Int32) (M : QM) (res : Int32 × QM), rk a M = some res → Cn yX6_readKind cX6_readKind 4 (some .int) dk SHK [.ref 8, .int a] M (some (.int res.1)) res.2) (hc : OKX C RX6 cX6_readKind 4 (dk + 3) (some .int)) (hSH : q_SH C = SHK) (x1 : Int32) (x3 : Int32) (s0 : Int32) (s1 : Int32) (M : QM) {res : Int32 × QM} (h : Te_readKind_J131 rk x1 x3 s0 s1 M = some res) (hr : q_r C = some (.int res.1)) (hM : q_M C = res.2) : WX C 4 131 [(1, .int x1), (3, .int x3)] [.int s0, .int s1, .ref 8] M := by
  unfold Te_readKind_J131 at h
  refine x_iload_n hc dX6_readKind_131 rfl 0 rfl ?_
  obtain ⟨q4, h4, h⟩ := bd_some h
  refine x_callVv (As := [.int s1, .int s0, .int x1]) (st := []) (o := 8) hc dX6_readKind_132 cv_X6_readLetters lk_RX6_85 (q_s hSH sh_8) rfl rfl (q_cn hSH (S_Te_readLetters rk dk hdk hrk h4)) (by omega) (Nat.le_of_ble_eq_true rfl) ?_
  refine x_goto (tgt := 165) hc dX6_readKind_135 (by decide) ?_
  refine x_iload_n hc dX6_readKind_165 rfl 1 rfl ?_
  cases h
  exact x_iret hc dX6_readKind_166 hr hM

def Te_readKind_J116 (rk : Int32 → QM → Option (Int32 × QM)) (x1 : Int32) (x2 : Int32) (x3 : Int32) (M : QM) : Option (Int32 × QM) :=
  (if x2 = (123 : Int32) then Te_readKind_J131 rk x1 x3 (125 : Int32) x3 M else Te_readKind_J131 rk x1 x3 (93 : Int32) x3 M)

set_option maxRecDepth 20000 in
set_option maxHeartbeats 2000000 in
theorem S_Te_readKind_J116 {C : QC} (rk : Int32 → QM → Option (Int32 × QM)) (dk : Nat) (hdk : 4 ≤ dk) (hrk : ∀ (a : Int32) (M : QM) (res : Int32 × QM), rk a M = some res → Cn yX6_readKind cX6_readKind 4 (some .int) dk SHK [.ref 8, .int a] M (some (.int res.1)) res.2) (hc : OKX C RX6 cX6_readKind 4 (dk + 3) (some .int)) (hSH : q_SH C = SHK) (x1 : Int32) (x2 : Int32) (x3 : Int32) (M : QM) {res : Int32 × QM} (h : Te_readKind_J116 rk x1 x2 x3 M = some res) (hr : q_r C = some (.int res.1)) (hM : q_M C = res.2) : WX C 4 116 [(0, .ref 8), (1, .int x1), (2, .int x2), (3, .int x3)] [] M := by
  unfold Te_readKind_J116 at h
  refine x_aload_n hc dX6_readKind_116 rfl 0 rfl ?_
  refine x_iload_n hc dX6_readKind_117 rfl 3 rfl ?_
  refine x_iload_n hc dX6_readKind_118 rfl 2 rfl ?_
  refine x_bipush hc dX6_readKind_119 kb_123 ?_
  refine x_icmp_ne (tgt := 129) hc dX6_readKind_121 (by decide) (fun hb => ?_) (fun hb => ?_)
  · have h := ite_f hb h
    refine x_bipush hc dX6_readKind_129 kb_93 ?_
    exact x_sub (S_Te_readKind_J131 rk dk hdk hrk hc hSH x1 x3 (93 : Int32) x3 M h hr hM) [1, 3] rfl
  · have h := ite_t hb h
    refine x_bipush hc dX6_readKind_124 kb_125 ?_
    refine x_goto (tgt := 131) hc dX6_readKind_126 (by decide) ?_
    exact x_sub (S_Te_readKind_J131 rk dk hdk hrk hc hSH x1 x3 (125 : Int32) x3 M h hr hM) [1, 3] rfl

def Te_readKind_J85 (rk : Int32 → QM → Option (Int32 × QM)) (x1 : Int32) (x2 : Int32) (M : QM) : Option (Int32 × QM) :=
  Option.bind (Dr_addNode x2 (u_i M 8 2 ((M.1 8 2) + (1 : Int32)))) (fun q3 => (if x2 = (123 : Int32) then Te_readKind_J116 rk x1 x2 q3.1 q3.2 else (if x2 = (91 : Int32) then Te_readKind_J116 rk x1 x2 q3.1 q3.2 else Option.bind (Te_needsParts x2 q3.2) (fun q5 => (if q5 = 0 then some (q3.1, q3.2) else Option.bind (Te_readPart rk q3.1 (0 : Int32) x1 q3.2) (fun q6 => (if x2 = (62 : Int32) then Option.bind (Te_readPart rk q3.1 (1 : Int32) x1 q6) (fun q7 => some (q3.1, q7)) else some (q3.1, q6))))))))

set_option maxRecDepth 20000 in
set_option maxHeartbeats 2000000 in
theorem S_Te_readKind_J85 {C : QC} (rk : Int32 → QM → Option (Int32 × QM)) (dk : Nat) (hdk : 4 ≤ dk) (hrk : ∀ (a : Int32) (M : QM) (res : Int32 × QM), rk a M = some res → Cn yX6_readKind cX6_readKind 4 (some .int) dk SHK [.ref 8, .int a] M (some (.int res.1)) res.2) (hc : OKX C RX6 cX6_readKind 4 (dk + 3) (some .int)) (hSH : q_SH C = SHK) (x1 : Int32) (x2 : Int32) (M : QM) {res : Int32 × QM} (h : Te_readKind_J85 rk x1 x2 M = some res) (hr : q_r C = some (.int res.1)) (hM : q_M C = res.2) : WX C 4 85 [(0, .ref 8), (1, .int x1), (2, .int x2)] [] M := by
  unfold Te_readKind_J85 at h
  refine x_aload_n hc dX6_readKind_85 rfl 0 rfl ?_
  refine x_dup hc dX6_readKind_86 rfl ?_
  refine x_getI hc dX6_readKind_87 fl_RX6_24 (q_s hSH sh_8) rfl ?_
  refine x_iconst hc dX6_readKind_90 kc_1 ?_
  refine x_iadd hc dX6_readKind_91 ?_
  refine x_putI hc dX6_readKind_92 fl_RX6_24 (fw_6_2 _) (q_s hSH sh_8) rfl ?_
  refine x_aload_n hc dX6_readKind_95 rfl 0 rfl ?_
  refine x_getR hc dX6_readKind_96 fl_RX6_20 (q_s hSH sh_8) rfl ?_
  refine x_iload_n hc dX6_readKind_99 rfl 2 rfl ?_
  obtain ⟨q3, h3, h⟩ := bd_some h
  refine x_callVi (As := [.int x2]) (st := []) (o := 9) hc dX6_readKind_100 cv_X3_addNode lk_RX6_64 (q_s hSH sh_9) rfl rfl (q_cn hSH (S_Dr_addNode h3)) (by omega) (Nat.le_of_ble_eq_true rfl) ?_
  refine x_istore_n (L2 := [(3, .int q3.1), (0, .ref 8), (1, .int x1), (2, .int x2)]) hc dX6_readKind_103 rfl (by decide) rfl ?_
  refine x_iload_n hc dX6_readKind_104 rfl 3 rfl ?_
  refine x_bipush hc dX6_readKind_105 kb_123 ?_
  refine x_icmp_eq (tgt := 116) hc dX6_readKind_107 (by decide) (fun hb => ?_) (fun hb => ?_)
  · have h := ite_t hb h
    exact x_sub (S_Te_readKind_J116 rk dk hdk hrk hc hSH x1 x2 q3.1 q3.2 h hr hM) [1, 2, 3, 0] rfl
  · have h := ite_f hb h
    refine x_iload_n hc dX6_readKind_110 rfl 3 rfl ?_
    refine x_bipush hc dX6_readKind_111 kb_91 ?_
    refine x_icmp_ne (tgt := 138) hc dX6_readKind_113 (by decide) (fun hb => ?_) (fun hb => ?_)
    · have h := ite_f hb h
      refine x_iload_n hc dX6_readKind_138 rfl 3 rfl ?_
      obtain ⟨q5, h5, h⟩ := bd_some h
      refine x_callSi (As := [.int x2]) (st := []) hc dX6_readKind_139 cs_X6_needsParts lk_RX6_82 rfl (q_cn hSH (S_Te_needsParts h5)) (by omega) (Nat.le_of_ble_eq_true rfl) ?_
      refine x_if_eq (tgt := 165) hc dX6_readKind_142 (by decide) (fun hb => ?_) (fun hb => ?_)
      · have h := ite_t hb h
        refine x_iload_n hc dX6_readKind_165 rfl 0 rfl ?_
        cases h
        exact x_iret hc dX6_readKind_166 hr hM
      · have h := ite_f hb h
        refine x_aload_n hc dX6_readKind_145 rfl 1 rfl ?_
        refine x_iload_n hc dX6_readKind_146 rfl 0 rfl ?_
        refine x_iconst hc dX6_readKind_147 kc_0 ?_
        refine x_iload_n hc dX6_readKind_148 rfl 2 rfl ?_
        obtain ⟨q6, h6, h⟩ := bd_some h
        refine x_callVv (As := [.int q3.1, .int (0 : Int32), .int x1]) (st := []) (o := 8) hc dX6_readKind_149 cv_X6_readPart lk_RX6_88 (q_s hSH sh_8) rfl rfl (q_cn hSH (S_Te_readPart rk dk hdk hrk h6)) (by omega) (Nat.le_of_ble_eq_true rfl) ?_
        refine x_iload_n hc dX6_readKind_152 rfl 3 rfl ?_
        refine x_bipush hc dX6_readKind_153 kb_62 ?_
        refine x_icmp_ne (tgt := 165) hc dX6_readKind_155 (by decide) (fun hb => ?_) (fun hb => ?_)
        · have h := ite_f hb h
          refine x_iload_n hc dX6_readKind_165 rfl 0 rfl ?_
          cases h
          exact x_iret hc dX6_readKind_166 hr hM
        · have h := ite_t hb h
          refine x_aload_n hc dX6_readKind_158 rfl 1 rfl ?_
          refine x_iload_n hc dX6_readKind_159 rfl 0 rfl ?_
          refine x_iconst hc dX6_readKind_160 kc_1 ?_
          refine x_iload_n hc dX6_readKind_161 rfl 2 rfl ?_
          obtain ⟨q7, h7, h⟩ := bd_some h
          refine x_callVv (As := [.int q3.1, .int (1 : Int32), .int x1]) (st := []) (o := 8) hc dX6_readKind_162 cv_X6_readPart lk_RX6_88 (q_s hSH sh_8) rfl rfl (q_cn hSH (S_Te_readPart rk dk hdk hrk h7)) (by omega) (Nat.le_of_ble_eq_true rfl) ?_
          refine x_iload_n hc dX6_readKind_165 rfl 0 rfl ?_
          cases h
          exact x_iret hc dX6_readKind_166 hr hM
    · have h := ite_t hb h
      exact x_sub (S_Te_readKind_J116 rk dk hdk hrk hc hSH x1 x2 q3.1 q3.2 h hr hM) [1, 2, 3, 0] rfl

def Te_readKind_J57 (rk : Int32 → QM → Option (Int32 × QM)) (x1 : Int32) (x2 : Int32) (M : QM) : Option (Int32 × QM) :=
  Option.bind (Te_isKindSign x2 M) (fun q2 => (if q2 = 0 then Te_readKind_J77 rk M else (if x1 = (12 : Int32) then Option.bind (Te_needsParts x2 M) (fun q8 => (if q8 = 0 then Te_readKind_J85 rk x1 x2 M else Te_readKind_J77 rk M)) else Te_readKind_J85 rk x1 x2 M)))

set_option maxRecDepth 20000 in
set_option maxHeartbeats 2000000 in
theorem S_Te_readKind_J57 {C : QC} (rk : Int32 → QM → Option (Int32 × QM)) (dk : Nat) (hdk : 4 ≤ dk) (hrk : ∀ (a : Int32) (M : QM) (res : Int32 × QM), rk a M = some res → Cn yX6_readKind cX6_readKind 4 (some .int) dk SHK [.ref 8, .int a] M (some (.int res.1)) res.2) (hc : OKX C RX6 cX6_readKind 4 (dk + 3) (some .int)) (hSH : q_SH C = SHK) (x1 : Int32) (x2 : Int32) (M : QM) {res : Int32 × QM} (h : Te_readKind_J57 rk x1 x2 M = some res) (hr : q_r C = some (.int res.1)) (hM : q_M C = res.2) : WX C 4 57 [(0, .ref 8), (1, .int x1), (2, .int x2)] [] M := by
  unfold Te_readKind_J57 at h
  refine x_iload_n hc dX6_readKind_57 rfl 2 rfl ?_
  obtain ⟨q2, h2, h⟩ := bd_some h
  refine x_callSi (As := [.int x2]) (st := []) hc dX6_readKind_58 cs_X6_isKindSign lk_RX6_78 rfl (q_cn hSH (S_Te_isKindSign h2)) (by omega) (Nat.le_of_ble_eq_true rfl) ?_
  refine x_if_eq (tgt := 77) hc dX6_readKind_61 (by decide) (fun hb => ?_) (fun hb => ?_)
  · have h := ite_t hb h
    exact x_sub (S_Te_readKind_J77 rk dk hdk hrk hc hSH M h hr hM) [0] rfl
  · have h := ite_f hb h
    refine x_iload_n hc dX6_readKind_64 rfl 1 rfl ?_
    refine x_bipush hc dX6_readKind_65 kb_12 ?_
    refine x_icmp_ne (tgt := 85) hc dX6_readKind_67 (by decide) (fun hb => ?_) (fun hb => ?_)
    · have h := ite_f hb h
      exact x_sub (S_Te_readKind_J85 rk dk hdk hrk hc hSH x1 x2 M h hr hM) [0, 1, 2] rfl
    · have h := ite_t hb h
      refine x_iload_n hc dX6_readKind_70 rfl 2 rfl ?_
      obtain ⟨q8, h8, h⟩ := bd_some h
      refine x_callSi (As := [.int x2]) (st := []) hc dX6_readKind_71 cs_X6_needsParts lk_RX6_82 rfl (q_cn hSH (S_Te_needsParts h8)) (by omega) (Nat.le_of_ble_eq_true rfl) ?_
      refine x_if_eq (tgt := 85) hc dX6_readKind_74 (by decide) (fun hb => ?_) (fun hb => ?_)
      · have h := ite_t hb h
        exact x_sub (S_Te_readKind_J85 rk dk hdk hrk hc hSH x1 x2 M h hr hM) [0, 1, 2] rfl
      · have h := ite_f hb h
        exact x_sub (S_Te_readKind_J77 rk dk hdk hrk hc hSH M h hr hM) [0] rfl

def Te_readKind (rk : Int32 → QM → Option (Int32 × QM)) (p1 : Int32) (M : QM) : Option (Int32 × QM) :=
  Option.bind (Pa_signAt (M.1 8 2) M) (fun q1 => (if p1 ≤ (12 : Int32) then (if q1 < (65 : Int32) then Te_readKind_J57 rk p1 q1 M else (if (73 : Int32) ≤ q1 then Te_readKind_J57 rk p1 q1 M else some ((1000 : Int32) + (q1 - (65 : Int32)), u_i M 8 2 ((M.1 8 2) + (1 : Int32))))) else some ((-6 : Int32), u_i M 8 3 (1 : Int32))))

set_option maxRecDepth 20000 in
set_option maxHeartbeats 2000000 in
theorem S_Te_readKind (rk : Int32 → QM → Option (Int32 × QM)) (dk : Nat) (hdk : 4 ≤ dk) (hrk : ∀ (a : Int32) (M : QM) (res : Int32 × QM), rk a M = some res → Cn yX6_readKind cX6_readKind 4 (some .int) dk SHK [.ref 8, .int a] M (some (.int res.1)) res.2)  {p1 : Int32} {M : QM} {res : Int32 × QM} (h : Te_readKind rk p1 M = some res) : Cn yX6_readKind cX6_readKind 4 (some .int) (dk + 3) SHK [.ref 8, .int p1] M (some (.int res.1)) res.2 := by
  refine q_enter (L := [(0, .ref 8), (1, .int p1)]) (by decide) (Nat.le_of_ble_eq_true rfl) rfl ?_
  intro C hc hSH hr hM
  have hc : OKX C RX6 cX6_readKind 4 (dk + 3) (some .int) := hc
  unfold Te_readKind at h
  refine x_aload_n hc dX6_readKind_0 rfl 0 rfl ?_
  refine x_getR hc dX6_readKind_1 fl_RX6_9 (q_s hSH sh_8) rfl ?_
  refine x_aload_n hc dX6_readKind_4 rfl 0 rfl ?_
  refine x_getI hc dX6_readKind_5 fl_RX6_24 (q_s hSH sh_8) rfl ?_
  obtain ⟨q1, h1, h⟩ := bd_some h
  refine x_callVi (As := [.int (M.1 8 2)]) (st := []) (o := 1) hc dX6_readKind_8 cv_X4_signAt lk_RX6_44 (q_s hSH sh_1) rfl rfl (q_cn hSH (S_Pa_signAt h1)) (by omega) (Nat.le_of_ble_eq_true rfl) ?_
  refine x_istore_n (L2 := [(2, .int q1), (0, .ref 8), (1, .int p1)]) hc dX6_readKind_11 rfl (by decide) rfl ?_
  refine x_iload_n hc dX6_readKind_12 rfl 2 rfl ?_
  refine x_bipush hc dX6_readKind_13 kb_12 ?_
  refine x_icmp_le (tgt := 26) hc dX6_readKind_15 (by decide) (fun hb => ?_) (fun hb => ?_)
  · have h := ite_t hb h
    refine x_iload_n hc dX6_readKind_26 rfl 0 rfl ?_
    refine x_bipush hc dX6_readKind_27 kb_65 ?_
    refine x_icmp_lt (tgt := 57) hc dX6_readKind_29 (by decide) (fun hb => ?_) (fun hb => ?_)
    · have h := ite_t hb h
      exact x_sub (S_Te_readKind_J57 rk dk hdk hrk hc hSH p1 q1 M h hr hM) [1, 2, 0] rfl
    · have h := ite_f hb h
      refine x_iload_n hc dX6_readKind_32 rfl 0 rfl ?_
      refine x_bipush hc dX6_readKind_33 kb_73 ?_
      refine x_icmp_ge (tgt := 57) hc dX6_readKind_35 (by decide) (fun hb => ?_) (fun hb => ?_)
      · have h := ite_t hb h
        exact x_sub (S_Te_readKind_J57 rk dk hdk hrk hc hSH p1 q1 M h hr hM) [1, 2, 0] rfl
      · have h := ite_f hb h
        refine x_aload_n hc dX6_readKind_38 rfl 1 rfl ?_
        refine x_dup hc dX6_readKind_39 rfl ?_
        refine x_getI hc dX6_readKind_40 fl_RX6_24 (q_s hSH sh_8) rfl ?_
        refine x_iconst hc dX6_readKind_43 kc_1 ?_
        refine x_iadd hc dX6_readKind_44 ?_
        refine x_putI hc dX6_readKind_45 fl_RX6_24 (fw_6_2 _) (q_s hSH sh_8) rfl ?_
        refine x_sipush hc dX6_readKind_48 ks_1000 ?_
        refine x_iload_n hc dX6_readKind_51 rfl 0 rfl ?_
        refine x_bipush hc dX6_readKind_52 kb_65 ?_
        refine x_isub hc dX6_readKind_54 ?_
        refine x_iadd hc dX6_readKind_55 ?_
        cases h
        exact x_iret hc dX6_readKind_56 hr hM
  · have h := ite_f hb h
    refine x_aload_n hc dX6_readKind_18 rfl 1 rfl ?_
    refine x_iconst hc dX6_readKind_19 kc_1 ?_
    refine x_putI hc dX6_readKind_20 fl_RX6_28 (fw_6_3 _ (Or.inr rfl)) (q_s hSH sh_8) rfl ?_
    refine x_bipush hc dX6_readKind_23 kb_m6 ?_
    cases h
    exact x_iret hc dX6_readKind_25 hr hM

def Te_readKind_r : Nat → Int32 → QM → Option (Int32 × QM)
  | 0, _, _ => none
  | n + 1, a, M => Te_readKind (Te_readKind_r n) a M

theorem S_Te_readKind_r : ∀ (n : Nat) (a : Int32) (M : QM) (res : Int32 × QM), Te_readKind_r n a M = some res → Cn yX6_readKind cX6_readKind 4 (some .int) (4 + 3 * n) SHK [.ref 8, .int a] M (some (.int res.1)) res.2 := by
  intro n
  induction n with
  | zero => intro a M res h; cases h
  | succ n ih =>
    intro a M res h
    have h2 : Te_readKind (Te_readKind_r n) a M = some res := h
    have h3 := S_Te_readKind (Te_readKind_r n) (4 + 3 * n) (by omega) ih h2
    have e : 4 + 3 * (n + 1) = 4 + 3 * n + 3 := by omega
    rw [e]
    exact h3

def Te_readNaming_J38 (M : QM) : Option (QM) :=
  some (u_i M 8 3 (1 : Int32))

set_option maxRecDepth 20000 in
set_option maxHeartbeats 2000000 in
theorem S_Te_readNaming_J38 {C : QC} (hc : OKX C RX6 cX6_readNaming 2 47 none) (hSH : q_SH C = SHK) (M : QM) {res : QM} (h : Te_readNaming_J38 M = some res) (hr : q_r C = none) (hM : q_M C = res) : WX C 2 38 [(0, .ref 8)] [] M := by
  unfold Te_readNaming_J38 at h
  refine x_aload_n hc dX6_readNaming_38 rfl 0 rfl ?_
  refine x_iconst hc dX6_readNaming_39 kc_1 ?_
  refine x_putI hc dX6_readNaming_40 fl_RX6_28 (fw_6_3 _ (Or.inr rfl)) (q_s hSH sh_8) rfl ?_
  cases h
  exact x_vret hc dX6_readNaming_43 hr hM

def Te_readNaming (M : QM) : Option (QM) :=
  Option.bind (Pa_signAt (M.1 8 2) M) (fun q1 => (if (q1 - (65 : Int32)) < 0 then Te_readNaming_J38 M else (if (8 : Int32) ≤ (q1 - (65 : Int32)) then Te_readNaming_J38 M else Option.bind (Dr_nameAt (q1 - (65 : Int32)) M) (fun q2 => (if q2 = (-6 : Int32) then Option.bind (Pa_signAt ((u_i M 8 2 ((M.1 8 2) + (1 : Int32))).1 8 2) (u_i M 8 2 ((M.1 8 2) + (1 : Int32)))) (fun q3 => (if q3 = (61 : Int32) then Option.bind (Te_readKind_r 14 (0 : Int32) (u_i (u_i M 8 2 ((M.1 8 2) + (1 : Int32))) 8 2 (((u_i M 8 2 ((M.1 8 2) + (1 : Int32))).1 8 2) + (1 : Int32)))) (fun q4 => Option.bind (Dr_setName (q1 - (65 : Int32)) q4.1 q4.2) (fun q5 => some q5)) else some (u_i (u_i M 8 2 ((M.1 8 2) + (1 : Int32))) 8 3 (1 : Int32)))) else Te_readNaming_J38 M)))))

set_option maxRecDepth 20000 in
set_option maxHeartbeats 2000000 in
theorem S_Te_readNaming  {M : QM} {res : QM} (h : Te_readNaming M = some res) : Cn yX6_readNaming cX6_readNaming 2 none 47 SHK [.ref 8] M (none) res := by
  refine q_enter (L := [(0, .ref 8)]) (by decide) (Nat.le_of_ble_eq_true rfl) rfl ?_
  intro C hc hSH hr hM
  have hc : OKX C RX6 cX6_readNaming 2 47 none := hc
  unfold Te_readNaming at h
  refine x_aload_n hc dX6_readNaming_0 rfl 0 rfl ?_
  refine x_getR hc dX6_readNaming_1 fl_RX6_9 (q_s hSH sh_8) rfl ?_
  refine x_aload_n hc dX6_readNaming_4 rfl 0 rfl ?_
  refine x_getI hc dX6_readNaming_5 fl_RX6_24 (q_s hSH sh_8) rfl ?_
  obtain ⟨q1, h1, h⟩ := bd_some h
  refine x_callVi (As := [.int (M.1 8 2)]) (st := []) (o := 1) hc dX6_readNaming_8 cv_X4_signAt lk_RX6_44 (q_s hSH sh_1) rfl rfl (q_cn hSH (S_Pa_signAt h1)) (by decide) (Nat.le_of_ble_eq_true rfl) ?_
  refine x_bipush hc dX6_readNaming_11 kb_65 ?_
  refine x_isub hc dX6_readNaming_13 ?_
  refine x_istore_n (L2 := [(1, .int (q1 - (65 : Int32))), (0, .ref 8)]) hc dX6_readNaming_14 rfl (by decide) rfl ?_
  refine x_iload_n hc dX6_readNaming_15 rfl 0 rfl ?_
  refine x_if_lt (tgt := 38) hc dX6_readNaming_16 (by decide) (fun hb => ?_) (fun hb => ?_)
  · have h := ite_t hb h
    exact x_sub (S_Te_readNaming_J38 hc hSH M h hr hM) [1] rfl
  · have h := ite_f hb h
    refine x_iload_n hc dX6_readNaming_19 rfl 0 rfl ?_
    refine x_bipush hc dX6_readNaming_20 kb_8 ?_
    refine x_icmp_ge (tgt := 38) hc dX6_readNaming_22 (by decide) (fun hb => ?_) (fun hb => ?_)
    · have h := ite_t hb h
      exact x_sub (S_Te_readNaming_J38 hc hSH M h hr hM) [1] rfl
    · have h := ite_f hb h
      refine x_aload_n hc dX6_readNaming_25 rfl 1 rfl ?_
      refine x_getR hc dX6_readNaming_26 fl_RX6_20 (q_s hSH sh_8) rfl ?_
      refine x_iload_n hc dX6_readNaming_29 rfl 0 rfl ?_
      obtain ⟨q2, h2, h⟩ := bd_some h
      refine x_callVi (As := [.int (q1 - (65 : Int32))]) (st := []) (o := 9) hc dX6_readNaming_30 cv_X3_nameAt lk_RX6_51 (q_s hSH sh_9) rfl rfl (q_cn hSH (S_Dr_nameAt h2)) (by decide) (Nat.le_of_ble_eq_true rfl) ?_
      refine x_bipush hc dX6_readNaming_33 kb_m6 ?_
      refine x_icmp_eq (tgt := 44) hc dX6_readNaming_35 (by decide) (fun hb => ?_) (fun hb => ?_)
      · have h := ite_t hb h
        refine x_aload_n hc dX6_readNaming_44 rfl 1 rfl ?_
        refine x_dup hc dX6_readNaming_45 rfl ?_
        refine x_getI hc dX6_readNaming_46 fl_RX6_24 (q_s hSH sh_8) rfl ?_
        refine x_iconst hc dX6_readNaming_49 kc_1 ?_
        refine x_iadd hc dX6_readNaming_50 ?_
        refine x_putI hc dX6_readNaming_51 fl_RX6_24 (fw_6_2 _) (q_s hSH sh_8) rfl ?_
        refine x_aload_n hc dX6_readNaming_54 rfl 1 rfl ?_
        refine x_getR hc dX6_readNaming_55 fl_RX6_9 (q_s hSH sh_8) rfl ?_
        refine x_aload_n hc dX6_readNaming_58 rfl 1 rfl ?_
        refine x_getI hc dX6_readNaming_59 fl_RX6_24 (q_s hSH sh_8) rfl ?_
        obtain ⟨q3, h3, h⟩ := bd_some h
        refine x_callVi (As := [.int ((u_i M 8 2 ((M.1 8 2) + (1 : Int32))).1 8 2)]) (st := []) (o := 1) hc dX6_readNaming_62 cv_X4_signAt lk_RX6_44 (q_s hSH sh_1) rfl rfl (q_cn hSH (S_Pa_signAt h3)) (by decide) (Nat.le_of_ble_eq_true rfl) ?_
        refine x_bipush hc dX6_readNaming_65 kb_61 ?_
        refine x_icmp_eq (tgt := 76) hc dX6_readNaming_67 (by decide) (fun hb => ?_) (fun hb => ?_)
        · have h := ite_t hb h
          refine x_aload_n hc dX6_readNaming_76 rfl 1 rfl ?_
          refine x_dup hc dX6_readNaming_77 rfl ?_
          refine x_getI hc dX6_readNaming_78 fl_RX6_24 (q_s hSH sh_8) rfl ?_
          refine x_iconst hc dX6_readNaming_81 kc_1 ?_
          refine x_iadd hc dX6_readNaming_82 ?_
          refine x_putI hc dX6_readNaming_83 fl_RX6_24 (fw_6_2 _) (q_s hSH sh_8) rfl ?_
          refine x_aload_n hc dX6_readNaming_86 rfl 1 rfl ?_
          refine x_getR hc dX6_readNaming_87 fl_RX6_20 (q_s hSH sh_8) rfl ?_
          refine x_iload_n hc dX6_readNaming_90 rfl 0 rfl ?_
          refine x_aload_n hc dX6_readNaming_91 rfl 1 rfl ?_
          refine x_iconst hc dX6_readNaming_92 kc_0 ?_
          obtain ⟨q4, h4, h⟩ := bd_some h
          refine x_callVi (As := [.int (0 : Int32)]) (st := [.int (q1 - (65 : Int32)), .ref 9]) (o := 8) hc dX6_readNaming_93 cv_X6_readKind lk_RX6_75 (q_s hSH sh_8) rfl rfl (q_cn hSH (S_Te_readKind_r 14 _ _ _ h4)) (by omega) (Nat.le_of_ble_eq_true rfl) ?_
          obtain ⟨q5, h5, h⟩ := bd_some h
          refine x_callVv (As := [.int (q1 - (65 : Int32)), .int q4.1]) (st := []) (o := 9) hc dX6_readNaming_96 cv_X3_setName lk_RX6_71 (q_s hSH sh_9) rfl rfl (q_cn hSH (S_Dr_setName h5)) (by decide) (Nat.le_of_ble_eq_true rfl) ?_
          cases h
          exact x_vret hc dX6_readNaming_99 hr hM
        · have h := ite_f hb h
          refine x_aload_n hc dX6_readNaming_70 rfl 1 rfl ?_
          refine x_iconst hc dX6_readNaming_71 kc_1 ?_
          refine x_putI hc dX6_readNaming_72 fl_RX6_28 (fw_6_3 _ (Or.inr rfl)) (q_s hSH sh_8) rfl ?_
          cases h
          exact x_vret hc dX6_readNaming_75 hr hM
      · have h := ite_f hb h
        exact x_sub (S_Te_readNaming_J38 hc hSH M h hr hM) [1] rfl

def Te_read_B19 (v : Int32 × QM) : Option (((Int32 × QM) ⊕ (QM)) ⊕ (Int32 × QM)) :=
  (if (8 : Int32) < v.1 then some (.inl (.inr v.2)) else Option.bind (Te_readNaming v.2) (fun q2 => (if (q2.1 8 3) = 0 then Option.bind (Pa_length q2) (fun q3 => (if (q2.1 8 2) < q3 then Option.bind (Pa_signAt (q2.1 8 2) q2) (fun q4 => (if q4 = (59 : Int32) then some (.inr (v.1 + (1 : Int32), u_i q2 8 2 ((q2.1 8 2) + (1 : Int32)))) else some (.inl (.inl (q2.1 8 2, q2))))) else some (.inl (.inl ((-6 : Int32), q2))))) else some (.inl (.inl (q2.1 8 2, q2))))))

set_option maxRecDepth 20000 in
set_option maxHeartbeats 2000000 in
theorem S_Te_read_B19 {C : QC} (hc : OKX C RX6 cX6_read 2 48 (some .int)) (hSH : q_SH C = SHK) (v : Int32 × QM) {res : ((Int32 × QM) ⊕ (QM)) ⊕ (Int32 × QM)} (h : Te_read_B19 v = some res) (kr : ∀ x : Int32 × QM, res = .inl (.inl x) → q_r C = some (.int x.1) ∧ q_M C = x.2) (ke : ∀ x : QM, res = .inl (.inr x) → WX C 2 95 [(0, .ref 8)] [] x) (kb : ∀ x : Int32 × QM, res = .inr x → WX C 2 19 [(0, .ref 8), (1, .int x.1)] [] x.2) : WX C 2 19 [(0, .ref 8), (1, .int v.1)] [] v.2 := by
  unfold Te_read_B19 at h
  refine x_iload_n hc dX6_read_19 rfl 1 rfl ?_
  refine x_bipush hc dX6_read_20 kb_8 ?_
  refine x_icmp_gt (tgt := 95) hc dX6_read_22 (by decide) (fun hb => ?_) (fun hb => ?_)
  · have h := ite_t hb h
    cases h
    exact x_sub (ke v.2 rfl) [0] rfl
  · have h := ite_f hb h
    refine x_aload_n hc dX6_read_25 rfl 0 rfl ?_
    obtain ⟨q2, h2, h⟩ := bd_some h
    refine x_callVv (As := []) (st := []) (o := 8) hc dX6_read_26 cv_X6_readNaming lk_RX6_35 (q_s hSH sh_8) rfl rfl (q_cn hSH (S_Te_readNaming h2)) (by decide) (Nat.le_of_ble_eq_true rfl) ?_
    refine x_aload_n hc dX6_read_29 rfl 0 rfl ?_
    refine x_getI hc dX6_read_30 fl_RX6_28 (q_s hSH sh_8) rfl ?_
    refine x_if_eq (tgt := 41) hc dX6_read_33 (by decide) (fun hb => ?_) (fun hb => ?_)
    · have h := ite_t hb h
      refine x_aload_n hc dX6_read_41 rfl 0 rfl ?_
      refine x_getI hc dX6_read_42 fl_RX6_24 (q_s hSH sh_8) rfl ?_
      refine x_aload_n hc dX6_read_45 rfl 0 rfl ?_
      refine x_getR hc dX6_read_46 fl_RX6_9 (q_s hSH sh_8) rfl ?_
      obtain ⟨q3, h3, h⟩ := bd_some h
      refine x_callVi (As := []) (st := [.int (q2.1 8 2)]) (o := 1) hc dX6_read_49 cv_X4_length lk_RX6_38 (q_s hSH sh_1) rfl rfl (q_cn hSH (S_Pa_length h3)) (by decide) (Nat.le_of_ble_eq_true rfl) ?_
      refine x_icmp_lt (tgt := 58) hc dX6_read_52 (by decide) (fun hb => ?_) (fun hb => ?_)
      · have h := ite_t hb h
        refine x_aload_n hc dX6_read_58 rfl 0 rfl ?_
        refine x_getR hc dX6_read_59 fl_RX6_9 (q_s hSH sh_8) rfl ?_
        refine x_aload_n hc dX6_read_62 rfl 0 rfl ?_
        refine x_getI hc dX6_read_63 fl_RX6_24 (q_s hSH sh_8) rfl ?_
        obtain ⟨q4, h4, h⟩ := bd_some h
        refine x_callVi (As := [.int (q2.1 8 2)]) (st := []) (o := 1) hc dX6_read_66 cv_X4_signAt lk_RX6_44 (q_s hSH sh_1) rfl rfl (q_cn hSH (S_Pa_signAt h4)) (by decide) (Nat.le_of_ble_eq_true rfl) ?_
        refine x_bipush hc dX6_read_69 kb_59 ?_
        refine x_icmp_eq (tgt := 79) hc dX6_read_71 (by decide) (fun hb => ?_) (fun hb => ?_)
        · have h := ite_t hb h
          refine x_aload_n hc dX6_read_79 rfl 0 rfl ?_
          refine x_dup hc dX6_read_80 rfl ?_
          refine x_getI hc dX6_read_81 fl_RX6_24 (q_s hSH sh_8) rfl ?_
          refine x_iconst hc dX6_read_84 kc_1 ?_
          refine x_iadd hc dX6_read_85 ?_
          refine x_putI hc dX6_read_86 fl_RX6_24 (fw_6_2 _) (q_s hSH sh_8) rfl ?_
          refine x_iinc (v := v.1 + (1 : Int32)) (L2 := [(1, .int (v.1 + (1 : Int32))), (0, .ref 8)]) hc dX6_read_89 1 rfl (by rw [kc_1]) (by decide) rfl ?_
          refine x_goto (tgt := 19) hc dX6_read_92 (by decide) ?_
          cases h
          exact x_sub (kb (v.1 + (1 : Int32), u_i q2 8 2 ((q2.1 8 2) + (1 : Int32))) rfl) [1, 0] rfl
        · have h := ite_f hb h
          refine x_aload_n hc dX6_read_74 rfl 0 rfl ?_
          refine x_getI hc dX6_read_75 fl_RX6_24 (q_s hSH sh_8) rfl ?_
          cases h
          exact x_iret hc dX6_read_78 (kr _ rfl).1 (kr _ rfl).2
      · have h := ite_f hb h
        refine x_bipush hc dX6_read_55 kb_m6 ?_
        cases h
        exact x_iret hc dX6_read_57 (kr _ rfl).1 (kr _ rfl).2
    · have h := ite_f hb h
      refine x_aload_n hc dX6_read_36 rfl 0 rfl ?_
      refine x_getI hc dX6_read_37 fl_RX6_24 (q_s hSH sh_8) rfl ?_
      cases h
      exact x_iret hc dX6_read_40 (kr _ rfl).1 (kr _ rfl).2

theorem S_Te_read_L19 {C : QC} (hc : OKX C RX6 cX6_read 2 48 (some .int)) (hSH : q_SH C = SHK) {n : Nat} {v : Int32 × QM} {e : (Int32 × QM) ⊕ (QM)} (h : iter (Te_read_B19) n v = some e) (kr : ∀ x : Int32 × QM, e = .inl x → q_r C = some (.int x.1) ∧ q_M C = x.2) (ke : ∀ x : QM, e = .inr x → WX C 2 95 [(0, .ref 8)] [] x) : WX C 2 19 [(0, .ref 8), (1, .int v.1)] [] v.2 :=
  iter_W (Wh := fun v => WX C 2 19 [(0, .ref 8), (1, .int v.1)] [] v.2) (fun a res hB k1 k2 => S_Te_read_B19 hc hSH a hB (fun x hx => kr x (k1 _ hx).symm) (fun x hx => ke x (k1 _ hx).symm) k2) n v h

def Te_read (M : QM) : Option (Int32 × QM) :=
  Option.bind (Dr_clear M) (fun q1 => Option.bind (iter (Te_read_B19) FU ((0 : Int32), u_i (u_i q1 8 2 (0 : Int32)) 8 3 (0 : Int32))) (fun e5 => Sum.elim (fun r5 => some r5) (fun y5 => some (y5.1 8 2, y5)) e5))

set_option maxRecDepth 20000 in
set_option maxHeartbeats 2000000 in
theorem S_Te_read  {M : QM} {res : Int32 × QM} (h : Te_read M = some res) : Cn yX6_read cX6_read 2 (some .int) 48 SHK [.ref 8] M (some (.int res.1)) res.2 := by
  refine q_enter (L := [(0, .ref 8)]) (by decide) (Nat.le_of_ble_eq_true rfl) rfl ?_
  intro C hc hSH hr hM
  have hc : OKX C RX6 cX6_read 2 48 (some .int) := hc
  unfold Te_read at h
  refine x_aload_n hc dX6_read_0 rfl 0 rfl ?_
  refine x_getR hc dX6_read_1 fl_RX6_20 (q_s hSH sh_8) rfl ?_
  obtain ⟨q1, h1, h⟩ := bd_some h
  refine x_callVv (As := []) (st := []) (o := 9) hc dX6_read_4 cv_X3_clear lk_RX6_32 (q_s hSH sh_9) rfl rfl (q_cn hSH (S_Dr_clear h1)) (by decide) (Nat.le_of_ble_eq_true rfl) ?_
  refine x_aload_n hc dX6_read_7 rfl 0 rfl ?_
  refine x_iconst hc dX6_read_8 kc_0 ?_
  refine x_putI hc dX6_read_9 fl_RX6_24 (fw_6_2 _) (q_s hSH sh_8) rfl ?_
  refine x_aload_n hc dX6_read_12 rfl 0 rfl ?_
  refine x_iconst hc dX6_read_13 kc_0 ?_
  refine x_putI hc dX6_read_14 fl_RX6_28 (fw_6_3 _ (Or.inl rfl)) (q_s hSH sh_8) rfl ?_
  refine x_iconst hc dX6_read_17 kc_0 ?_
  refine x_istore_n (L2 := [(1, .int (0 : Int32)), (0, .ref 8)]) hc dX6_read_18 rfl (by decide) rfl ?_
  obtain ⟨e5, h5, h⟩ := bd_some h
  refine x_sub (S_Te_read_L19 hc hSH (v := ((0 : Int32), u_i (u_i q1 8 2 (0 : Int32)) 8 3 (0 : Int32))) h5 (fun r5 hx => ?_) (fun y5 hx => ?_)) [1, 0] rfl
  · subst hx
    have h := sum_l h
    cases h
    exact ⟨hr, hM⟩
  · subst hx
    have h := sum_r h
    refine x_aload_n hc dX6_read_95 rfl 0 rfl ?_
    refine x_getI hc dX6_read_96 fl_RX6_24 (q_s hSH sh_8) rfl ?_
    cases h
    exact x_iret hc dX6_read_99 hr hM

