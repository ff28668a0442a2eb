def Pa_clear (M : QM) : Option (QM) :=
  some (u_i M 1 1 (0 : Int32))

set_option maxRecDepth 20000 in
set_option maxHeartbeats 2000000 in
theorem S_Pa_clear  {M : QM} {res : QM} (h : Pa_clear M = some res) : Cn yX4_clear cX4_clear 1 none 0 SHK [.ref 1] M (none) res := by
  refine q_enter (L := [(0, .ref 1)]) (by decide) (Nat.le_of_ble_eq_true rfl) rfl ?_
  intro C hc hSH hr hM
  have hc : OKX C RX4 cX4_clear 1 0 none := hc
  unfold Pa_clear at h
  refine x_aload_n hc dX4_clear_0 rfl 0 rfl ?_
  refine x_iconst hc dX4_clear_1 kc_0 ?_
  refine x_putI hc dX4_clear_2 fl_RX4_15 (fw_4_1 _) (q_s hSH sh_1) rfl ?_
  cases h
  exact x_vret hc dX4_clear_5 hr hM

def Pa_lay (p1 : Int32) (M : QM) : Option (Int32 × QM) :=
  (if (M.1 1 1) < 0 then some ((0 : Int32), M) else (if (M.1 1 1) < (100 : Int32) then ck (inb (M.1 1 1) 100) (some ((1 : Int32), u_i (u_i M 2 (M.1 1 1).toNatClampNeg p1) 1 1 (((u_i M 2 (M.1 1 1).toNatClampNeg p1).1 1 1) + (1 : Int32)))) else some ((0 : Int32), M)))

set_option maxRecDepth 20000 in
set_option maxHeartbeats 2000000 in
theorem S_Pa_lay  {p1 : Int32} {M : QM} {res : Int32 × QM} (h : Pa_lay p1 M = some res) : Cn yX4_lay cX4_lay 2 (some .boolean) 0 SHK [.ref 1, .int p1] M (some (.int res.1)) res.2 := by
  refine q_enter (L := [(0, .ref 1), (1, .int p1)]) (by decide) (Nat.le_of_ble_eq_true rfl) rfl ?_
  intro C hc hSH hr hM
  have hc : OKX C RX4 cX4_lay 2 0 (some .boolean) := hc
  unfold Pa_lay at h
  refine x_aload_n hc dX4_lay_0 rfl 0 rfl ?_
  refine x_getI hc dX4_lay_1 fl_RX4_15 (q_s hSH sh_1) rfl ?_
  refine x_if_lt (tgt := 16) hc dX4_lay_4 (by decide) (fun hb => ?_) (fun hb => ?_)
  · have h := ite_t hb h
    refine x_iconst hc dX4_lay_16 kc_0 ?_
    cases h
    exact x_zret hc dX4_lay_17 nar_0 hr hM
  · have h := ite_f hb h
    refine x_aload_n hc dX4_lay_7 rfl 0 rfl ?_
    refine x_getI hc dX4_lay_8 fl_RX4_15 (q_s hSH sh_1) rfl ?_
    refine x_bipush hc dX4_lay_11 kb_100 ?_
    refine x_icmp_lt (tgt := 18) hc dX4_lay_13 (by decide) (fun hb => ?_) (fun hb => ?_)
    · have h := ite_t hb h
      refine x_aload_n hc dX4_lay_18 rfl 0 rfl ?_
      refine x_getR hc dX4_lay_19 fl_RX4_9 (q_s hSH sh_1) rfl ?_
      refine x_aload_n hc dX4_lay_22 rfl 0 rfl ?_
      refine x_getI hc dX4_lay_23 fl_RX4_15 (q_s hSH sh_1) rfl ?_
      refine x_iload_n hc dX4_lay_26 rfl 1 rfl ?_
      obtain ⟨b1, h⟩ := ck_some h
      refine x_iast hc dX4_lay_27 (q_s hSH sh_2) (inb_in b1) ?_
      refine x_aload_n hc dX4_lay_28 rfl 0 rfl ?_
      refine x_dup hc dX4_lay_29 rfl ?_
      refine x_getI hc dX4_lay_30 fl_RX4_15 (q_s hSH sh_1) rfl ?_
      refine x_iconst hc dX4_lay_33 kc_1 ?_
      refine x_iadd hc dX4_lay_34 ?_
      refine x_putI hc dX4_lay_35 fl_RX4_15 (fw_4_1 _) (q_s hSH sh_1) rfl ?_
      refine x_iconst hc dX4_lay_38 kc_1 ?_
      cases h
      exact x_zret hc dX4_lay_39 nar_1 hr hM
    · have h := ite_f hb h
      refine x_iconst hc dX4_lay_16 kc_0 ?_
      cases h
      exact x_zret hc dX4_lay_17 nar_0 hr hM

def Pa_length (M : QM) : Option (Int32) :=
  some (M.1 1 1)

set_option maxRecDepth 20000 in
set_option maxHeartbeats 2000000 in
theorem S_Pa_length  {M : QM} {res : Int32} (h : Pa_length M = some res) : Cn yX4_length cX4_length 1 (some .int) 0 SHK [.ref 1] M (some (.int res)) M := by
  refine q_enter (L := [(0, .ref 1)]) (by decide) (Nat.le_of_ble_eq_true rfl) rfl ?_
  intro C hc hSH hr hM
  have hc : OKX C RX4 cX4_length 1 0 (some .int) := hc
  unfold Pa_length at h
  refine x_aload_n hc dX4_length_0 rfl 0 rfl ?_
  refine x_getI hc dX4_length_1 fl_RX4_15 (q_s hSH sh_1) rfl ?_
  cases h
  exact x_iret hc dX4_length_4 hr hM

def Pa_signAt (p1 : Int32) (M : QM) : Option (Int32) :=
  (if p1 < 0 then some (0 : Int32) else (if (M.1 1 1) ≤ p1 then some (0 : Int32) else (if (100 : Int32) ≤ p1 then some (0 : Int32) else ck (inb p1 100) (some (M.1 2 p1.toNatClampNeg)))))

set_option maxRecDepth 20000 in
set_option maxHeartbeats 2000000 in
theorem S_Pa_signAt  {p1 : Int32} {M : QM} {res : Int32} (h : Pa_signAt p1 M = some res) : Cn yX4_signAt cX4_signAt 2 (some .int) 0 SHK [.ref 1, .int p1] M (some (.int res)) M := by
  refine q_enter (L := [(0, .ref 1), (1, .int p1)]) (by decide) (Nat.le_of_ble_eq_true rfl) rfl ?_
  intro C hc hSH hr hM
  have hc : OKX C RX4 cX4_signAt 2 0 (some .int) := hc
  unfold Pa_signAt at h
  refine x_iload_n hc dX4_signAt_0 rfl 1 rfl ?_
  refine x_if_lt (tgt := 27) hc dX4_signAt_1 (by decide) (fun hb => ?_) (fun hb => ?_)
  · have h := ite_t hb h
    refine x_iconst hc dX4_signAt_27 kc_0 ?_
    cases h
    exact x_iret hc dX4_signAt_28 hr hM
  · have h := ite_f hb h
    refine x_iload_n hc dX4_signAt_4 rfl 1 rfl ?_
    refine x_aload_n hc dX4_signAt_5 rfl 0 rfl ?_
    refine x_getI hc dX4_signAt_6 fl_RX4_15 (q_s hSH sh_1) rfl ?_
    refine x_icmp_ge (tgt := 27) hc dX4_signAt_9 (by decide) (fun hb => ?_) (fun hb => ?_)
    · have h := ite_t hb h
      refine x_iconst hc dX4_signAt_27 kc_0 ?_
      cases h
      exact x_iret hc dX4_signAt_28 hr hM
    · have h := ite_f hb h
      refine x_iload_n hc dX4_signAt_12 rfl 1 rfl ?_
      refine x_bipush hc dX4_signAt_13 kb_100 ?_
      refine x_icmp_ge (tgt := 27) hc dX4_signAt_15 (by decide) (fun hb => ?_) (fun hb => ?_)
      · have h := ite_t hb h
        refine x_iconst hc dX4_signAt_27 kc_0 ?_
        cases h
        exact x_iret hc dX4_signAt_28 hr hM
      · have h := ite_f hb h
        refine x_aload_n hc dX4_signAt_18 rfl 0 rfl ?_
        refine x_getR hc dX4_signAt_19 fl_RX4_9 (q_s hSH sh_1) rfl ?_
        refine x_iload_n hc dX4_signAt_22 rfl 1 rfl ?_
        obtain ⟨b1, h⟩ := ck_some h
        refine x_iald hc dX4_signAt_23 (q_s hSH sh_2) (inb_in b1) ?_
        refine x_goto (tgt := 28) hc dX4_signAt_24 (by decide) ?_
        cases h
        exact x_iret hc dX4_signAt_28 hr hM

