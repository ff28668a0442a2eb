def Va_kindBegunBy_J15 (x0 : Int32) (M : QM) : Option (Int32) :=
  (if x0 = 36 then some (115 : Int32) else if x0 = 40 then some (42 : Int32) else if x0 = 70 then some (116 : Int32) else if x0 = 84 then some (116 : Int32) else if x0 = 91 then some (91 : Int32) else if x0 = 123 then some (123 : Int32) else some (-6 : Int32))

set_option maxRecDepth 20000 in
set_option maxHeartbeats 2000000 in
theorem S_Va_kindBegunBy_J15 {C : QC} (hc : OKX C RX7 cX7_kindBegunBy 1 0 (some .int)) (hSH : q_SH C = SHK) (x0 : Int32) (M : QM) {res : Int32} (h : Va_kindBegunBy_J15 x0 M = some res) (hr : q_r C = some (.int res)) (hM : q_M C = M) : WX C 1 15 [(0, .int x0)] [] M := by
  unfold Va_kindBegunBy_J15 at h
  refine x_iload_n hc dX7_kindBegunBy_15 rfl 0 rfl ?_
  by_cases s1 : x0 = 36
  · have h := ite_t s1 h
    refine x_lookup (off := 63) (tgt := 79) hc dX7_kindBegunBy_16 (by decide) (q_hit s1 (by decide)) (by decide) ?_
    refine x_bipush hc dX7_kindBegunBy_79 kb_115 ?_
    cases h
    exact x_iret hc dX7_kindBegunBy_81 hr hM
  · have h := ite_f s1 h
    by_cases s2 : x0 = 40
    · have h := ite_t s2 h
      refine x_lookup (off := 72) (tgt := 88) hc dX7_kindBegunBy_16 (by decide) ((lv_osw s1 (by decide)).trans (q_hit s2 (by decide))) (by decide) ?_
      refine x_bipush hc dX7_kindBegunBy_88 kb_42 ?_
      cases h
      exact x_iret hc dX7_kindBegunBy_90 hr hM
    · have h := ite_f s2 h
      by_cases s3 : x0 = 70
      · have h := ite_t s3 h
        refine x_lookup (off := 60) (tgt := 76) hc dX7_kindBegunBy_16 (by decide) ((lv_osw s1 (by decide)).trans ((lv_osw s2 (by decide)).trans (q_hit s3 (by decide)))) (by decide) ?_
        refine x_bipush hc dX7_kindBegunBy_76 kb_116 ?_
        cases h
        exact x_iret hc dX7_kindBegunBy_78 hr hM
      · have h := ite_f s3 h
        by_cases s4 : x0 = 84
        · have h := ite_t s4 h
          refine x_lookup (off := 60) (tgt := 76) hc dX7_kindBegunBy_16 (by decide) ((lv_osw s1 (by decide)).trans ((lv_osw s2 (by decide)).trans ((lv_osw s3 (by decide)).trans (q_hit s4 (by decide))))) (by decide) ?_
          refine x_bipush hc dX7_kindBegunBy_76 kb_116 ?_
          cases h
          exact x_iret hc dX7_kindBegunBy_78 hr hM
        · have h := ite_f s4 h
          by_cases s5 : x0 = 91
          · have h := ite_t s5 h
            refine x_lookup (off := 69) (tgt := 85) hc dX7_kindBegunBy_16 (by decide) ((lv_osw s1 (by decide)).trans ((lv_osw s2 (by decide)).trans ((lv_osw s3 (by decide)).trans ((lv_osw s4 (by decide)).trans (q_hit s5 (by decide)))))) (by decide) ?_
            refine x_bipush hc dX7_kindBegunBy_85 kb_91 ?_
            cases h
            exact x_iret hc dX7_kindBegunBy_87 hr hM
          · have h := ite_f s5 h
            by_cases s6 : x0 = 123
            · have h := ite_t s6 h
              refine x_lookup (off := 66) (tgt := 82) hc dX7_kindBegunBy_16 (by decide) ((lv_osw s1 (by decide)).trans ((lv_osw s2 (by decide)).trans ((lv_osw s3 (by decide)).trans ((lv_osw s4 (by decide)).trans ((lv_osw s5 (by decide)).trans (q_hit s6 (by decide))))))) (by decide) ?_
              refine x_bipush hc dX7_kindBegunBy_82 kb_123 ?_
              cases h
              exact x_iret hc dX7_kindBegunBy_84 hr hM
            · have h := ite_f s6 h
              refine x_lookup (off := 75) (tgt := 91) hc dX7_kindBegunBy_16 (by decide) ((lv_osw s1 (by decide)).trans ((lv_osw s2 (by decide)).trans ((lv_osw s3 (by decide)).trans ((lv_osw s4 (by decide)).trans ((lv_osw s5 (by decide)).trans ((lv_osw s6 (by decide)).trans rfl)))))) (by decide) ?_
              refine x_bipush hc dX7_kindBegunBy_91 kb_m6 ?_
              cases h
              exact x_iret hc dX7_kindBegunBy_93 hr hM

def Va_kindBegunBy (p0 : Int32) (M : QM) : Option (Int32) :=
  (if p0 < (48 : Int32) then Va_kindBegunBy_J15 p0 M else (if (57 : Int32) < p0 then Va_kindBegunBy_J15 p0 M else some (110 : Int32)))

set_option maxRecDepth 20000 in
set_option maxHeartbeats 2000000 in
theorem S_Va_kindBegunBy  {p0 : Int32} {M : QM} {res : Int32} (h : Va_kindBegunBy p0 M = some res) : Cn yX7_kindBegunBy cX7_kindBegunBy 1 (some .int) 0 SHK [.int p0] M (some (.int res)) M := by
  refine q_enter (L := [(0, .int p0)]) (by decide) (Nat.le_of_ble_eq_true rfl) rfl ?_
  intro C hc hSH hr hM
  have hc : OKX C RX7 cX7_kindBegunBy 1 0 (some .int) := hc
  unfold Va_kindBegunBy at h
  refine x_iload_n hc dX7_kindBegunBy_0 rfl 0 rfl ?_
  refine x_bipush hc dX7_kindBegunBy_1 kb_48 ?_
  refine x_icmp_lt (tgt := 15) hc dX7_kindBegunBy_3 (by decide) (fun hb => ?_) (fun hb => ?_)
  · have h := ite_t hb h
    exact x_sub (S_Va_kindBegunBy_J15 hc hSH p0 M h hr hM) [0] rfl
  · have h := ite_f hb h
    refine x_iload_n hc dX7_kindBegunBy_6 rfl 0 rfl ?_
    refine x_bipush hc dX7_kindBegunBy_7 kb_57 ?_
    refine x_icmp_gt (tgt := 15) hc dX7_kindBegunBy_9 (by decide) (fun hb => ?_) (fun hb => ?_)
    · have h := ite_t hb h
      exact x_sub (S_Va_kindBegunBy_J15 hc hSH p0 M h hr hM) [0] rfl
    · have h := ite_f hb h
      refine x_bipush hc dX7_kindBegunBy_12 kb_110 ?_
      cases h
      exact x_iret hc dX7_kindBegunBy_14 hr hM

def Va_noteMisfit (p1 : Int32) (M : QM) : Option (QM) :=
  (if (M.1 24 9) = (-6 : Int32) then some (u_i M 24 9 p1) else some M)

set_option maxRecDepth 20000 in
set_option maxHeartbeats 2000000 in
theorem S_Va_noteMisfit  {p1 : Int32} {M : QM} {res : QM} (h : Va_noteMisfit p1 M = some res) : Cn yX7_noteMisfit cX7_noteMisfit 2 none 0 SHK [.ref 24, .int p1] M (none) res := by
  refine q_enter (L := [(0, .ref 24), (1, .int p1)]) (by decide) (Nat.le_of_ble_eq_true rfl) rfl ?_
  intro C hc hSH hr hM
  have hc : OKX C RX7 cX7_noteMisfit 2 0 none := hc
  unfold Va_noteMisfit at h
  refine x_aload_n hc dX7_noteMisfit_0 rfl 0 rfl ?_
  refine x_getI hc dX7_noteMisfit_1 fl_RX7_42 (q_s hSH sh_24) rfl ?_
  refine x_bipush hc dX7_noteMisfit_4 kb_m6 ?_
  refine x_icmp_ne (tgt := 14) hc dX7_noteMisfit_6 (by decide) (fun hb => ?_) (fun hb => ?_)
  · have h := ite_f hb h
    cases h
    exact x_vret hc dX7_noteMisfit_14 hr hM
  · have h := ite_t hb h
    refine x_aload_n hc dX7_noteMisfit_9 rfl 0 rfl ?_
    refine x_iload_n hc dX7_noteMisfit_10 rfl 1 rfl ?_
    refine x_putI hc dX7_noteMisfit_11 fl_RX7_42 (fw_7_9 _) (q_s hSH sh_24) rfl ?_
    cases h
    exact x_vret hc dX7_noteMisfit_14 hr hM

def Va_nodeHeldAgainst (p1 : Int32) (p2 : Int32) (M : QM) : Option (Int32 × QM) :=
  (if (M.1 24 7) = (-7 : Int32) then some ((-7 : Int32), M) else Option.bind (Ne_signOf (M.1 24 7) M) (fun q1 => (if q1 = (46 : Int32) then some ((-7 : Int32), M) else Option.bind (Ne_signOf (M.1 24 7) M) (fun q2 => (if q2 = p1 then some (M.1 24 7, M) else Option.bind (Va_noteMisfit p2 M) (fun q3 => some ((-7 : Int32), q3)))))))

set_option maxRecDepth 20000 in
set_option maxHeartbeats 2000000 in
theorem S_Va_nodeHeldAgainst  {p1 : Int32} {p2 : Int32} {M : QM} {res : Int32 × QM} (h : Va_nodeHeldAgainst p1 p2 M = some res) : Cn yX7_nodeHeldAgainst cX7_nodeHeldAgainst 3 (some .int) 1 SHK [.ref 24, .int p1, .int p2] M (some (.int res.1)) res.2 := by
  refine q_enter (L := [(0, .ref 24), (1, .int p1), (2, .int p2)]) (by decide) (Nat.le_of_ble_eq_true rfl) rfl ?_
  intro C hc hSH hr hM
  have hc : OKX C RX7 cX7_nodeHeldAgainst 3 1 (some .int) := hc
  unfold Va_nodeHeldAgainst at h
  refine x_aload_n hc dX7_nodeHeldAgainst_0 rfl 0 rfl ?_
  refine x_getI hc dX7_nodeHeldAgainst_1 fl_RX7_36 (q_s hSH sh_24) rfl ?_
  refine x_bipush hc dX7_nodeHeldAgainst_4 kb_m7 ?_
  refine x_icmp_eq (tgt := 25) hc dX7_nodeHeldAgainst_6 (by decide) (fun hb => ?_) (fun hb => ?_)
  · have h := ite_t hb h
    refine x_bipush hc dX7_nodeHeldAgainst_25 kb_m7 ?_
    cases h
    exact x_iret hc dX7_nodeHeldAgainst_27 hr hM
  · have h := ite_f hb h
    refine x_aload_n hc dX7_nodeHeldAgainst_9 rfl 0 rfl ?_
    refine x_getR hc dX7_nodeHeldAgainst_10 fl_RX7_15 (q_s hSH sh_24) rfl ?_
    refine x_aload_n hc dX7_nodeHeldAgainst_13 rfl 0 rfl ?_
    refine x_getI hc dX7_nodeHeldAgainst_14 fl_RX7_36 (q_s hSH sh_24) rfl ?_
    obtain ⟨q1, h1, h⟩ := bd_some h
    refine x_callVi (As := [.int (M.1 24 7)]) (st := []) (o := 3) hc dX7_nodeHeldAgainst_17 cv_X3_signOf lk_RX7_88 (q_s hSH sh_3) rfl rfl (q_cn hSH (S_Ne_signOf h1)) (by decide) (Nat.le_of_ble_eq_true rfl) ?_
    refine x_bipush hc dX7_nodeHeldAgainst_20 kb_46 ?_
    refine x_icmp_ne (tgt := 28) hc dX7_nodeHeldAgainst_22 (by decide) (fun hb => ?_) (fun hb => ?_)
    · have h := ite_f hb h
      refine x_aload_n hc dX7_nodeHeldAgainst_28 rfl 0 rfl ?_
      refine x_getR hc dX7_nodeHeldAgainst_29 fl_RX7_15 (q_s hSH sh_24) rfl ?_
      refine x_aload_n hc dX7_nodeHeldAgainst_32 rfl 0 rfl ?_
      refine x_getI hc dX7_nodeHeldAgainst_33 fl_RX7_36 (q_s hSH sh_24) rfl ?_
      obtain ⟨q2, h2, h⟩ := bd_some h
      refine x_callVi (As := [.int (M.1 24 7)]) (st := []) (o := 3) hc dX7_nodeHeldAgainst_36 cv_X3_signOf lk_RX7_88 (q_s hSH sh_3) rfl rfl (q_cn hSH (S_Ne_signOf h2)) (by decide) (Nat.le_of_ble_eq_true rfl) ?_
      refine x_iload_n hc dX7_nodeHeldAgainst_39 rfl 1 rfl ?_
      refine x_icmp_ne (tgt := 48) hc dX7_nodeHeldAgainst_40 (by decide) (fun hb => ?_) (fun hb => ?_)
      · have h := ite_f hb h
        refine x_aload_n hc dX7_nodeHeldAgainst_48 rfl 0 rfl ?_
        refine x_iload_n hc dX7_nodeHeldAgainst_49 rfl 2 rfl ?_
        obtain ⟨q3, h3, h⟩ := bd_some h
        refine x_callVv (As := [.int p2]) (st := []) (o := 24) hc dX7_nodeHeldAgainst_50 cv_X7_noteMisfit lk_RX7_93 (q_s hSH sh_24) rfl rfl (q_cn hSH (S_Va_noteMisfit h3)) (by decide) (Nat.le_of_ble_eq_true rfl) ?_
        refine x_bipush hc dX7_nodeHeldAgainst_53 kb_m7 ?_
        cases h
        exact x_iret hc dX7_nodeHeldAgainst_55 hr hM
      · have h := ite_t hb h
        refine x_aload_n hc dX7_nodeHeldAgainst_43 rfl 0 rfl ?_
        refine x_getI hc dX7_nodeHeldAgainst_44 fl_RX7_36 (q_s hSH sh_24) rfl ?_
        cases h
        exact x_iret hc dX7_nodeHeldAgainst_47 hr hM
    · have h := ite_t hb h
      refine x_bipush hc dX7_nodeHeldAgainst_25 kb_m7 ?_
      cases h
      exact x_iret hc dX7_nodeHeldAgainst_27 hr hM

def Va_isInnermostKnown (M : QM) : Option (Int32) :=
  (if (M.1 24 5) ≤ 0 then some (0 : Int32) else (if (100 : Int32) < (M.1 24 5) then some (0 : Int32) else some (1 : Int32)))

set_option maxRecDepth 20000 in
set_option maxHeartbeats 2000000 in
theorem S_Va_isInnermostKnown  {M : QM} {res : Int32} (h : Va_isInnermostKnown M = some res) : Cn yX7_isInnermostKnown cX7_isInnermostKnown 1 (some .boolean) 0 SHK [.ref 24] M (some (.int res)) M := by
  refine q_enter (L := [(0, .ref 24)]) (by decide) (Nat.le_of_ble_eq_true rfl) rfl ?_
  intro C hc hSH hr hM
  have hc : OKX C RX7 cX7_isInnermostKnown 1 0 (some .boolean) := hc
  unfold Va_isInnermostKnown at h
  refine x_aload_n hc dX7_isInnermostKnown_0 rfl 0 rfl ?_
  refine x_getI hc dX7_isInnermostKnown_1 fl_RX7_29 (q_s hSH sh_24) rfl ?_
  refine x_if_le (tgt := 20) hc dX7_isInnermostKnown_4 (by decide) (fun hb => ?_) (fun hb => ?_)
  · have h := ite_t hb h
    refine x_iconst hc dX7_isInnermostKnown_20 kc_0 ?_
    cases h
    exact x_zret hc dX7_isInnermostKnown_21 nar_0 hr hM
  · have h := ite_f hb h
    refine x_aload_n hc dX7_isInnermostKnown_7 rfl 0 rfl ?_
    refine x_getI hc dX7_isInnermostKnown_8 fl_RX7_29 (q_s hSH sh_24) rfl ?_
    refine x_bipush hc dX7_isInnermostKnown_11 kb_100 ?_
    refine x_icmp_gt (tgt := 20) hc dX7_isInnermostKnown_13 (by decide) (fun hb => ?_) (fun hb => ?_)
    · have h := ite_t hb h
      refine x_iconst hc dX7_isInnermostKnown_20 kc_0 ?_
      cases h
      exact x_zret hc dX7_isInnermostKnown_21 nar_0 hr hM
    · have h := ite_f hb h
      refine x_iconst hc dX7_isInnermostKnown_16 kc_1 ?_
      refine x_goto (tgt := 21) hc dX7_isInnermostKnown_17 (by decide) ?_
      cases h
      exact x_zret hc dX7_isInnermostKnown_21 nar_1 hr hM

def Va_endValue_J62 (s0 : Int32) (M : QM) : Option (Int32 × QM) :=
  some ((1 : Int32), u_i M 24 6 s0)

set_option maxRecDepth 20000 in
set_option maxHeartbeats 2000000 in
theorem S_Va_endValue_J62 {C : QC} (hc : OKX C RX7 cX7_endValue 1 1 (some .boolean)) (hSH : q_SH C = SHK) (s0 : Int32) (M : QM) {res : Int32 × QM} (h : Va_endValue_J62 s0 M = some res) (hr : q_r C = some (.int res.1)) (hM : q_M C = res.2) : WX C 1 62 [] [.int s0, .ref 24] M := by
  unfold Va_endValue_J62 at h
  refine x_putI hc dX7_endValue_62 fl_RX7_33 (fw_7_6 _) (q_s hSH sh_24) rfl ?_
  refine x_iconst hc dX7_endValue_65 kc_1 ?_
  cases h
  exact x_zret hc dX7_endValue_66 nar_1 hr hM

def Va_endValue (M : QM) : Option (Int32 × QM) :=
  Option.bind (Va_isInnermostKnown M) (fun q1 => (if q1 = 0 then some ((1 : Int32), u_i M 24 6 (6 : Int32)) else ck (inb ((M.1 24 5) - (1 : Int32)) 100) ((if (M.1 25 ((M.1 24 5) - (1 : Int32)).toNatClampNeg) = (123 : Int32) then some ((1 : Int32), u_i M 24 6 (2 : Int32)) else ck (inb ((M.1 24 5) - (1 : Int32)) 100) ((if (M.1 25 ((M.1 24 5) - (1 : Int32)).toNatClampNeg) = (91 : Int32) then Va_endValue_J62 (4 : Int32) M else Va_endValue_J62 (1 : Int32) M))))))

set_option maxRecDepth 20000 in
set_option maxHeartbeats 2000000 in
theorem S_Va_endValue  {M : QM} {res : Int32 × QM} (h : Va_endValue M = some res) : Cn yX7_endValue cX7_endValue 1 (some .boolean) 1 SHK [.ref 24] M (some (.int res.1)) res.2 := by
  refine q_enter (L := [(0, .ref 24)]) (by decide) (Nat.le_of_ble_eq_true rfl) rfl ?_
  intro C hc hSH hr hM
  have hc : OKX C RX7 cX7_endValue 1 1 (some .boolean) := hc
  unfold Va_endValue at h
  refine x_aload_n hc dX7_endValue_0 rfl 0 rfl ?_
  obtain ⟨q1, h1, h⟩ := bd_some h
  refine x_callVi (As := []) (st := []) (o := 24) hc dX7_endValue_1 cv_X7_isInnermostKnown lk_RX7_97 (q_s hSH sh_24) rfl rfl (q_cn hSH (S_Va_isInnermostKnown h1)) (by decide) (Nat.le_of_ble_eq_true rfl) ?_
  refine x_if_ne (tgt := 16) hc dX7_endValue_4 (by decide) (fun hb => ?_) (fun hb => ?_)
  · have h := ite_f hb h
    refine x_aload_n hc dX7_endValue_16 rfl 0 rfl ?_
    refine x_getR hc dX7_endValue_17 fl_RX7_19 (q_s hSH sh_24) rfl ?_
    refine x_aload_n hc dX7_endValue_20 rfl 0 rfl ?_
    refine x_getI hc dX7_endValue_21 fl_RX7_29 (q_s hSH sh_24) rfl ?_
    refine x_iconst hc dX7_endValue_24 kc_1 ?_
    refine x_isub hc dX7_endValue_25 ?_
    obtain ⟨b2, h⟩ := ck_some h
    refine x_iald hc dX7_endValue_26 (q_s hSH sh_25) (inb_in b2) ?_
    refine x_bipush hc dX7_endValue_27 kb_123 ?_
    refine x_icmp_ne (tgt := 40) hc dX7_endValue_29 (by decide) (fun hb => ?_) (fun hb => ?_)
    · have h := ite_f hb h
      refine x_aload_n hc dX7_endValue_40 rfl 0 rfl ?_
      refine x_aload_n hc dX7_endValue_41 rfl 0 rfl ?_
      refine x_getR hc dX7_endValue_42 fl_RX7_19 (q_s hSH sh_24) rfl ?_
      refine x_aload_n hc dX7_endValue_45 rfl 0 rfl ?_
      refine x_getI hc dX7_endValue_46 fl_RX7_29 (q_s hSH sh_24) rfl ?_
      refine x_iconst hc dX7_endValue_49 kc_1 ?_
      refine x_isub hc dX7_endValue_50 ?_
      obtain ⟨b3, h⟩ := ck_some h
      refine x_iald hc dX7_endValue_51 (q_s hSH sh_25) (inb_in b3) ?_
      refine x_bipush hc dX7_endValue_52 kb_91 ?_
      refine x_icmp_ne (tgt := 61) hc dX7_endValue_54 (by decide) (fun hb => ?_) (fun hb => ?_)
      · have h := ite_f hb h
        refine x_iconst hc dX7_endValue_61 kc_1 ?_
        exact x_sub (S_Va_endValue_J62 hc hSH (1 : Int32) M h hr hM) [] rfl
      · have h := ite_t hb h
        refine x_iconst hc dX7_endValue_57 kc_4 ?_
        refine x_goto (tgt := 62) hc dX7_endValue_58 (by decide) ?_
        exact x_sub (S_Va_endValue_J62 hc hSH (4 : Int32) M h hr hM) [] rfl
    · have h := ite_t hb h
      refine x_aload_n hc dX7_endValue_32 rfl 0 rfl ?_
      refine x_iconst hc dX7_endValue_33 kc_2 ?_
      refine x_putI hc dX7_endValue_34 fl_RX7_33 (fw_7_6 _) (q_s hSH sh_24) rfl ?_
      refine x_goto (tgt := 65) hc dX7_endValue_37 (by decide) ?_
      refine x_iconst hc dX7_endValue_65 kc_1 ?_
      cases h
      exact x_zret hc dX7_endValue_66 nar_1 hr hM
  · have h := ite_t hb h
    refine x_aload_n hc dX7_endValue_7 rfl 0 rfl ?_
    refine x_bipush hc dX7_endValue_8 kb_6 ?_
    refine x_putI hc dX7_endValue_10 fl_RX7_33 (fw_7_6 _) (q_s hSH sh_24) rfl ?_
    refine x_goto (tgt := 65) hc dX7_endValue_13 (by decide) ?_
    refine x_iconst hc dX7_endValue_65 kc_1 ?_
    cases h
    exact x_zret hc dX7_endValue_66 nar_1 hr hM

def Va_openValue_J84 (s0 : Int32) (M : QM) : Option (Int32 × QM) :=
  some ((1 : Int32), u_i M 24 6 s0)

set_option maxRecDepth 20000 in
set_option maxHeartbeats 2000000 in
theorem S_Va_openValue_J84 {C : QC} (hc : OKX C RX7 cX7_openValue 3 0 (some .boolean)) (hSH : q_SH C = SHK) (s0 : Int32) (M : QM) {res : Int32 × QM} (h : Va_openValue_J84 s0 M = some res) (hr : q_r C = some (.int res.1)) (hM : q_M C = res.2) : WX C 3 84 [] [.int s0, .ref 24] M := by
  unfold Va_openValue_J84 at h
  refine x_putI hc dX7_openValue_84 fl_RX7_33 (fw_7_6 _) (q_s hSH sh_24) rfl ?_
  refine x_iconst hc dX7_openValue_87 kc_1 ?_
  cases h
  exact x_zret hc dX7_openValue_88 nar_1 hr hM

def Va_openValue (p1 : Int32) (p2 : Int32) (M : QM) : Option (Int32 × QM) :=
  (if (M.1 24 5) < 0 then some ((0 : Int32), M) else (if (M.1 24 5) < (100 : Int32) then ck (inb (M.1 24 5) 100) (ck (inb ((u_i M 25 (M.1 24 5).toNatClampNeg p1).1 24 5) 100) (ck (inb ((u_i (u_i M 25 (M.1 24 5).toNatClampNeg p1) 26 ((u_i M 25 (M.1 24 5).toNatClampNeg p1).1 24 5).toNatClampNeg p2).1 24 5) 100) ((if p1 = (123 : Int32) then some ((1 : Int32), u_i (u_i (u_i (u_i (u_i M 25 (M.1 24 5).toNatClampNeg p1) 26 ((u_i M 25 (M.1 24 5).toNatClampNeg p1).1 24 5).toNatClampNeg p2) 27 ((u_i (u_i M 25 (M.1 24 5).toNatClampNeg p1) 26 ((u_i M 25 (M.1 24 5).toNatClampNeg p1).1 24 5).toNatClampNeg p2).1 24 5).toNatClampNeg (0 : Int32)) 24 5 (((u_i (u_i (u_i M 25 (M.1 24 5).toNatClampNeg p1) 26 ((u_i M 25 (M.1 24 5).toNatClampNeg p1).1 24 5).toNatClampNeg p2) 27 ((u_i (u_i M 25 (M.1 24 5).toNatClampNeg p1) 26 ((u_i M 25 (M.1 24 5).toNatClampNeg p1).1 24 5).toNatClampNeg p2).1 24 5).toNatClampNeg (0 : Int32)).1 24 5) + (1 : Int32))) 24 6 (2 : Int32)) else (if p1 = (91 : Int32) then Va_openValue_J84 (3 : Int32) (u_i (u_i (u_i (u_i M 25 (M.1 24 5).toNatClampNeg p1) 26 ((u_i M 25 (M.1 24 5).toNatClampNeg p1).1 24 5).toNatClampNeg p2) 27 ((u_i (u_i M 25 (M.1 24 5).toNatClampNeg p1) 26 ((u_i M 25 (M.1 24 5).toNatClampNeg p1).1 24 5).toNatClampNeg p2).1 24 5).toNatClampNeg (0 : Int32)) 24 5 (((u_i (u_i (u_i M 25 (M.1 24 5).toNatClampNeg p1) 26 ((u_i M 25 (M.1 24 5).toNatClampNeg p1).1 24 5).toNatClampNeg p2) 27 ((u_i (u_i M 25 (M.1 24 5).toNatClampNeg p1) 26 ((u_i M 25 (M.1 24 5).toNatClampNeg p1).1 24 5).toNatClampNeg p2).1 24 5).toNatClampNeg (0 : Int32)).1 24 5) + (1 : Int32))) else Va_openValue_J84 (1 : Int32) (u_i (u_i (u_i (u_i M 25 (M.1 24 5).toNatClampNeg p1) 26 ((u_i M 25 (M.1 24 5).toNatClampNeg p1).1 24 5).toNatClampNeg p2) 27 ((u_i (u_i M 25 (M.1 24 5).toNatClampNeg p1) 26 ((u_i M 25 (M.1 24 5).toNatClampNeg p1).1 24 5).toNatClampNeg p2).1 24 5).toNatClampNeg (0 : Int32)) 24 5 (((u_i (u_i (u_i M 25 (M.1 24 5).toNatClampNeg p1) 26 ((u_i M 25 (M.1 24 5).toNatClampNeg p1).1 24 5).toNatClampNeg p2) 27 ((u_i (u_i M 25 (M.1 24 5).toNatClampNeg p1) 26 ((u_i M 25 (M.1 24 5).toNatClampNeg p1).1 24 5).toNatClampNeg p2).1 24 5).toNatClampNeg (0 : Int32)).1 24 5) + (1 : Int32)))))))) else some ((0 : Int32), M)))

set_option maxRecDepth 20000 in
set_option maxHeartbeats 2000000 in
theorem S_Va_openValue  {p1 : Int32} {p2 : Int32} {M : QM} {res : Int32 × QM} (h : Va_openValue p1 p2 M = some res) : Cn yX7_openValue cX7_openValue 3 (some .boolean) 0 SHK [.ref 24, .int p1, .int p2] M (some (.int res.1)) res.2 := by
  refine q_enter (L := [(0, .ref 24), (1, .int p1), (2, .int p2)]) (by decide) (Nat.le_of_ble_eq_true rfl) rfl ?_
  intro C hc hSH hr hM
  have hc : OKX C RX7 cX7_openValue 3 0 (some .boolean) := hc
  unfold Va_openValue at h
  refine x_aload_n hc dX7_openValue_0 rfl 0 rfl ?_
  refine x_getI hc dX7_openValue_1 fl_RX7_29 (q_s hSH sh_24) rfl ?_
  refine x_if_lt (tgt := 16) hc dX7_openValue_4 (by decide) (fun hb => ?_) (fun hb => ?_)
  · have h := ite_t hb h
    refine x_iconst hc dX7_openValue_16 kc_0 ?_
    cases h
    exact x_zret hc dX7_openValue_17 nar_0 hr hM
  · have h := ite_f hb h
    refine x_aload_n hc dX7_openValue_7 rfl 0 rfl ?_
    refine x_getI hc dX7_openValue_8 fl_RX7_29 (q_s hSH sh_24) rfl ?_
    refine x_bipush hc dX7_openValue_11 kb_100 ?_
    refine x_icmp_lt (tgt := 18) hc dX7_openValue_13 (by decide) (fun hb => ?_) (fun hb => ?_)
    · have h := ite_t hb h
      refine x_aload_n hc dX7_openValue_18 rfl 0 rfl ?_
      refine x_getR hc dX7_openValue_19 fl_RX7_19 (q_s hSH sh_24) rfl ?_
      refine x_aload_n hc dX7_openValue_22 rfl 0 rfl ?_
      refine x_getI hc dX7_openValue_23 fl_RX7_29 (q_s hSH sh_24) rfl ?_
      refine x_iload_n hc dX7_openValue_26 rfl 1 rfl ?_
      obtain ⟨b1, h⟩ := ck_some h
      refine x_iast hc dX7_openValue_27 (q_s hSH sh_25) (inb_in b1) ?_
      refine x_aload_n hc dX7_openValue_28 rfl 0 rfl ?_
      refine x_getR hc dX7_openValue_29 fl_RX7_23 (q_s hSH sh_24) rfl ?_
      refine x_aload_n hc dX7_openValue_32 rfl 0 rfl ?_
      refine x_getI hc dX7_openValue_33 fl_RX7_29 (q_s hSH sh_24) rfl ?_
      refine x_iload_n hc dX7_openValue_36 rfl 2 rfl ?_
      obtain ⟨b2, h⟩ := ck_some h
      refine x_iast hc dX7_openValue_37 (q_s hSH sh_26) (inb_in b2) ?_
      refine x_aload_n hc dX7_openValue_38 rfl 0 rfl ?_
      refine x_getR hc dX7_openValue_39 fl_RX7_26 (q_s hSH sh_24) rfl ?_
      refine x_aload_n hc dX7_openValue_42 rfl 0 rfl ?_
      refine x_getI hc dX7_openValue_43 fl_RX7_29 (q_s hSH sh_24) rfl ?_
      refine x_iconst hc dX7_openValue_46 kc_0 ?_
      obtain ⟨b3, h⟩ := ck_some h
      refine x_iast hc dX7_openValue_47 (q_s hSH sh_27) (inb_in b3) ?_
      refine x_aload_n hc dX7_openValue_48 rfl 0 rfl ?_
      refine x_dup hc dX7_openValue_49 rfl ?_
      refine x_getI hc dX7_openValue_50 fl_RX7_29 (q_s hSH sh_24) rfl ?_
      refine x_iconst hc dX7_openValue_53 kc_1 ?_
      refine x_iadd hc dX7_openValue_54 ?_
      refine x_putI hc dX7_openValue_55 fl_RX7_29 (fw_7_5 _) (q_s hSH sh_24) rfl ?_
      refine x_iload_n hc dX7_openValue_58 rfl 1 rfl ?_
      refine x_bipush hc dX7_openValue_59 kb_123 ?_
      refine x_icmp_ne (tgt := 72) hc dX7_openValue_61 (by decide) (fun hb => ?_) (fun hb => ?_)
      · have h := ite_f hb h
        refine x_aload_n hc dX7_openValue_72 rfl 0 rfl ?_
        refine x_iload_n hc dX7_openValue_73 rfl 1 rfl ?_
        refine x_bipush hc dX7_openValue_74 kb_91 ?_
        refine x_icmp_ne (tgt := 83) hc dX7_openValue_76 (by decide) (fun hb => ?_) (fun hb => ?_)
        · have h := ite_f hb h
          refine x_iconst hc dX7_openValue_83 kc_1 ?_
          exact x_sub (S_Va_openValue_J84 hc hSH (1 : Int32) (u_i (u_i (u_i (u_i M 25 (M.1 24 5).toNatClampNeg p1) 26 ((u_i M 25 (M.1 24 5).toNatClampNeg p1).1 24 5).toNatClampNeg p2) 27 ((u_i (u_i M 25 (M.1 24 5).toNatClampNeg p1) 26 ((u_i M 25 (M.1 24 5).toNatClampNeg p1).1 24 5).toNatClampNeg p2).1 24 5).toNatClampNeg (0 : Int32)) 24 5 (((u_i (u_i (u_i M 25 (M.1 24 5).toNatClampNeg p1) 26 ((u_i M 25 (M.1 24 5).toNatClampNeg p1).1 24 5).toNatClampNeg p2) 27 ((u_i (u_i M 25 (M.1 24 5).toNatClampNeg p1) 26 ((u_i M 25 (M.1 24 5).toNatClampNeg p1).1 24 5).toNatClampNeg p2).1 24 5).toNatClampNeg (0 : Int32)).1 24 5) + (1 : Int32))) h hr hM) [] rfl
        · have h := ite_t hb h
          refine x_iconst hc dX7_openValue_79 kc_3 ?_
          refine x_goto (tgt := 84) hc dX7_openValue_80 (by decide) ?_
          exact x_sub (S_Va_openValue_J84 hc hSH (3 : Int32) (u_i (u_i (u_i (u_i M 25 (M.1 24 5).toNatClampNeg p1) 26 ((u_i M 25 (M.1 24 5).toNatClampNeg p1).1 24 5).toNatClampNeg p2) 27 ((u_i (u_i M 25 (M.1 24 5).toNatClampNeg p1) 26 ((u_i M 25 (M.1 24 5).toNatClampNeg p1).1 24 5).toNatClampNeg p2).1 24 5).toNatClampNeg (0 : Int32)) 24 5 (((u_i (u_i (u_i M 25 (M.1 24 5).toNatClampNeg p1) 26 ((u_i M 25 (M.1 24 5).toNatClampNeg p1).1 24 5).toNatClampNeg p2) 27 ((u_i (u_i M 25 (M.1 24 5).toNatClampNeg p1) 26 ((u_i M 25 (M.1 24 5).toNatClampNeg p1).1 24 5).toNatClampNeg p2).1 24 5).toNatClampNeg (0 : Int32)).1 24 5) + (1 : Int32))) h hr hM) [] rfl
      · have h := ite_t hb h
        refine x_aload_n hc dX7_openValue_64 rfl 0 rfl ?_
        refine x_iconst hc dX7_openValue_65 kc_2 ?_
        refine x_putI hc dX7_openValue_66 fl_RX7_33 (fw_7_6 _) (q_s hSH sh_24) rfl ?_
        refine x_goto (tgt := 87) hc dX7_openValue_69 (by decide) ?_
        refine x_iconst hc dX7_openValue_87 kc_1 ?_
        cases h
        exact x_zret hc dX7_openValue_88 nar_1 hr hM
    · have h := ite_f hb h
      refine x_iconst hc dX7_openValue_16 kc_0 ?_
      cases h
      exact x_zret hc dX7_openValue_17 nar_0 hr hM

def Va_beginValue_J43 (M : QM) : Option (Int32 × QM) :=
  Option.bind (Va_endValue M) (fun q3 => ck (isb q3.1) (some (q3.1, q3.2)))

set_option maxRecDepth 20000 in
set_option maxHeartbeats 2000000 in
theorem S_Va_beginValue_J43 {C : QC} (hc : OKX C RX7 cX7_beginValue 5 2 (some .boolean)) (hSH : q_SH C = SHK) (M : QM) {res : Int32 × QM} (h : Va_beginValue_J43 M = some res) (hr : q_r C = some (.int res.1)) (hM : q_M C = res.2) : WX C 5 43 [(0, .ref 24)] [] M := by
  unfold Va_beginValue_J43 at h
  refine x_aload_n hc dX7_beginValue_43 rfl 0 rfl ?_
  obtain ⟨q3, h3, h⟩ := bd_some h
  refine x_callVi (As := []) (st := []) (o := 24) hc dX7_beginValue_44 cv_X7_endValue lk_RX7_75 (q_s hSH sh_24) rfl rfl (q_cn hSH (S_Va_endValue h3)) (by decide) (Nat.le_of_ble_eq_true rfl) ?_
  obtain ⟨b4, h⟩ := ck_some h
  cases h
  exact x_zret hc dX7_beginValue_47 (isb_nar b4) hr hM

def Va_beginValue (p1 : Int32) (p2 : Int32) (M : QM) : Option (Int32 × QM) :=
  Option.bind (Va_kindBegunBy p1 M) (fun q1 => (if q1 = (-6 : Int32) then some ((0 : Int32), M) else Option.bind (Va_nodeHeldAgainst q1 p2 (u_i M 24 8 ((M.1 24 8) + (1 : Int32)))) (fun q2 => (if q1 = (110 : Int32) then Va_beginValue_J43 q2.2 else (if q1 = (116 : Int32) then Va_beginValue_J43 q2.2 else (if q1 = (115 : Int32) then some ((1 : Int32), u_i q2.2 24 6 (5 : Int32)) else Option.bind (Va_openValue q1 q2.1 q2.2) (fun q5 => ck (isb q5.1) (some (q5.1, q5.2)))))))))

set_option maxRecDepth 20000 in
set_option maxHeartbeats 2000000 in
theorem S_Va_beginValue  {p1 : Int32} {p2 : Int32} {M : QM} {res : Int32 × QM} (h : Va_beginValue p1 p2 M = some res) : Cn yX7_beginValue cX7_beginValue 5 (some .boolean) 2 SHK [.ref 24, .int p1, .int p2] M (some (.int res.1)) res.2 := by
  refine q_enter (L := [(0, .ref 24), (1, .int p1), (2, .int p2)]) (by decide) (Nat.le_of_ble_eq_true rfl) rfl ?_
  intro C hc hSH hr hM
  have hc : OKX C RX7 cX7_beginValue 5 2 (some .boolean) := hc
  unfold Va_beginValue at h
  refine x_iload_n hc dX7_beginValue_0 rfl 1 rfl ?_
  obtain ⟨q1, h1, h⟩ := bd_some h
  refine x_callSi (As := [.int p1]) (st := []) hc dX7_beginValue_1 cs_X7_kindBegunBy lk_RX7_78 rfl (q_cn hSH (S_Va_kindBegunBy h1)) (by decide) (Nat.le_of_ble_eq_true rfl) ?_
  refine x_istore_n (L2 := [(3, .int q1), (0, .ref 24), (1, .int p1), (2, .int p2)]) hc dX7_beginValue_4 rfl (by decide) rfl ?_
  refine x_iload_n hc dX7_beginValue_5 rfl 0 rfl ?_
  refine x_bipush hc dX7_beginValue_6 kb_m6 ?_
  refine x_icmp_ne (tgt := 13) hc dX7_beginValue_8 (by decide) (fun hb => ?_) (fun hb => ?_)
  · have h := ite_f hb h
    refine x_aload_n hc dX7_beginValue_13 rfl 1 rfl ?_
    refine x_dup hc dX7_beginValue_14 rfl ?_
    refine x_getI hc dX7_beginValue_15 fl_RX7_39 (q_s hSH sh_24) rfl ?_
    refine x_iconst hc dX7_beginValue_18 kc_1 ?_
    refine x_iadd hc dX7_beginValue_19 ?_
    refine x_putI hc dX7_beginValue_20 fl_RX7_39 (fw_7_8 _) (q_s hSH sh_24) rfl ?_
    refine x_aload_n hc dX7_beginValue_23 rfl 1 rfl ?_
    refine x_iload_n hc dX7_beginValue_24 rfl 0 rfl ?_
    refine x_iload_n hc dX7_beginValue_25 rfl 3 rfl ?_
    obtain ⟨q2, h2, h⟩ := bd_some h
    refine x_callVi (As := [.int q1, .int p2]) (st := []) (o := 24) hc dX7_beginValue_26 cv_X7_nodeHeldAgainst lk_RX7_81 (q_s hSH sh_24) rfl rfl (q_cn hSH (S_Va_nodeHeldAgainst h2)) (by decide) (Nat.le_of_ble_eq_true rfl) ?_
    refine x_istore (L2 := [(4, .int q2.1), (3, .int q1), (0, .ref 24), (1, .int p1), (2, .int p2)]) hc dX7_beginValue_29 (by decide) rfl ?_
    refine x_iload_n hc dX7_beginValue_31 rfl 1 rfl ?_
    refine x_bipush hc dX7_beginValue_32 kb_110 ?_
    refine x_icmp_eq (tgt := 43) hc dX7_beginValue_34 (by decide) (fun hb => ?_) (fun hb => ?_)
    · have h := ite_t hb h
      exact x_sub (S_Va_beginValue_J43 hc hSH q2.2 h hr hM) [2] rfl
    · have h := ite_f hb h
      refine x_iload_n hc dX7_beginValue_37 rfl 1 rfl ?_
      refine x_bipush hc dX7_beginValue_38 kb_116 ?_
      refine x_icmp_ne (tgt := 48) hc dX7_beginValue_40 (by decide) (fun hb => ?_) (fun hb => ?_)
      · have h := ite_f hb h
        refine x_iload_n hc dX7_beginValue_48 rfl 1 rfl ?_
        refine x_bipush hc dX7_beginValue_49 kb_115 ?_
        refine x_icmp_ne (tgt := 61) hc dX7_beginValue_51 (by decide) (fun hb => ?_) (fun hb => ?_)
        · have h := ite_f hb h
          refine x_aload_n hc dX7_beginValue_61 rfl 2 rfl ?_
          refine x_iload_n hc dX7_beginValue_62 rfl 1 rfl ?_
          refine x_iload hc dX7_beginValue_63 0 rfl ?_
          obtain ⟨q5, h5, h⟩ := bd_some h
          refine x_callVi (As := [.int q1, .int q2.1]) (st := []) (o := 24) hc dX7_beginValue_65 cv_X7_openValue lk_RX7_85 (q_s hSH sh_24) rfl rfl (q_cn hSH (S_Va_openValue h5)) (by decide) (Nat.le_of_ble_eq_true rfl) ?_
          obtain ⟨b6, h⟩ := ck_some h
          cases h
          exact x_zret hc dX7_beginValue_68 (isb_nar b6) hr hM
        · have h := ite_t hb h
          refine x_aload_n hc dX7_beginValue_54 rfl 2 rfl ?_
          refine x_iconst hc dX7_beginValue_55 kc_5 ?_
          refine x_putI hc dX7_beginValue_56 fl_RX7_33 (fw_7_6 _) (q_s hSH sh_24) rfl ?_
          refine x_iconst hc dX7_beginValue_59 kc_1 ?_
          cases h
          exact x_zret hc dX7_beginValue_60 nar_1 hr hM
      · have h := ite_t hb h
        exact x_sub (S_Va_beginValue_J43 hc hSH q2.2 h hr hM) [2] rfl
  · have h := ite_t hb h
    refine x_iconst hc dX7_beginValue_11 kc_0 ?_
    cases h
    exact x_zret hc dX7_beginValue_12 nar_0 hr hM

def Va_closeValue_J17 (M : QM) : Option (Int32 × QM) :=
  Option.bind (Va_endValue M) (fun q1 => ck (isb q1.1) (some (q1.1, q1.2)))

set_option maxRecDepth 20000 in
set_option maxHeartbeats 2000000 in
theorem S_Va_closeValue_J17 {C : QC} (hc : OKX C RX7 cX7_closeValue 1 2 (some .boolean)) (hSH : q_SH C = SHK) (M : QM) {res : Int32 × QM} (h : Va_closeValue_J17 M = some res) (hr : q_r C = some (.int res.1)) (hM : q_M C = res.2) : WX C 1 17 [(0, .ref 24)] [] M := by
  unfold Va_closeValue_J17 at h
  refine x_aload_n hc dX7_closeValue_17 rfl 0 rfl ?_
  obtain ⟨q1, h1, h⟩ := bd_some h
  refine x_callVi (As := []) (st := []) (o := 24) hc dX7_closeValue_18 cv_X7_endValue lk_RX7_75 (q_s hSH sh_24) rfl rfl (q_cn hSH (S_Va_endValue h1)) (by decide) (Nat.le_of_ble_eq_true rfl) ?_
  obtain ⟨b2, h⟩ := ck_some h
  cases h
  exact x_zret hc dX7_closeValue_21 (isb_nar b2) hr hM

def Va_closeValue (M : QM) : Option (Int32 × QM) :=
  (if (M.1 24 5) ≤ 0 then Va_closeValue_J17 M else Va_closeValue_J17 (u_i M 24 5 ((M.1 24 5) - (1 : Int32))))

set_option maxRecDepth 20000 in
set_option maxHeartbeats 2000000 in
theorem S_Va_closeValue  {M : QM} {res : Int32 × QM} (h : Va_closeValue M = some res) : Cn yX7_closeValue cX7_closeValue 1 (some .boolean) 2 SHK [.ref 24] M (some (.int res.1)) res.2 := by
  refine q_enter (L := [(0, .ref 24)]) (by decide) (Nat.le_of_ble_eq_true rfl) rfl ?_
  intro C hc hSH hr hM
  have hc : OKX C RX7 cX7_closeValue 1 2 (some .boolean) := hc
  unfold Va_closeValue at h
  refine x_aload_n hc dX7_closeValue_0 rfl 0 rfl ?_
  refine x_getI hc dX7_closeValue_1 fl_RX7_29 (q_s hSH sh_24) rfl ?_
  refine x_if_le (tgt := 17) hc dX7_closeValue_4 (by decide) (fun hb => ?_) (fun hb => ?_)
  · have h := ite_t hb h
    exact x_sub (S_Va_closeValue_J17 hc hSH M h hr hM) [0] rfl
  · have h := ite_f hb h
    refine x_aload_n hc dX7_closeValue_7 rfl 0 rfl ?_
    refine x_dup hc dX7_closeValue_8 rfl ?_
    refine x_getI hc dX7_closeValue_9 fl_RX7_29 (q_s hSH sh_24) rfl ?_
    refine x_iconst hc dX7_closeValue_12 kc_1 ?_
    refine x_isub hc dX7_closeValue_13 ?_
    refine x_putI hc dX7_closeValue_14 fl_RX7_29 (fw_7_5 _) (q_s hSH sh_24) rfl ?_
    exact x_sub (S_Va_closeValue_J17 hc hSH (u_i M 24 5 ((M.1 24 5) - (1 : Int32))) h hr hM) [0] rfl

def Va_innermostNode (M : QM) : Option (Int32) :=
  Option.bind (Va_isInnermostKnown M) (fun q1 => (if q1 = 0 then some (-7 : Int32) else ck (inb ((M.1 24 5) - (1 : Int32)) 100) (some (M.1 26 ((M.1 24 5) - (1 : Int32)).toNatClampNeg))))

set_option maxRecDepth 20000 in
set_option maxHeartbeats 2000000 in
theorem S_Va_innermostNode  {M : QM} {res : Int32} (h : Va_innermostNode M = some res) : Cn yX7_innermostNode cX7_innermostNode 1 (some .int) 1 SHK [.ref 24] M (some (.int res)) M := by
  refine q_enter (L := [(0, .ref 24)]) (by decide) (Nat.le_of_ble_eq_true rfl) rfl ?_
  intro C hc hSH hr hM
  have hc : OKX C RX7 cX7_innermostNode 1 1 (some .int) := hc
  unfold Va_innermostNode at h
  refine x_aload_n hc dX7_innermostNode_0 rfl 0 rfl ?_
  obtain ⟨q1, h1, h⟩ := bd_some h
  refine x_callVi (As := []) (st := []) (o := 24) hc dX7_innermostNode_1 cv_X7_isInnermostKnown lk_RX7_97 (q_s hSH sh_24) rfl rfl (q_cn hSH (S_Va_isInnermostKnown h1)) (by decide) (Nat.le_of_ble_eq_true rfl) ?_
  refine x_if_eq (tgt := 21) hc dX7_innermostNode_4 (by decide) (fun hb => ?_) (fun hb => ?_)
  · have h := ite_t hb h
    refine x_bipush hc dX7_innermostNode_21 kb_m7 ?_
    cases h
    exact x_iret hc dX7_innermostNode_23 hr hM
  · have h := ite_f hb h
    refine x_aload_n hc dX7_innermostNode_7 rfl 0 rfl ?_
    refine x_getR hc dX7_innermostNode_8 fl_RX7_23 (q_s hSH sh_24) rfl ?_
    refine x_aload_n hc dX7_innermostNode_11 rfl 0 rfl ?_
    refine x_getI hc dX7_innermostNode_12 fl_RX7_29 (q_s hSH sh_24) rfl ?_
    refine x_iconst hc dX7_innermostNode_15 kc_1 ?_
    refine x_isub hc dX7_innermostNode_16 ?_
    obtain ⟨b2, h⟩ := ck_some h
    refine x_iald hc dX7_innermostNode_17 (q_s hSH sh_26) (inb_in b2) ?_
    refine x_goto (tgt := 23) hc dX7_innermostNode_18 (by decide) ?_
    cases h
    exact x_iret hc dX7_innermostNode_23 hr hM

def Va_dueAt (p1 : Int32) (M : QM) : Option (Int32) :=
  Option.bind (Va_innermostNode M) (fun q1 => Option.bind (Ne_partAt q1 p1 M) (fun q2 => (if q2 = (-6 : Int32) then some (-7 : Int32) else some q2)))

set_option maxRecDepth 20000 in
set_option maxHeartbeats 2000000 in
theorem S_Va_dueAt  {p1 : Int32} {M : QM} {res : Int32} (h : Va_dueAt p1 M = some res) : Cn yX7_dueAt cX7_dueAt 3 (some .int) 2 SHK [.ref 24, .int p1] M (some (.int res)) M := by
  refine q_enter (L := [(0, .ref 24), (1, .int p1)]) (by decide) (Nat.le_of_ble_eq_true rfl) rfl ?_
  intro C hc hSH hr hM
  have hc : OKX C RX7 cX7_dueAt 3 2 (some .int) := hc
  unfold Va_dueAt at h
  refine x_aload_n hc dX7_dueAt_0 rfl 0 rfl ?_
  refine x_getR hc dX7_dueAt_1 fl_RX7_15 (q_s hSH sh_24) rfl ?_
  refine x_aload_n hc dX7_dueAt_4 rfl 0 rfl ?_
  obtain ⟨q1, h1, h⟩ := bd_some h
  refine x_callVi (As := []) (st := [.ref 3]) (o := 24) hc dX7_dueAt_5 cv_X7_innermostNode lk_RX7_103 (q_s hSH sh_24) rfl rfl (q_cn hSH (S_Va_innermostNode h1)) (by decide) (Nat.le_of_ble_eq_true rfl) ?_
  refine x_iload_n hc dX7_dueAt_8 rfl 1 rfl ?_
  obtain ⟨q2, h2, h⟩ := bd_some h
  refine x_callVi (As := [.int q1, .int p1]) (st := []) (o := 3) hc dX7_dueAt_9 cv_X3_partAt lk_RX7_109 (q_s hSH sh_3) rfl rfl (q_cn hSH (S_Ne_partAt h2)) (by decide) (Nat.le_of_ble_eq_true rfl) ?_
  refine x_istore_n (L2 := [(2, .int q2), (0, .ref 24), (1, .int p1)]) hc dX7_dueAt_12 rfl (by decide) rfl ?_
  refine x_iload_n hc dX7_dueAt_13 rfl 0 rfl ?_
  refine x_bipush hc dX7_dueAt_14 kb_m6 ?_
  refine x_icmp_ne (tgt := 24) hc dX7_dueAt_16 (by decide) (fun hb => ?_) (fun hb => ?_)
  · have h := ite_f hb h
    refine x_iload_n hc dX7_dueAt_24 rfl 0 rfl ?_
    cases h
    exact x_iret hc dX7_dueAt_25 hr hM
  · have h := ite_t hb h
    refine x_bipush hc dX7_dueAt_19 kb_m7 ?_
    refine x_goto (tgt := 25) hc dX7_dueAt_21 (by decide) ?_
    cases h
    exact x_iret hc dX7_dueAt_25 hr hM

def Va_readItem (p1 : Int32) (p2 : Int32) (M : QM) : Option (Int32 × QM) :=
  (if p1 = (41 : Int32) then Option.bind (Va_closeValue M) (fun q4 => ck (isb q4.1) (some (q4.1, q4.2))) else Option.bind (Va_dueAt (0 : Int32) M) (fun q1 => Option.bind (Va_beginValue p1 p2 (u_i M 24 7 q1)) (fun q2 => ck (isb q2.1) (some (q2.1, q2.2)))))

set_option maxRecDepth 20000 in
set_option maxHeartbeats 2000000 in
theorem S_Va_readItem  {p1 : Int32} {p2 : Int32} {M : QM} {res : Int32 × QM} (h : Va_readItem p1 p2 M = some res) : Cn yX7_readItem cX7_readItem 3 (some .boolean) 3 SHK [.ref 24, .int p1, .int p2] M (some (.int res.1)) res.2 := by
  refine q_enter (L := [(0, .ref 24), (1, .int p1), (2, .int p2)]) (by decide) (Nat.le_of_ble_eq_true rfl) rfl ?_
  intro C hc hSH hr hM
  have hc : OKX C RX7 cX7_readItem 3 3 (some .boolean) := hc
  unfold Va_readItem at h
  refine x_iload_n hc dX7_readItem_0 rfl 1 rfl ?_
  refine x_bipush hc dX7_readItem_1 kb_41 ?_
  refine x_icmp_ne (tgt := 11) hc dX7_readItem_3 (by decide) (fun hb => ?_) (fun hb => ?_)
  · have h := ite_f hb h
    refine x_aload_n hc dX7_readItem_11 rfl 0 rfl ?_
    refine x_aload_n hc dX7_readItem_12 rfl 0 rfl ?_
    refine x_iconst hc dX7_readItem_13 kc_0 ?_
    obtain ⟨q1, h1, h⟩ := bd_some h
    refine x_callVi (As := [.int (0 : Int32)]) (st := [.ref 24]) (o := 24) hc dX7_readItem_14 cv_X7_dueAt lk_RX7_100 (q_s hSH sh_24) rfl rfl (q_cn hSH (S_Va_dueAt h1)) (by decide) (Nat.le_of_ble_eq_true rfl) ?_
    refine x_putI hc dX7_readItem_17 fl_RX7_36 (fw_7_7 _) (q_s hSH sh_24) rfl ?_
    refine x_aload_n hc dX7_readItem_20 rfl 0 rfl ?_
    refine x_iload_n hc dX7_readItem_21 rfl 1 rfl ?_
    refine x_iload_n hc dX7_readItem_22 rfl 2 rfl ?_
    obtain ⟨q2, h2, h⟩ := bd_some h
    refine x_callVi (As := [.int p1, .int p2]) (st := []) (o := 24) hc dX7_readItem_23 cv_X7_beginValue lk_RX7_59 (q_s hSH sh_24) rfl rfl (q_cn hSH (S_Va_beginValue h2)) (by decide) (Nat.le_of_ble_eq_true rfl) ?_
    obtain ⟨b3, h⟩ := ck_some h
    cases h
    exact x_zret hc dX7_readItem_26 (isb_nar b3) hr hM
  · have h := ite_t hb h
    refine x_aload_n hc dX7_readItem_6 rfl 0 rfl ?_
    obtain ⟨q4, h4, h⟩ := bd_some h
    refine x_callVi (As := []) (st := []) (o := 24) hc dX7_readItem_7 cv_X7_closeValue lk_RX7_71 (q_s hSH sh_24) rfl rfl (q_cn hSH (S_Va_closeValue h4)) (by decide) (Nat.le_of_ble_eq_true rfl) ?_
    obtain ⟨b5, h⟩ := ck_some h
    cases h
    exact x_zret hc dX7_readItem_10 (isb_nar b5) hr hM

def Va_readField_J48 (M : QM) : Option (Int32 × QM) :=
  Option.bind (Va_closeValue M) (fun q9 => ck (isb q9.1) (some (q9.1, q9.2)))

set_option maxRecDepth 20000 in
set_option maxHeartbeats 2000000 in
theorem S_Va_readField_J48 {C : QC} (hc : OKX C RX7 cX7_readField 4 3 (some .boolean)) (hSH : q_SH C = SHK) (M : QM) {res : Int32 × QM} (h : Va_readField_J48 M = some res) (hr : q_r C = some (.int res.1)) (hM : q_M C = res.2) : WX C 4 48 [(0, .ref 24)] [] M := by
  unfold Va_readField_J48 at h
  refine x_aload_n hc dX7_readField_48 rfl 0 rfl ?_
  obtain ⟨q9, h9, h⟩ := bd_some h
  refine x_callVi (As := []) (st := []) (o := 24) hc dX7_readField_49 cv_X7_closeValue lk_RX7_71 (q_s hSH sh_24) rfl rfl (q_cn hSH (S_Va_closeValue h9)) (by decide) (Nat.le_of_ble_eq_true rfl) ?_
  obtain ⟨b10, h⟩ := ck_some h
  cases h
  exact x_zret hc dX7_readField_52 (isb_nar b10) hr hM

def Va_readField (p1 : Int32) (p2 : Int32) (M : QM) : Option (Int32 × QM) :=
  Option.bind (Va_isInnermostKnown M) (fun q1 => (if q1 = 0 then some ((0 : Int32), M) else (if p1 = (125 : Int32) then Option.bind (Va_innermostNode M) (fun q6 => Option.bind (Ne_slotsOf q6 M) (fun q7 => ck (inb ((M.1 24 5) - (1 : Int32)) 100) ((if (q7 &&& ((M.1 27 ((M.1 24 5) - (1 : Int32)).toNatClampNeg) ^^^ (-1 : Int32))) = 0 then Va_readField_J48 M else Option.bind (Va_noteMisfit p2 M) (fun q11 => Va_readField_J48 q11))))) else (if (p1 - (97 : Int32)) < 0 then some ((0 : Int32), M) else (if (8 : Int32) ≤ (p1 - (97 : Int32)) then some ((0 : Int32), M) else ck (inb ((M.1 24 5) - (1 : Int32)) 100) ((if ((M.1 27 ((M.1 24 5) - (1 : Int32)).toNatClampNeg) >>> ((p1 - (97 : Int32)) &&& 31)) = 0 then ck (inb ((M.1 24 5) - (1 : Int32)) 100) (ck (inb ((M.1 24 5) - (1 : Int32)) 100) (Option.bind (Va_dueAt (p1 - (97 : Int32)) (u_i M 27 ((M.1 24 5) - (1 : Int32)).toNatClampNeg ((M.1 27 ((M.1 24 5) - (1 : Int32)).toNatClampNeg) ||| ((1 : Int32) <<< ((p1 - (97 : Int32)) &&& 31))))) (fun q5 => some ((1 : Int32), u_i (u_i (u_i M 27 ((M.1 24 5) - (1 : Int32)).toNatClampNeg ((M.1 27 ((M.1 24 5) - (1 : Int32)).toNatClampNeg) ||| ((1 : Int32) <<< ((p1 - (97 : Int32)) &&& 31)))) 24 7 q5) 24 6 (0 : Int32))))) else some ((0 : Int32), M))))))))

set_option maxRecDepth 20000 in
set_option maxHeartbeats 2000000 in
theorem S_Va_readField  {p1 : Int32} {p2 : Int32} {M : QM} {res : Int32 × QM} (h : Va_readField p1 p2 M = some res) : Cn yX7_readField cX7_readField 4 (some .boolean) 3 SHK [.ref 24, .int p1, .int p2] M (some (.int res.1)) res.2 := by
  refine q_enter (L := [(0, .ref 24), (1, .int p1), (2, .int p2)]) (by decide) (Nat.le_of_ble_eq_true rfl) rfl ?_
  intro C hc hSH hr hM
  have hc : OKX C RX7 cX7_readField 4 3 (some .boolean) := hc
  unfold Va_readField at h
  refine x_aload_n hc dX7_readField_0 rfl 0 rfl ?_
  obtain ⟨q1, h1, h⟩ := bd_some h
  refine x_callVi (As := []) (st := []) (o := 24) hc dX7_readField_1 cv_X7_isInnermostKnown lk_RX7_97 (q_s hSH sh_24) rfl rfl (q_cn hSH (S_Va_isInnermostKnown h1)) (by decide) (Nat.le_of_ble_eq_true rfl) ?_
  refine x_if_ne (tgt := 9) hc dX7_readField_4 (by decide) (fun hb => ?_) (fun hb => ?_)
  · have h := ite_f hb h
    refine x_iload_n hc dX7_readField_9 rfl 1 rfl ?_
    refine x_bipush hc dX7_readField_10 kb_125 ?_
    refine x_icmp_ne (tgt := 53) hc dX7_readField_12 (by decide) (fun hb => ?_) (fun hb => ?_)
    · have h := ite_f hb h
      refine x_iload_n hc dX7_readField_53 rfl 1 rfl ?_
      refine x_bipush hc dX7_readField_54 kb_97 ?_
      refine x_isub hc dX7_readField_56 ?_
      refine x_istore_n (L2 := [(3, .int (p1 - (97 : Int32))), (0, .ref 24), (1, .int p1), (2, .int p2)]) hc dX7_readField_57 rfl (by decide) rfl ?_
      refine x_iload_n hc dX7_readField_58 rfl 0 rfl ?_
      refine x_if_lt (tgt := 84) hc dX7_readField_59 (by decide) (fun hb => ?_) (fun hb => ?_)
      · have h := ite_t hb h
        refine x_iconst hc dX7_readField_84 kc_0 ?_
        cases h
        exact x_zret hc dX7_readField_85 nar_0 hr hM
      · have h := ite_f hb h
        refine x_iload_n hc dX7_readField_62 rfl 0 rfl ?_
        refine x_bipush hc dX7_readField_63 kb_8 ?_
        refine x_icmp_ge (tgt := 84) hc dX7_readField_65 (by decide) (fun hb => ?_) (fun hb => ?_)
        · have h := ite_t hb h
          refine x_iconst hc dX7_readField_84 kc_0 ?_
          cases h
          exact x_zret hc dX7_readField_85 nar_0 hr hM
        · have h := ite_f hb h
          refine x_aload_n hc dX7_readField_68 rfl 1 rfl ?_
          refine x_getR hc dX7_readField_69 fl_RX7_26 (q_s hSH sh_24) rfl ?_
          refine x_aload_n hc dX7_readField_72 rfl 1 rfl ?_
          refine x_getI hc dX7_readField_73 fl_RX7_29 (q_s hSH sh_24) rfl ?_
          refine x_iconst hc dX7_readField_76 kc_1 ?_
          refine x_isub hc dX7_readField_77 ?_
          obtain ⟨b2, h⟩ := ck_some h
          refine x_iald hc dX7_readField_78 (q_s hSH sh_27) (inb_in b2) ?_
          refine x_iload_n hc dX7_readField_79 rfl 0 rfl ?_
          refine x_ishr hc dX7_readField_80 ?_
          refine x_if_eq (tgt := 86) hc dX7_readField_81 (by decide) (fun hb => ?_) (fun hb => ?_)
          · have h := ite_t hb h
            refine x_aload_n hc dX7_readField_86 rfl 1 rfl ?_
            refine x_getR hc dX7_readField_87 fl_RX7_26 (q_s hSH sh_24) rfl ?_
            refine x_aload_n hc dX7_readField_90 rfl 1 rfl ?_
            refine x_getI hc dX7_readField_91 fl_RX7_29 (q_s hSH sh_24) rfl ?_
            refine x_iconst hc dX7_readField_94 kc_1 ?_
            refine x_isub hc dX7_readField_95 ?_
            refine x_dup2 hc dX7_readField_96 rfl rfl ?_
            obtain ⟨b3, h⟩ := ck_some h
            refine x_iald hc dX7_readField_97 (q_s hSH sh_27) (inb_in b3) ?_
            refine x_iconst hc dX7_readField_98 kc_1 ?_
            refine x_iload_n hc dX7_readField_99 rfl 0 rfl ?_
            refine x_ishl hc dX7_readField_100 ?_
            refine x_ior hc dX7_readField_101 ?_
            obtain ⟨b4, h⟩ := ck_some h
            refine x_iast hc dX7_readField_102 (q_s hSH sh_27) (inb_in b4) ?_
            refine x_aload_n hc dX7_readField_103 rfl 1 rfl ?_
            refine x_aload_n hc dX7_readField_104 rfl 1 rfl ?_
            refine x_iload_n hc dX7_readField_105 rfl 0 rfl ?_
            obtain ⟨q5, h5, h⟩ := bd_some h
            refine x_callVi (As := [.int (p1 - (97 : Int32))]) (st := [.ref 24]) (o := 24) hc dX7_readField_106 cv_X7_dueAt lk_RX7_100 (q_s hSH sh_24) rfl rfl (q_cn hSH (S_Va_dueAt h5)) (by decide) (Nat.le_of_ble_eq_true rfl) ?_
            refine x_putI hc dX7_readField_109 fl_RX7_36 (fw_7_7 _) (q_s hSH sh_24) rfl ?_
            refine x_aload_n hc dX7_readField_112 rfl 1 rfl ?_
            refine x_iconst hc dX7_readField_113 kc_0 ?_
            refine x_putI hc dX7_readField_114 fl_RX7_33 (fw_7_6 _) (q_s hSH sh_24) rfl ?_
            refine x_iconst hc dX7_readField_117 kc_1 ?_
            cases h
            exact x_zret hc dX7_readField_118 nar_1 hr hM
          · have h := ite_f hb h
            refine x_iconst hc dX7_readField_84 kc_0 ?_
            cases h
            exact x_zret hc dX7_readField_85 nar_0 hr hM
    · have h := ite_t hb h
      refine x_aload_n hc dX7_readField_15 rfl 0 rfl ?_
      refine x_getR hc dX7_readField_16 fl_RX7_15 (q_s hSH sh_24) rfl ?_
      refine x_aload_n hc dX7_readField_19 rfl 0 rfl ?_
      obtain ⟨q6, h6, h⟩ := bd_some h
      refine x_callVi (As := []) (st := [.ref 3]) (o := 24) hc dX7_readField_20 cv_X7_innermostNode lk_RX7_103 (q_s hSH sh_24) rfl rfl (q_cn hSH (S_Va_innermostNode h6)) (by decide) (Nat.le_of_ble_eq_true rfl) ?_
      obtain ⟨q7, h7, h⟩ := bd_some h
      refine x_callVi (As := [.int q6]) (st := []) (o := 3) hc dX7_readField_23 cv_X3_slotsOf lk_RX7_106 (q_s hSH sh_3) rfl rfl (q_cn hSH (S_Ne_slotsOf h7)) (by decide) (Nat.le_of_ble_eq_true rfl) ?_
      refine x_aload_n hc dX7_readField_26 rfl 0 rfl ?_
      refine x_getR hc dX7_readField_27 fl_RX7_26 (q_s hSH sh_24) rfl ?_
      refine x_aload_n hc dX7_readField_30 rfl 0 rfl ?_
      refine x_getI hc dX7_readField_31 fl_RX7_29 (q_s hSH sh_24) rfl ?_
      refine x_iconst hc dX7_readField_34 kc_1 ?_
      refine x_isub hc dX7_readField_35 ?_
      obtain ⟨b8, h⟩ := ck_some h
      refine x_iald hc dX7_readField_36 (q_s hSH sh_27) (inb_in b8) ?_
      refine x_iconst hc dX7_readField_37 kc_m1 ?_
      refine x_ixor hc dX7_readField_38 ?_
      refine x_iand hc dX7_readField_39 ?_
      refine x_if_eq (tgt := 48) hc dX7_readField_40 (by decide) (fun hb => ?_) (fun hb => ?_)
      · have h := ite_t hb h
        exact x_sub (S_Va_readField_J48 hc hSH M h hr hM) [0] rfl
      · have h := ite_f hb h
        refine x_aload_n hc dX7_readField_43 rfl 0 rfl ?_
        refine x_iload_n hc dX7_readField_44 rfl 2 rfl ?_
        obtain ⟨q11, h11, h⟩ := bd_some h
        refine x_callVv (As := [.int p2]) (st := []) (o := 24) hc dX7_readField_45 cv_X7_noteMisfit lk_RX7_93 (q_s hSH sh_24) rfl rfl (q_cn hSH (S_Va_noteMisfit h11)) (by decide) (Nat.le_of_ble_eq_true rfl) ?_
        exact x_sub (S_Va_readField_J48 hc hSH q11 h hr hM) [0] rfl
  · have h := ite_t hb h
    refine x_iconst hc dX7_readField_7 kc_0 ?_
    cases h
    exact x_zret hc dX7_readField_8 nar_0 hr hM

def Va_readCase_J51 (M : QM) : Option (Int32 × QM) :=
  some ((1 : Int32), u_i M 24 6 (0 : Int32))

set_option maxRecDepth 20000 in
set_option maxHeartbeats 2000000 in
theorem S_Va_readCase_J51 {C : QC} (hc : OKX C RX7 cX7_readCase 4 3 (some .boolean)) (hSH : q_SH C = SHK) (M : QM) {res : Int32 × QM} (h : Va_readCase_J51 M = some res) (hr : q_r C = some (.int res.1)) (hM : q_M C = res.2) : WX C 4 51 [(0, .ref 24)] [] M := by
  unfold Va_readCase_J51 at h
  refine x_aload_n hc dX7_readCase_51 rfl 0 rfl ?_
  refine x_iconst hc dX7_readCase_52 kc_0 ?_
  refine x_putI hc dX7_readCase_53 fl_RX7_33 (fw_7_6 _) (q_s hSH sh_24) rfl ?_
  refine x_iconst hc dX7_readCase_56 kc_1 ?_
  cases h
  exact x_zret hc dX7_readCase_57 nar_1 hr hM

def Va_readCase (p1 : Int32) (p2 : Int32) (M : QM) : Option (Int32 × QM) :=
  (if (p1 - (97 : Int32)) < 0 then some ((0 : Int32), M) else (if (p1 - (97 : Int32)) < (8 : Int32) then Option.bind (Va_dueAt (p1 - (97 : Int32)) M) (fun q1 => Option.bind (Va_innermostNode (u_i M 24 7 q1)) (fun q2 => (if q2 = (-7 : Int32) then Va_readCase_J51 (u_i M 24 7 q1) else (if ((u_i M 24 7 q1).1 24 7) = (-7 : Int32) then Option.bind (Va_noteMisfit (p2 - (1 : Int32)) (u_i M 24 7 q1)) (fun q3 => Va_readCase_J51 q3) else Va_readCase_J51 (u_i M 24 7 q1))))) else some ((0 : Int32), M)))

set_option maxRecDepth 20000 in
set_option maxHeartbeats 2000000 in
theorem S_Va_readCase  {p1 : Int32} {p2 : Int32} {M : QM} {res : Int32 × QM} (h : Va_readCase p1 p2 M = some res) : Cn yX7_readCase cX7_readCase 4 (some .boolean) 3 SHK [.ref 24, .int p1, .int p2] M (some (.int res.1)) res.2 := by
  refine q_enter (L := [(0, .ref 24), (1, .int p1), (2, .int p2)]) (by decide) (Nat.le_of_ble_eq_true rfl) rfl ?_
  intro C hc hSH hr hM
  have hc : OKX C RX7 cX7_readCase 4 3 (some .boolean) := hc
  unfold Va_readCase at h
  refine x_iload_n hc dX7_readCase_0 rfl 1 rfl ?_
  refine x_bipush hc dX7_readCase_1 kb_97 ?_
  refine x_isub hc dX7_readCase_3 ?_
  refine x_istore_n (L2 := [(3, .int (p1 - (97 : Int32))), (0, .ref 24), (1, .int p1), (2, .int p2)]) hc dX7_readCase_4 rfl (by decide) rfl ?_
  refine x_iload_n hc dX7_readCase_5 rfl 0 rfl ?_
  refine x_if_lt (tgt := 15) hc dX7_readCase_6 (by decide) (fun hb => ?_) (fun hb => ?_)
  · have h := ite_t hb h
    refine x_iconst hc dX7_readCase_15 kc_0 ?_
    cases h
    exact x_zret hc dX7_readCase_16 nar_0 hr hM
  · have h := ite_f hb h
    refine x_iload_n hc dX7_readCase_9 rfl 0 rfl ?_
    refine x_bipush hc dX7_readCase_10 kb_8 ?_
    refine x_icmp_lt (tgt := 17) hc dX7_readCase_12 (by decide) (fun hb => ?_) (fun hb => ?_)
    · have h := ite_t hb h
      refine x_aload_n hc dX7_readCase_17 rfl 1 rfl ?_
      refine x_aload_n hc dX7_readCase_18 rfl 1 rfl ?_
      refine x_iload_n hc dX7_readCase_19 rfl 0 rfl ?_
      obtain ⟨q1, h1, h⟩ := bd_some h
      refine x_callVi (As := [.int (p1 - (97 : Int32))]) (st := [.ref 24]) (o := 24) hc dX7_readCase_20 cv_X7_dueAt lk_RX7_100 (q_s hSH sh_24) rfl rfl (q_cn hSH (S_Va_dueAt h1)) (by decide) (Nat.le_of_ble_eq_true rfl) ?_
      refine x_putI hc dX7_readCase_23 fl_RX7_36 (fw_7_7 _) (q_s hSH sh_24) rfl ?_
      refine x_aload_n hc dX7_readCase_26 rfl 1 rfl ?_
      obtain ⟨q2, h2, h⟩ := bd_some h
      refine x_callVi (As := []) (st := []) (o := 24) hc dX7_readCase_27 cv_X7_innermostNode lk_RX7_103 (q_s hSH sh_24) rfl rfl (q_cn hSH (S_Va_innermostNode h2)) (by decide) (Nat.le_of_ble_eq_true rfl) ?_
      refine x_bipush hc dX7_readCase_30 kb_m7 ?_
      refine x_icmp_eq (tgt := 51) hc dX7_readCase_32 (by decide) (fun hb => ?_) (fun hb => ?_)
      · have h := ite_t hb h
        exact x_sub (S_Va_readCase_J51 hc hSH (u_i M 24 7 q1) h hr hM) [1] rfl
      · have h := ite_f hb h
        refine x_aload_n hc dX7_readCase_35 rfl 1 rfl ?_
        refine x_getI hc dX7_readCase_36 fl_RX7_36 (q_s hSH sh_24) rfl ?_
        refine x_bipush hc dX7_readCase_39 kb_m7 ?_
        refine x_icmp_ne (tgt := 51) hc dX7_readCase_41 (by decide) (fun hb => ?_) (fun hb => ?_)
        · have h := ite_f hb h
          exact x_sub (S_Va_readCase_J51 hc hSH (u_i M 24 7 q1) h hr hM) [1] rfl
        · have h := ite_t hb h
          refine x_aload_n hc dX7_readCase_44 rfl 1 rfl ?_
          refine x_iload_n hc dX7_readCase_45 rfl 3 rfl ?_
          refine x_iconst hc dX7_readCase_46 kc_1 ?_
          refine x_isub hc dX7_readCase_47 ?_
          obtain ⟨q3, h3, h⟩ := bd_some h
          refine x_callVv (As := [.int (p2 - (1 : Int32))]) (st := []) (o := 24) hc dX7_readCase_48 cv_X7_noteMisfit lk_RX7_93 (q_s hSH sh_24) rfl rfl (q_cn hSH (S_Va_noteMisfit h3)) (by decide) (Nat.le_of_ble_eq_true rfl) ?_
          exact x_sub (S_Va_readCase_J51 hc hSH q3 h hr hM) [1] rfl
    · have h := ite_f hb h
      refine x_iconst hc dX7_readCase_15 kc_0 ?_
      cases h
      exact x_zret hc dX7_readCase_16 nar_0 hr hM

def Va_goesOn (p1 : Int32) (p2 : Int32) (M : QM) : Option (Int32 × QM) :=
  (if (M.1 24 6) = 0 then Option.bind (Va_beginValue p1 p2 M) (fun q1 => ck (isb q1.1) (some (q1.1, q1.2))) else if (M.1 24 6) = 1 then Option.bind (Va_readItem p1 p2 M) (fun q4 => ck (isb q4.1) (some (q4.1, q4.2))) else if (M.1 24 6) = 2 then Option.bind (Va_readField p1 p2 M) (fun q7 => ck (isb q7.1) (some (q7.1, q7.2))) else if (M.1 24 6) = 3 then Option.bind (Va_readCase p1 p2 M) (fun q10 => ck (isb q10.1) (some (q10.1, q10.2))) else if (M.1 24 6) = 4 then (if p1 = (93 : Int32) then Option.bind (Va_closeValue M) (fun q13 => (if q13.1 = 0 then some ((0 : Int32), q13.2) else some ((1 : Int32), q13.2))) else some ((0 : Int32), M)) else if (M.1 24 6) = 5 then (if p1 < (97 : Int32) then some ((0 : Int32), M) else (if (122 : Int32) < p1 then some ((0 : Int32), M) else Option.bind (Va_endValue M) (fun q15 => (if q15.1 = 0 then some ((0 : Int32), q15.2) else some ((1 : Int32), q15.2))))) else some ((0 : Int32), M))

set_option maxRecDepth 20000 in
set_option maxHeartbeats 2000000 in
theorem S_Va_goesOn  {p1 : Int32} {p2 : Int32} {M : QM} {res : Int32 × QM} (h : Va_goesOn p1 p2 M = some res) : Cn yX7_goesOn cX7_goesOn 3 (some .boolean) 4 SHK [.ref 24, .int p1, .int p2] M (some (.int res.1)) res.2 := by
  refine q_enter (L := [(0, .ref 24), (1, .int p1), (2, .int p2)]) (by decide) (Nat.le_of_ble_eq_true rfl) rfl ?_
  intro C hc hSH hr hM
  have hc : OKX C RX7 cX7_goesOn 3 4 (some .boolean) := hc
  unfold Va_goesOn at h
  refine x_aload_n hc dX7_goesOn_0 rfl 0 rfl ?_
  refine x_getI hc dX7_goesOn_1 fl_RX7_33 (q_s hSH sh_24) rfl ?_
  by_cases s3 : (M.1 24 6) = 0
  · have h := ite_t s3 h
    refine x_tableIn (off := 40) (tgt := 44) hc dX7_goesOn_4 (by rw [s3]; decide) (by rw [s3]; decide) (by rw [s3]; rfl) (by decide) ?_
    refine x_aload_n hc dX7_goesOn_44 rfl 0 rfl ?_
    refine x_iload_n hc dX7_goesOn_45 rfl 1 rfl ?_
    refine x_iload_n hc dX7_goesOn_46 rfl 2 rfl ?_
    obtain ⟨q1, h1, h⟩ := bd_some h
    refine x_callVi (As := [.int p1, .int p2]) (st := []) (o := 24) hc dX7_goesOn_47 cv_X7_beginValue lk_RX7_59 (q_s hSH sh_24) rfl rfl (q_cn hSH (S_Va_beginValue h1)) (by decide) (Nat.le_of_ble_eq_true rfl) ?_
    obtain ⟨b2, h⟩ := ck_some h
    cases h
    exact x_zret hc dX7_goesOn_50 (isb_nar b2) hr hM
  · have h := ite_f s3 h
    by_cases s6 : (M.1 24 6) = 1
    · have h := ite_t s6 h
      refine x_tableIn (off := 47) (tgt := 51) hc dX7_goesOn_4 (by rw [s6]; decide) (by rw [s6]; decide) (by rw [s6]; rfl) (by decide) ?_
      refine x_aload_n hc dX7_goesOn_51 rfl 0 rfl ?_
      refine x_iload_n hc dX7_goesOn_52 rfl 1 rfl ?_
      refine x_iload_n hc dX7_goesOn_53 rfl 2 rfl ?_
      obtain ⟨q4, h4, h⟩ := bd_some h
      refine x_callVi (As := [.int p1, .int p2]) (st := []) (o := 24) hc dX7_goesOn_54 cv_X7_readItem lk_RX7_62 (q_s hSH sh_24) rfl rfl (q_cn hSH (S_Va_readItem h4)) (by decide) (Nat.le_of_ble_eq_true rfl) ?_
      obtain ⟨b5, h⟩ := ck_some h
      cases h
      exact x_zret hc dX7_goesOn_57 (isb_nar b5) hr hM
    · have h := ite_f s6 h
      by_cases s9 : (M.1 24 6) = 2
      · have h := ite_t s9 h
        refine x_tableIn (off := 54) (tgt := 58) hc dX7_goesOn_4 (by rw [s9]; decide) (by rw [s9]; decide) (by rw [s9]; rfl) (by decide) ?_
        refine x_aload_n hc dX7_goesOn_58 rfl 0 rfl ?_
        refine x_iload_n hc dX7_goesOn_59 rfl 1 rfl ?_
        refine x_iload_n hc dX7_goesOn_60 rfl 2 rfl ?_
        obtain ⟨q7, h7, h⟩ := bd_some h
        refine x_callVi (As := [.int p1, .int p2]) (st := []) (o := 24) hc dX7_goesOn_61 cv_X7_readField lk_RX7_65 (q_s hSH sh_24) rfl rfl (q_cn hSH (S_Va_readField h7)) (by decide) (Nat.le_of_ble_eq_true rfl) ?_
        obtain ⟨b8, h⟩ := ck_some h
        cases h
        exact x_zret hc dX7_goesOn_64 (isb_nar b8) hr hM
      · have h := ite_f s9 h
        by_cases s12 : (M.1 24 6) = 3
        · have h := ite_t s12 h
          refine x_tableIn (off := 61) (tgt := 65) hc dX7_goesOn_4 (by rw [s12]; decide) (by rw [s12]; decide) (by rw [s12]; rfl) (by decide) ?_
          refine x_aload_n hc dX7_goesOn_65 rfl 0 rfl ?_
          refine x_iload_n hc dX7_goesOn_66 rfl 1 rfl ?_
          refine x_iload_n hc dX7_goesOn_67 rfl 2 rfl ?_
          obtain ⟨q10, h10, h⟩ := bd_some h
          refine x_callVi (As := [.int p1, .int p2]) (st := []) (o := 24) hc dX7_goesOn_68 cv_X7_readCase lk_RX7_68 (q_s hSH sh_24) rfl rfl (q_cn hSH (S_Va_readCase h10)) (by decide) (Nat.le_of_ble_eq_true rfl) ?_
          obtain ⟨b11, h⟩ := ck_some h
          cases h
          exact x_zret hc dX7_goesOn_71 (isb_nar b11) hr hM
        · have h := ite_f s12 h
          by_cases s14 : (M.1 24 6) = 4
          · have h := ite_t s14 h
            refine x_tableIn (off := 68) (tgt := 72) hc dX7_goesOn_4 (by rw [s14]; decide) (by rw [s14]; decide) (by rw [s14]; rfl) (by decide) ?_
            refine x_iload_n hc dX7_goesOn_72 rfl 1 rfl ?_
            refine x_bipush hc dX7_goesOn_73 kb_93 ?_
            refine x_icmp_ne (tgt := 89) hc dX7_goesOn_75 (by decide) (fun hb => ?_) (fun hb => ?_)
            · have h := ite_f hb h
              refine x_iconst hc dX7_goesOn_89 kc_0 ?_
              cases h
              exact x_zret hc dX7_goesOn_90 nar_0 hr hM
            · have h := ite_t hb h
              refine x_aload_n hc dX7_goesOn_78 rfl 0 rfl ?_
              obtain ⟨q13, h13, h⟩ := bd_some h
              refine x_callVi (As := []) (st := []) (o := 24) hc dX7_goesOn_79 cv_X7_closeValue lk_RX7_71 (q_s hSH sh_24) rfl rfl (q_cn hSH (S_Va_closeValue h13)) (by decide) (Nat.le_of_ble_eq_true rfl) ?_
              refine x_if_eq (tgt := 89) hc dX7_goesOn_82 (by decide) (fun hb => ?_) (fun hb => ?_)
              · have h := ite_t hb h
                refine x_iconst hc dX7_goesOn_89 kc_0 ?_
                cases h
                exact x_zret hc dX7_goesOn_90 nar_0 hr hM
              · have h := ite_f hb h
                refine x_iconst hc dX7_goesOn_85 kc_1 ?_
                refine x_goto (tgt := 90) hc dX7_goesOn_86 (by decide) ?_
                cases h
                exact x_zret hc dX7_goesOn_90 nar_1 hr hM
          · have h := ite_f s14 h
            by_cases s16 : (M.1 24 6) = 5
            · have h := ite_t s16 h
              refine x_tableIn (off := 87) (tgt := 91) hc dX7_goesOn_4 (by rw [s16]; decide) (by rw [s16]; decide) (by rw [s16]; rfl) (by decide) ?_
              refine x_iload_n hc dX7_goesOn_91 rfl 1 rfl ?_
              refine x_bipush hc dX7_goesOn_92 kb_97 ?_
              refine x_icmp_lt (tgt := 114) hc dX7_goesOn_94 (by decide) (fun hb => ?_) (fun hb => ?_)
              · have h := ite_t hb h
                refine x_iconst hc dX7_goesOn_114 kc_0 ?_
                cases h
                exact x_zret hc dX7_goesOn_115 nar_0 hr hM
              · have h := ite_f hb h
                refine x_iload_n hc dX7_goesOn_97 rfl 1 rfl ?_
                refine x_bipush hc dX7_goesOn_98 kb_122 ?_
                refine x_icmp_gt (tgt := 114) hc dX7_goesOn_100 (by decide) (fun hb => ?_) (fun hb => ?_)
                · have h := ite_t hb h
                  refine x_iconst hc dX7_goesOn_114 kc_0 ?_
                  cases h
                  exact x_zret hc dX7_goesOn_115 nar_0 hr hM
                · have h := ite_f hb h
                  refine x_aload_n hc dX7_goesOn_103 rfl 0 rfl ?_
                  obtain ⟨q15, h15, h⟩ := bd_some h
                  refine x_callVi (As := []) (st := []) (o := 24) hc dX7_goesOn_104 cv_X7_endValue lk_RX7_75 (q_s hSH sh_24) rfl rfl (q_cn hSH (S_Va_endValue h15)) (by decide) (Nat.le_of_ble_eq_true rfl) ?_
                  refine x_if_eq (tgt := 114) hc dX7_goesOn_107 (by decide) (fun hb => ?_) (fun hb => ?_)
                  · have h := ite_t hb h
                    refine x_iconst hc dX7_goesOn_114 kc_0 ?_
                    cases h
                    exact x_zret hc dX7_goesOn_115 nar_0 hr hM
                  · have h := ite_f hb h
                    refine x_iconst hc dX7_goesOn_110 kc_1 ?_
                    refine x_goto (tgt := 115) hc dX7_goesOn_111 (by decide) ?_
                    cases h
                    exact x_zret hc dX7_goesOn_115 nar_1 hr hM
            · have h := ite_f s16 h
              refine x_tableOut (tgt := 116) hc dX7_goesOn_4 (by have := lv_neT s3 (a := 0) (by decide); have := lv_neT s6 (a := 1) (by decide); have := lv_neT s9 (a := 2) (by decide); have := lv_neT s12 (a := 3) (by decide); have := lv_neT s14 (a := 4) (by decide); have := lv_neT s16 (a := 5) (by decide); omega) (by decide) ?_
              refine x_iconst hc dX7_goesOn_116 kc_0 ?_
              cases h
              exact x_zret hc dX7_goesOn_117 nar_0 hr hM

def Va_misfitPlace (M : QM) : Option (Int32) :=
  some (M.1 24 9)

set_option maxRecDepth 20000 in
set_option maxHeartbeats 2000000 in
theorem S_Va_misfitPlace  {M : QM} {res : Int32} (h : Va_misfitPlace M = some res) : Cn yX7_misfitPlace cX7_misfitPlace 1 (some .int) 0 SHK [.ref 24] M (some (.int res)) M := by
  refine q_enter (L := [(0, .ref 24)]) (by decide) (Nat.le_of_ble_eq_true rfl) rfl ?_
  intro C hc hSH hr hM
  have hc : OKX C RX7 cX7_misfitPlace 1 0 (some .int) := hc
  unfold Va_misfitPlace at h
  refine x_aload_n hc dX7_misfitPlace_0 rfl 0 rfl ?_
  refine x_getI hc dX7_misfitPlace_1 fl_RX7_42 (q_s hSH sh_24) rfl ?_
  cases h
  exact x_iret hc dX7_misfitPlace_4 hr hM

def Va_read_B28 (v : Int32 × QM) : Option (((Int32 × QM) ⊕ (QM)) ⊕ (Int32 × QM)) :=
  Option.bind (Pa_length v.2) (fun q1 => (if q1 ≤ v.1 then some (.inl (.inr v.2)) else Option.bind (Pa_signAt v.1 v.2) (fun q2 => Option.bind (Va_goesOn q2 v.1 v.2) (fun q3 => (if q3.1 = 0 then some (.inl (.inl (v.1, q3.2))) else some (.inr (v.1 + (1 : Int32), q3.2)))))))

set_option maxRecDepth 20000 in
set_option maxHeartbeats 2000000 in
theorem S_Va_read_B28 {C : QC} (hc : OKX C RX7 cX7_read 3 5 (some .int)) (hSH : q_SH C = SHK) (v : Int32 × QM) {res : ((Int32 × QM) ⊕ (QM)) ⊕ (Int32 × QM)} (h : Va_read_B28 v = some res) (kr : ∀ x : Int32 × QM, res = .inl (.inl x) → q_r C = some (.int x.1) ∧ q_M C = x.2) (ke : ∀ x : QM, res = .inl (.inr x) → WX C 3 63 [(0, .ref 24)] [] x) (kb : ∀ x : Int32 × QM, res = .inr x → WX C 3 28 [(0, .ref 24), (2, .int x.1)] [] x.2) : WX C 3 28 [(0, .ref 24), (2, .int v.1)] [] v.2 := by
  unfold Va_read_B28 at h
  refine x_iload_n hc dX7_read_28 rfl 1 rfl ?_
  refine x_aload_n hc dX7_read_29 rfl 0 rfl ?_
  refine x_getR hc dX7_read_30 fl_RX7_9 (q_s hSH sh_24) rfl ?_
  obtain ⟨q1, h1, h⟩ := bd_some h
  refine x_callVi (As := []) (st := [.int v.1]) (o := 1) hc dX7_read_33 cv_X4_length lk_RX7_45 (q_s hSH sh_1) rfl rfl (q_cn hSH (S_Pa_length h1)) (by decide) (Nat.le_of_ble_eq_true rfl) ?_
  refine x_icmp_ge (tgt := 63) hc dX7_read_36 (by decide) (fun hb => ?_) (fun hb => ?_)
  · have h := ite_t hb h
    cases h
    exact x_sub (ke v.2 rfl) [0] rfl
  · have h := ite_f hb h
    refine x_aload_n hc dX7_read_39 rfl 0 rfl ?_
    refine x_aload_n hc dX7_read_40 rfl 0 rfl ?_
    refine x_getR hc dX7_read_41 fl_RX7_9 (q_s hSH sh_24) rfl ?_
    refine x_iload_n hc dX7_read_44 rfl 1 rfl ?_
    obtain ⟨q2, h2, h⟩ := bd_some h
    refine x_callVi (As := [.int v.1]) (st := [.ref 24]) (o := 1) hc dX7_read_45 cv_X4_signAt lk_RX7_51 (q_s hSH sh_1) rfl rfl (q_cn hSH (S_Pa_signAt h2)) (by decide) (Nat.le_of_ble_eq_true rfl) ?_
    refine x_iload_n hc dX7_read_48 rfl 1 rfl ?_
    obtain ⟨q3, h3, h⟩ := bd_some h
    refine x_callVi (As := [.int q2, .int v.1]) (st := []) (o := 24) hc dX7_read_49 cv_X7_goesOn lk_RX7_55 (q_s hSH sh_24) rfl rfl (q_cn hSH (S_Va_goesOn h3)) (by decide) (Nat.le_of_ble_eq_true rfl) ?_
    refine x_if_ne (tgt := 57) hc dX7_read_52 (by decide) (fun hb => ?_) (fun hb => ?_)
    · have h := ite_f hb h
      refine x_iinc (v := v.1 + (1 : Int32)) (L2 := [(2, .int (v.1 + (1 : Int32))), (0, .ref 24)]) hc dX7_read_57 1 rfl (by rw [kc_1]) (by decide) rfl ?_
      refine x_goto (tgt := 28) hc dX7_read_60 (by decide) ?_
      cases h
      exact x_sub (kb (v.1 + (1 : Int32), q3.2) rfl) [1, 0] rfl
    · have h := ite_t hb h
      refine x_iload_n hc dX7_read_55 rfl 1 rfl ?_
      cases h
      exact x_iret hc dX7_read_56 (kr _ rfl).1 (kr _ rfl).2

theorem S_Va_read_L28 {C : QC} (hc : OKX C RX7 cX7_read 3 5 (some .int)) (hSH : q_SH C = SHK) {n : Nat} {v : Int32 × QM} {e : (Int32 × QM) ⊕ (QM)} (h : iter (Va_read_B28) n v = some e) (kr : ∀ x : Int32 × QM, e = .inl x → q_r C = some (.int x.1) ∧ q_M C = x.2) (ke : ∀ x : QM, e = .inr x → WX C 3 63 [(0, .ref 24)] [] x) : WX C 3 28 [(0, .ref 24), (2, .int v.1)] [] v.2 :=
  iter_W (Wh := fun v => WX C 3 28 [(0, .ref 24), (2, .int v.1)] [] v.2) (fun a res hB k1 k2 => S_Va_read_B28 hc hSH a hB (fun x hx => kr x (k1 _ hx).symm) (fun x hx => ke x (k1 _ hx).symm) k2) n v h

def Va_read (p1 : Int32) (M : QM) : Option (Int32 × QM) :=
  Option.bind (iter (Va_read_B28) FU ((0 : Int32), u_i (u_i (u_i (u_i (u_i M 24 5 (0 : Int32)) 24 6 (0 : Int32)) 24 7 p1) 24 8 (0 : Int32)) 24 9 (-6 : Int32))) (fun e4 => Sum.elim (fun r4 => some r4) (fun y4 => (if (y4.1 24 6) = (6 : Int32) then some ((-6 : Int32), y4) else Option.bind (Pa_length y4) (fun q5 => some (q5, y4)))) e4)

set_option maxRecDepth 20000 in
set_option maxHeartbeats 2000000 in
theorem S_Va_read  {p1 : Int32} {M : QM} {res : Int32 × QM} (h : Va_read p1 M = some res) : Cn yX7_read cX7_read 3 (some .int) 5 SHK [.ref 24, .int p1] M (some (.int res.1)) res.2 := by
  refine q_enter (L := [(0, .ref 24), (1, .int p1)]) (by decide) (Nat.le_of_ble_eq_true rfl) rfl ?_
  intro C hc hSH hr hM
  have hc : OKX C RX7 cX7_read 3 5 (some .int) := hc
  unfold Va_read at h
  refine x_aload_n hc dX7_read_0 rfl 0 rfl ?_
  refine x_iconst hc dX7_read_1 kc_0 ?_
  refine x_putI hc dX7_read_2 fl_RX7_29 (fw_7_5 _) (q_s hSH sh_24) rfl ?_
  refine x_aload_n hc dX7_read_5 rfl 0 rfl ?_
  refine x_iconst hc dX7_read_6 kc_0 ?_
  refine x_putI hc dX7_read_7 fl_RX7_33 (fw_7_6 _) (q_s hSH sh_24) rfl ?_
  refine x_aload_n hc dX7_read_10 rfl 0 rfl ?_
  refine x_iload_n hc dX7_read_11 rfl 1 rfl ?_
  refine x_putI hc dX7_read_12 fl_RX7_36 (fw_7_7 _) (q_s hSH sh_24) rfl ?_
  refine x_aload_n hc dX7_read_15 rfl 0 rfl ?_
  refine x_iconst hc dX7_read_16 kc_0 ?_
  refine x_putI hc dX7_read_17 fl_RX7_39 (fw_7_8 _) (q_s hSH sh_24) rfl ?_
  refine x_aload_n hc dX7_read_20 rfl 0 rfl ?_
  refine x_bipush hc dX7_read_21 kb_m6 ?_
  refine x_putI hc dX7_read_23 fl_RX7_42 (fw_7_9 _) (q_s hSH sh_24) rfl ?_
  refine x_iconst hc dX7_read_26 kc_0 ?_
  refine x_istore_n (L2 := [(2, .int (0 : Int32)), (0, .ref 24), (1, .int p1)]) hc dX7_read_27 rfl (by decide) rfl ?_
  obtain ⟨e4, h4, h⟩ := bd_some h
  refine x_sub (S_Va_read_L28 hc hSH (v := ((0 : Int32), u_i (u_i (u_i (u_i (u_i M 24 5 (0 : Int32)) 24 6 (0 : Int32)) 24 7 p1) 24 8 (0 : Int32)) 24 9 (-6 : Int32))) h4 (fun r4 hx => ?_) (fun y4 hx => ?_)) [1, 0] rfl
  · subst hx
    have h := sum_l h
    cases h
    exact ⟨hr, hM⟩
  · subst hx
    have h := sum_r h
    refine x_aload_n hc dX7_read_63 rfl 0 rfl ?_
    refine x_getI hc dX7_read_64 fl_RX7_33 (q_s hSH sh_24) rfl ?_
    refine x_bipush hc dX7_read_67 kb_6 ?_
    refine x_icmp_ne (tgt := 77) hc dX7_read_69 (by decide) (fun hb => ?_) (fun hb => ?_)
    · have h := ite_f hb h
      refine x_aload_n hc dX7_read_77 rfl 0 rfl ?_
      refine x_getR hc dX7_read_78 fl_RX7_9 (q_s hSH sh_24) rfl ?_
      obtain ⟨q5, h5, h⟩ := bd_some h
      refine x_callVi (As := []) (st := []) (o := 1) hc dX7_read_81 cv_X4_length lk_RX7_45 (q_s hSH sh_1) rfl rfl (q_cn hSH (S_Pa_length h5)) (by decide) (Nat.le_of_ble_eq_true rfl) ?_
      cases h
      exact x_iret hc dX7_read_84 hr hM
    · have h := ite_t hb h
      refine x_bipush hc dX7_read_72 kb_m6 ?_
      refine x_goto (tgt := 84) hc dX7_read_74 (by decide) ?_
      cases h
      exact x_iret hc dX7_read_84 hr hM

def Va_valuesRead (M : QM) : Option (Int32) :=
  some (M.1 24 8)

set_option maxRecDepth 20000 in
set_option maxHeartbeats 2000000 in
theorem S_Va_valuesRead  {M : QM} {res : Int32} (h : Va_valuesRead M = some res) : Cn yX7_valuesRead cX7_valuesRead 1 (some .int) 0 SHK [.ref 24] M (some (.int res)) M := by
  refine q_enter (L := [(0, .ref 24)]) (by decide) (Nat.le_of_ble_eq_true rfl) rfl ?_
  intro C hc hSH hr hM
  have hc : OKX C RX7 cX7_valuesRead 1 0 (some .int) := hc
  unfold Va_valuesRead at h
  refine x_aload_n hc dX7_valuesRead_0 rfl 0 rfl ?_
  refine x_getI hc dX7_valuesRead_1 fl_RX7_39 (q_s hSH sh_24) rfl ?_
  cases h
  exact x_iret hc dX7_valuesRead_4 hr hM

