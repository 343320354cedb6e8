set_option maxHeartbeats 4000000 in
set_option maxRecDepth 100000 in
theorem c_X6_errorPosition {l : Launch} {Y0 : x_Y} (hO : x_Ok Y0) {M : x_M} {b : Nat} {D : tK} {Q : HS} {S : tS} (hb : x_bk M b (tcT b D Q S)) : x_C l Y0 yX6_errorPosition cX6_errorPosition 1 (some .int) 1 0 0 [.ref (b + 42)] M (fun u M1 => u = some (.int (t_pos S)) ∧ M1 = tX M b D Q (S)) := by
  refine x_start hO (by decide +kernel) (Nat.le_of_ble_eq_true rfl) (fun K C E => ?_)
  refine x_to (tX_self hb).symm ?_
  refine x_aload_n C dX6_errorPosition_0 rfl rfl ?_
  refine x_getfield C dX6_errorPosition_1 fX6_36 tX_g42 rfl ?_
  refine x_iconst (v := (-1)) C dX6_errorPosition_4 (by decide) ?_
  refine x_icmp_eq (tgt := 15) C dX6_errorPosition_5 (by decide) (fun c5 => ?_) (fun c5 => ?_)
  · refine x_aload_n C dX6_errorPosition_15 rfl rfl ?_
    refine x_getfield C dX6_errorPosition_16 fX6_43 tX_g42 rfl ?_
    refine x_iret C E dX6_errorPosition_19 ?_
    exact ⟨by unfold t_pos; rw [if_pos c5], rfl⟩
  · refine x_aload_n C dX6_errorPosition_8 rfl rfl ?_
    refine x_getfield C dX6_errorPosition_9 fX6_36 tX_g42 rfl ?_
    refine x_goto (tgt := 19) C dX6_errorPosition_12 (by decide) ?_
    refine x_iret C E dX6_errorPosition_19 ?_
    exact ⟨by unfold t_pos; rw [if_neg c5], rfl⟩
set_option maxHeartbeats 4000000 in
set_option maxRecDepth 100000 in
theorem c_X6_readHive {l : Launch} {Y0 : x_Y} (hO : x_Ok Y0) {M : x_M} {b tp n : Nat} {Q : HS} {S : tS} {f : Nat → Int32} {x0 : Nat} {v0 : Int64} {kw : Nat → Int64} {K2 : (Nat → Int32) × (Nat → Int32) × (Nat → Int64)} {s2 : kS} (hs2 : k_lp f n kw 401 0 2 ((0, v0), K2) = s2) (hn : n ≤ 2000) (hp : x_bk M tp (tpT tp (nI n) f)) (hd : tp + 3 ≤ b) (hb : x_bk M b (tcT b ((tp, nI x0, v0), kw, K2) Q S)) (hD0 : ∀ j, ¬ K2.2.1 j = -1) (hc : x_Stc Y0) {qs ts : Nat} (hZ : vk_R RX7 113 "()[];,+-*/<>=" qs Y0.1) (hsy : x_Str Y0 qs ts k_SYM) (hf : k_by f) : x_C l Y0 yX6_readHive cX6_readHive 2 (some .int) 46 0 0 [.ref (b + 42)] M (fun u M1 => u = some (.int (t_res (t_hive ((tp, nI s2.1.1, s2.1.2), kw, s2.2) S))) ∧ M1 = (tX M b ((tp, nI s2.1.1, s2.1.2), kw, s2.2) Q (t_hive ((tp, nI s2.1.1, s2.1.2), kw, s2.2) S))) := by
  refine x_start hO (by decide +kernel) (Nat.le_of_ble_eq_true rfl) (fun K C E => ?_)
  have hD : t_dk ((tp, nI s2.1.1, s2.1.2), kw, s2.2) := by
    show ∀ j, ¬ s2.2.2.1 j = -1
    rw [← hs2]
    exact k_lp_st hn 401 0 2 ((0, v0), K2) (Nat.zero_le _) hD0
  have hft := t_test_ki hD (w := 8) (by omega)
  have hT : ∀ {Q : HS}, tCt l Y0 yX6_readTest cX6_readTest 3 44 b ((tp, nI s2.1.1, s2.1.2), kw, s2.2) Q 0 (t_testN ((tp, nI s2.1.1, s2.1.2), kw, s2.2) 8) := c_testN hO hD
  refine x_to (tX_self hb).symm ?_
  have lp : ∀ (w i : Nat) (z : Int32) (S1 : tS), i + w = 400 → z = nI i → t_in S1 → t_lines ((tp, nI s2.1.1, s2.1.2), kw, s2.2) (t_testN ((tp, nI s2.1.1, s2.1.2), kw, s2.2) 8) 400 (t_S2 ((tp, nI s2.1.1, s2.1.2), kw, s2.2) (t_go S)) = t_lines ((tp, nI s2.1.1, s2.1.2), kw, s2.2) (t_testN ((tp, nI s2.1.1, s2.1.2), kw, s2.2) 8) w (S1) → x_X K 2 0 0 47 [(0, .ref (b + 42)), (1, .int z)] [] (tX M b ((tp, nI s2.1.1, s2.1.2), kw, s2.2) Q (S1)) := by
    intro w
    induction w with
    | zero =>
      intro i z S1 hi hz hin1 hq
      subst hz
      have e : i = 400 := by omega
      subst e
      refine x_iload_n C dX6_readHive_47 rfl rfl ?_
      refine x_sipush (v := 400) C dX6_readHive_48 (by decide) ?_
      refine x_icmp_ge (tgt := 122) C dX6_readHive_51 (by decide) (fun c51 => ?_) (fun c51 => absurd (by decide) c51)
      refine x_aload_n C dX6_readHive_122 rfl rfl ?_
      refine x_getfield C dX6_readHive_123 fX6_36 tX_g42 rfl ?_
      refine x_iconst (v := (-1)) C dX6_readHive_126 (by decide) ?_
      refine x_icmp_eq (tgt := 134) C dX6_readHive_127 (by decide) (fun c127 => ?_) (fun c127 => ?_)
      · refine x_aload_n C dX6_readHive_134 rfl rfl ?_
        refine x_getfield C dX6_readHive_135 fX6_40 tX_g42 rfl ?_
        refine x_iret C E dX6_readHive_138 ?_
        have e9 : t_hive ((tp, nI s2.1.1, s2.1.2), kw, s2.2) S = S1 := by show t_lines ((tp, nI s2.1.1, s2.1.2), kw, s2.2) (t_testN ((tp, nI s2.1.1, s2.1.2), kw, s2.2) 8) 400 (t_S2 ((tp, nI s2.1.1, s2.1.2), kw, s2.2) (t_go S)) = S1; rw [hq]; first | rfl | (simp only [t_lines]; done) | fail
        rw [e9]
        exact ⟨by unfold t_res; rw [if_pos c127], rfl⟩
      · refine x_iconst (v := 1) C dX6_readHive_130 (by decide) ?_
        refine x_goto (tgt := 138) C dX6_readHive_131 (by decide) ?_
        refine x_iret C E dX6_readHive_138 ?_
        have e9 : t_hive ((tp, nI s2.1.1, s2.1.2), kw, s2.2) S = S1 := by show t_lines ((tp, nI s2.1.1, s2.1.2), kw, s2.2) (t_testN ((tp, nI s2.1.1, s2.1.2), kw, s2.2) 8) 400 (t_S2 ((tp, nI s2.1.1, s2.1.2), kw, s2.2) (t_go S)) = S1; rw [hq]; first | rfl | (simp only [t_lines]; done) | fail
        rw [e9]
        exact ⟨by unfold t_res; rw [if_neg c127], rfl⟩
    | succ w ih =>
      intro i z S1 hi hz hin1 hq
      subst hz
      refine x_iload_n C dX6_readHive_47 rfl rfl ?_
      refine x_sipush (v := 400) C dX6_readHive_48 (by decide) ?_
      refine x_icmp_ge (tgt := 122) C dX6_readHive_51 (by decide) (fun c51 => absurd c51 (show ¬ nI 400 ≤ nI i from nI_ge (by omega) (by decide))) (fun c51 => ?_)
      refine x_aload_n C dX6_readHive_54 rfl rfl ?_
      refine x_getfield C dX6_readHive_55 fX6_28 tX_g42 rfl ?_
      refine x_getfield C dX6_readHive_58 fX6_57 tX_g47 rfl ?_
      refine x_if_eq (tgt := 122) C dX6_readHive_61 (by decide) (fun c61 => ?_) (fun c61 => ?_)
      · refine x_aload_n C dX6_readHive_122 rfl rfl ?_
        refine x_getfield C dX6_readHive_123 fX6_36 tX_g42 rfl ?_
        refine x_iconst (v := (-1)) C dX6_readHive_126 (by decide) ?_
        refine x_icmp_eq (tgt := 134) C dX6_readHive_127 (by decide) (fun c127 => ?_) (fun c127 => ?_)
        · refine x_aload_n C dX6_readHive_134 rfl rfl ?_
          refine x_getfield C dX6_readHive_135 fX6_40 tX_g42 rfl ?_
          refine x_iret C E dX6_readHive_138 ?_
          have e9 : t_hive ((tp, nI s2.1.1, s2.1.2), kw, s2.2) S = S1 := by show t_lines ((tp, nI s2.1.1, s2.1.2), kw, s2.2) (t_testN ((tp, nI s2.1.1, s2.1.2), kw, s2.2) 8) 400 (t_S2 ((tp, nI s2.1.1, s2.1.2), kw, s2.2) (t_go S)) = S1; rw [hq]; first | rfl | (simp only [t_lines, if_pos c61]; done) | fail
          rw [e9]
          exact ⟨by unfold t_res; rw [if_pos c127], rfl⟩
        · refine x_iconst (v := 1) C dX6_readHive_130 (by decide) ?_
          refine x_goto (tgt := 138) C dX6_readHive_131 (by decide) ?_
          refine x_iret C E dX6_readHive_138 ?_
          have e9 : t_hive ((tp, nI s2.1.1, s2.1.2), kw, s2.2) S = S1 := by show t_lines ((tp, nI s2.1.1, s2.1.2), kw, s2.2) (t_testN ((tp, nI s2.1.1, s2.1.2), kw, s2.2) 8) 400 (t_S2 ((tp, nI s2.1.1, s2.1.2), kw, s2.2) (t_go S)) = S1; rw [hq]; first | rfl | (simp only [t_lines, if_pos c61]; done) | fail
          rw [e9]
          exact ⟨by unfold t_res; rw [if_neg c127], rfl⟩
      · refine x_aload_n C dX6_readHive_64 rfl rfl ?_
        refine x_getfield C dX6_readHive_65 fX6_36 tX_g42 rfl ?_
        refine x_iconst (v := (-1)) C dX6_readHive_68 (by decide) ?_
        refine x_icmp_ne (tgt := 122) C dX6_readHive_69 (by decide) (fun c69 => ?_) (fun c69 => ?_)
        · refine x_aload_n C dX6_readHive_122 rfl rfl ?_
          refine x_getfield C dX6_readHive_123 fX6_36 tX_g42 rfl ?_
          refine x_iconst (v := (-1)) C dX6_readHive_126 (by decide) ?_
          refine x_icmp_eq (tgt := 134) C dX6_readHive_127 (by decide) (fun c127 => ?_) (fun c127 => ?_)
          · refine x_aload_n C dX6_readHive_134 rfl rfl ?_
            refine x_getfield C dX6_readHive_135 fX6_40 tX_g42 rfl ?_
            refine x_iret C E dX6_readHive_138 ?_
            have e9 : t_hive ((tp, nI s2.1.1, s2.1.2), kw, s2.2) S = S1 := by show t_lines ((tp, nI s2.1.1, s2.1.2), kw, s2.2) (t_testN ((tp, nI s2.1.1, s2.1.2), kw, s2.2) 8) 400 (t_S2 ((tp, nI s2.1.1, s2.1.2), kw, s2.2) (t_go S)) = S1; rw [hq]; first | rfl | (simp only [t_lines, if_neg c61, if_neg c69]; done) | fail
            rw [e9]
            exact ⟨by unfold t_res; rw [if_pos c127], rfl⟩
          · refine x_iconst (v := 1) C dX6_readHive_130 (by decide) ?_
            refine x_goto (tgt := 138) C dX6_readHive_131 (by decide) ?_
            refine x_iret C E dX6_readHive_138 ?_
            have e9 : t_hive ((tp, nI s2.1.1, s2.1.2), kw, s2.2) S = S1 := by show t_lines ((tp, nI s2.1.1, s2.1.2), kw, s2.2) (t_testN ((tp, nI s2.1.1, s2.1.2), kw, s2.2) 8) 400 (t_S2 ((tp, nI s2.1.1, s2.1.2), kw, s2.2) (t_go S)) = S1; rw [hq]; first | rfl | (simp only [t_lines, if_neg c61, if_neg c69]; done) | fail
            rw [e9]
            exact ⟨by unfold t_res; rw [if_neg c127], rfl⟩
        · refine x_aload_n C dX6_readHive_72 rfl rfl ?_
          refine x_sipush (v := 256) C dX6_readHive_73 (by decide) ?_
          refine x_callV1 C dX6_readHive_76 kX6_60 (c_X6_accept hO tX_bk) tX_g42 rfl (by decide) ⟨Nat.zero_le _, Nat.zero_le _⟩ (Nat.le_of_ble_eq_true rfl) ?_
          rintro _ _ ⟨rfl, rfl⟩
          refine x_to tX_tX ?_
          refine x_if_eq (tgt := 89) C dX6_readHive_79 (by decide) (fun c79 => ?_) (fun c79 => ?_)
          · have c79 := b_n c79
            refine x_aload_n C dX6_readHive_89 rfl rfl ?_
            refine x_sipush (v := 258) C dX6_readHive_90 (by decide) ?_
            refine x_callV1 C dX6_readHive_93 kX6_60 (c_X6_accept hO tX_bk) tX_g42 rfl (by decide) ⟨Nat.zero_le _, Nat.zero_le _⟩ (Nat.le_of_ble_eq_true rfl) ?_
            rintro _ _ ⟨rfl, rfl⟩
            refine x_to tX_tX ?_
            refine x_if_eq (tgt := 106) C dX6_readHive_96 (by decide) (fun c96 => ?_) (fun c96 => ?_)
            · have c96 := b_n c96
              refine x_aload_n C dX6_readHive_106 rfl rfl ?_
              refine x_callV0 C dX6_readHive_107 kX6_70 (c_X6_readOrder (d := 45) hO hD (t_in_acc hD (t_in_acc hD hin1)) tX_bk (by omega) (by omega) hft hT) tX_g42 rfl (by decide) ⟨Nat.zero_le _, Nat.zero_le _⟩ (Nat.le_of_ble_eq_true rfl) ?_
              rintro _ _ ⟨rfl, rfl⟩
              refine x_to tX_tX ?_
              refine x_aload_n C dX6_readHive_110 rfl rfl ?_
              refine x_bipush (v := 59) C dX6_readHive_111 (by decide) ?_
              refine x_callV1 C dX6_readHive_113 kX6_73 (c_X6_expect hO tX_bk) tX_g42 rfl (by decide) ⟨Nat.zero_le _, Nat.zero_le _⟩ (Nat.le_of_ble_eq_true rfl) ?_
              rintro _ _ ⟨rfl, rfl⟩
              refine x_to tX_tX ?_
              refine x_iinc (v := 1) C dX6_readHive_116 rfl (by decide) rfl (by decide) ?_
              refine x_goto (tgt := 47) C dX6_readHive_119 (by decide) ?_
              exact ih (i + 1) _ _ (by omega) (nI_1 i) (t_in_exp hD (t_in_order hD hft (t_in_acc hD (t_in_acc hD hin1)))) (by rw [hq]; simp only [t_lines, if_neg c61, if_pos c69, t_line, if_neg c79, if_neg c96])
            · have c96 := b_y c96
              refine x_aload_n C dX6_readHive_99 rfl rfl ?_
              refine x_callV0 C dX6_readHive_100 kX6_67 (c_X6_readDeal hO tX_bk) tX_g42 rfl (by decide) ⟨Nat.zero_le _, Nat.zero_le _⟩ (Nat.le_of_ble_eq_true rfl) ?_
              rintro _ _ ⟨rfl, rfl⟩
              refine x_to tX_tX ?_
              refine x_goto (tgt := 110) C dX6_readHive_103 (by decide) ?_
              refine x_aload_n C dX6_readHive_110 rfl rfl ?_
              refine x_bipush (v := 59) C dX6_readHive_111 (by decide) ?_
              refine x_callV1 C dX6_readHive_113 kX6_73 (c_X6_expect hO tX_bk) tX_g42 rfl (by decide) ⟨Nat.zero_le _, Nat.zero_le _⟩ (Nat.le_of_ble_eq_true rfl) ?_
              rintro _ _ ⟨rfl, rfl⟩
              refine x_to tX_tX ?_
              refine x_iinc (v := 1) C dX6_readHive_116 rfl (by decide) rfl (by decide) ?_
              refine x_goto (tgt := 47) C dX6_readHive_119 (by decide) ?_
              exact ih (i + 1) _ _ (by omega) (nI_1 i) (t_in_exp hD (t_in_deal hD (t_in_acc hD (t_in_acc hD hin1)))) (by rw [hq]; simp only [t_lines, if_neg c61, if_pos c69, t_line, if_neg c79, if_pos c96])
          · have c79 := b_y c79
            refine x_aload_n C dX6_readHive_82 rfl rfl ?_
            refine x_callV0 C dX6_readHive_83 kX6_64 (c_X6_readDrone hO tX_bk) tX_g42 rfl (by decide) ⟨Nat.zero_le _, Nat.zero_le _⟩ (Nat.le_of_ble_eq_true rfl) ?_
            rintro _ _ ⟨rfl, rfl⟩
            refine x_to tX_tX ?_
            refine x_goto (tgt := 110) C dX6_readHive_86 (by decide) ?_
            refine x_aload_n C dX6_readHive_110 rfl rfl ?_
            refine x_bipush (v := 59) C dX6_readHive_111 (by decide) ?_
            refine x_callV1 C dX6_readHive_113 kX6_73 (c_X6_expect hO tX_bk) tX_g42 rfl (by decide) ⟨Nat.zero_le _, Nat.zero_le _⟩ (Nat.le_of_ble_eq_true rfl) ?_
            rintro _ _ ⟨rfl, rfl⟩
            refine x_to tX_tX ?_
            refine x_iinc (v := 1) C dX6_readHive_116 rfl (by decide) rfl (by decide) ?_
            refine x_goto (tgt := 47) C dX6_readHive_119 (by decide) ?_
            exact ih (i + 1) _ _ (by omega) (nI_1 i) (t_in_exp hD (t_in_drone hD (t_in_acc hD hin1))) (by rw [hq]; simp only [t_lines, if_neg c61, if_pos c69, t_line, if_pos c79])
  refine x_aload_n C dX6_readHive_0 rfl rfl ?_
  refine x_iconst (v := (-1)) C dX6_readHive_1 (by decide) ?_
  refine x_putfield C dX6_readHive_2 fX6_36 tX_g42 rfl rfl (Nat.le_of_ble_eq_true rfl) ?_
  refine x_to tX_s3 ?_
  refine x_aload_n C dX6_readHive_5 rfl rfl ?_
  refine x_iconst (v := 0) C dX6_readHive_6 (by decide) ?_
  refine x_putfield C dX6_readHive_7 fX6_40 tX_g42 rfl rfl (Nat.le_of_ble_eq_true rfl) ?_
  refine x_to tX_s4 ?_
  refine x_aload_n C dX6_readHive_10 rfl rfl ?_
  refine x_iconst (v := (-1)) C dX6_readHive_11 (by decide) ?_
  refine x_putfield C dX6_readHive_12 fX6_43 tX_g42 rfl rfl (Nat.le_of_ble_eq_true rfl) ?_
  refine x_to tX_s5 ?_
  refine x_aload_n C dX6_readHive_15 rfl rfl ?_
  refine x_getfield C dX6_readHive_16 fX6_32 tX_g42 rfl ?_
  refine x_callV0 C dX6_readHive_19 kX6_46 (c_X2_clear hO tX_pl) tX_g0 rfl (by decide) ⟨Nat.zero_le _, Nat.zero_le _⟩ (Nat.le_of_ble_eq_true rfl) ?_
  rintro _ _ ⟨rfl, rfl⟩
  refine x_to tX_clr ?_
  refine x_aload_n C dX6_readHive_22 rfl rfl ?_
  refine x_getfield C dX6_readHive_23 fX6_14 tX_g42 rfl ?_
  refine x_iconst (v := 0) C dX6_readHive_26 (by decide) ?_
  refine x_putfield C dX6_readHive_27 fX6_51 tX_g43 rfl rfl (Nat.le_of_ble_eq_true rfl) ?_
  refine x_to tX_s6 ?_
  refine x_aload_n C dX6_readHive_30 rfl rfl ?_
  refine x_getfield C dX6_readHive_31 fX6_20 tX_g42 rfl ?_
  refine x_iconst (v := 0) C dX6_readHive_34 (by decide) ?_
  refine x_putfield C dX6_readHive_35 fX6_51 tX_g45 rfl rfl (Nat.le_of_ble_eq_true rfl) ?_
  refine x_to tX_s7 ?_
  refine x_aload_n C dX6_readHive_38 rfl rfl ?_
  refine x_getfield C dX6_readHive_39 fX6_28 tX_g42 rfl ?_
  refine x_callV0 C dX6_readHive_42 kX6_54 (c_X7_readTape (s := ((x0, v0), K2)) hO hn (x_ov_far 52 hp rfl (Or.inl hd)) (Or.inl (by omega)) tX_b47 hc hZ hsy hf) tX_g47 rfl (by decide) ⟨Nat.zero_le _, Nat.zero_le _⟩ (Nat.le_of_ble_eq_true rfl) ?_
  rintro _ _ ⟨rfl, rfl⟩
  rw [hs2]
  refine x_to tX_tk ?_
  refine x_iconst (v := 0) C dX6_readHive_45 (by decide) ?_
  refine x_istore_n C dX6_readHive_46 rfl rfl (by decide) ?_
  exact lp 400 0 0 _ (by omega) rfl (t_in_S2 hD _) rfl
