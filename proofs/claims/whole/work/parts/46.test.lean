set_option maxHeartbeats 4000000 in
set_option maxRecDepth 100000 in
theorem c_X6_readComparingSign {l : Launch} {Y0 : x_Y} (hO : x_Ok Y0) {M : x_M} {b : Nat} {D : tK} {Q : HS} {S : tS} (hb : x_bk M b (tcT b D Q S)) : x_C l Y0 yX6_readComparingSign cX6_readComparingSign 2 (some .int) 3 0 0 [.ref (b + 42)] M (fun u M1 => u = some (.int (S.1 11 1)) ∧ M1 = tX M b D Q (t_sign D S)) := by
  refine x_start hO (by decide +kernel) (Nat.le_of_ble_eq_true rfl) (fun K C E => ?_)
  refine x_to (tX_self hb).symm ?_
  have j54 : x_X K 2 0 0 54 [(0, .ref (b + 42)), (1, .int (S.1 11 1))] [] (tX M b D Q (t_sign D S)) := by
      refine x_iload_n C dX6_readComparingSign_54 rfl rfl ?_
      refine x_iret C E dX6_readComparingSign_55 ?_
      exact ⟨rfl, rfl⟩
  refine x_aload_n C dX6_readComparingSign_0 rfl rfl ?_
  refine x_getfield C dX6_readComparingSign_1 fX6_28 tX_g42 rfl ?_
  refine x_getfield C dX6_readComparingSign_4 fX6_57 tX_g47 rfl ?_
  refine x_istore_n C dX6_readComparingSign_7 rfl rfl (by decide) ?_
  refine x_iload_n C dX6_readComparingSign_8 rfl rfl ?_
  refine x_bipush (v := 60) C dX6_readComparingSign_9 (by decide) ?_
  refine x_icmp_eq (tgt := 40) C dX6_readComparingSign_11 (by decide) (fun c11 => ?_) (fun c11 => ?_)
  · refine x_aload_n C dX6_readComparingSign_40 rfl rfl ?_
    refine x_getfield C dX6_readComparingSign_41 fX6_28 tX_g42 rfl ?_
    refine x_callV0 C dX6_readComparingSign_44 kX6_79 (c_X7_advance hO tX_bk) tX_g47 rfl (by decide) ⟨Nat.zero_le _, Nat.zero_le _⟩ (Nat.le_of_ble_eq_true rfl) ?_
    rintro _ _ ⟨rfl, rfl⟩
    refine x_to tX_tX ?_
    refine x_goto (tgt := 54) C dX6_readComparingSign_47 (by decide) ?_
    refine x_to (M' := tX M b D Q (t_sign D S)) (congrArg (tX M b D Q) (by simp only [t_sign, if_pos c11])) ?_
    exact j54
  · refine x_iload_n C dX6_readComparingSign_14 rfl rfl ?_
    refine x_bipush (v := 62) C dX6_readComparingSign_15 (by decide) ?_
    refine x_icmp_eq (tgt := 40) C dX6_readComparingSign_17 (by decide) (fun c17 => ?_) (fun c17 => ?_)
    · refine x_aload_n C dX6_readComparingSign_40 rfl rfl ?_
      refine x_getfield C dX6_readComparingSign_41 fX6_28 tX_g42 rfl ?_
      refine x_callV0 C dX6_readComparingSign_44 kX6_79 (c_X7_advance hO tX_bk) tX_g47 rfl (by decide) ⟨Nat.zero_le _, Nat.zero_le _⟩ (Nat.le_of_ble_eq_true rfl) ?_
      rintro _ _ ⟨rfl, rfl⟩
      refine x_to tX_tX ?_
      refine x_goto (tgt := 54) C dX6_readComparingSign_47 (by decide) ?_
      refine x_to (M' := tX M b D Q (t_sign D S)) (congrArg (tX M b D Q) (by simp only [t_sign, if_neg c11, if_pos c17])) ?_
      exact j54
    · refine x_iload_n C dX6_readComparingSign_20 rfl rfl ?_
      refine x_bipush (v := 61) C dX6_readComparingSign_21 (by decide) ?_
      refine x_icmp_eq (tgt := 40) C dX6_readComparingSign_23 (by decide) (fun c23 => ?_) (fun c23 => ?_)
      · refine x_aload_n C dX6_readComparingSign_40 rfl rfl ?_
        refine x_getfield C dX6_readComparingSign_41 fX6_28 tX_g42 rfl ?_
        refine x_callV0 C dX6_readComparingSign_44 kX6_79 (c_X7_advance hO tX_bk) tX_g47 rfl (by decide) ⟨Nat.zero_le _, Nat.zero_le _⟩ (Nat.le_of_ble_eq_true rfl) ?_
        rintro _ _ ⟨rfl, rfl⟩
        refine x_to tX_tX ?_
        refine x_goto (tgt := 54) C dX6_readComparingSign_47 (by decide) ?_
        refine x_to (M' := tX M b D Q (t_sign D S)) (congrArg (tX M b D Q) (by simp only [t_sign, if_neg c11, if_neg c17, if_pos c23])) ?_
        exact j54
      · refine x_iload_n C dX6_readComparingSign_26 rfl rfl ?_
        refine x_sipush (v := 188) C dX6_readComparingSign_27 (by decide) ?_
        refine x_icmp_eq (tgt := 40) C dX6_readComparingSign_30 (by decide) (fun c30 => ?_) (fun c30 => ?_)
        · refine x_aload_n C dX6_readComparingSign_40 rfl rfl ?_
          refine x_getfield C dX6_readComparingSign_41 fX6_28 tX_g42 rfl ?_
          refine x_callV0 C dX6_readComparingSign_44 kX6_79 (c_X7_advance hO tX_bk) tX_g47 rfl (by decide) ⟨Nat.zero_le _, Nat.zero_le _⟩ (Nat.le_of_ble_eq_true rfl) ?_
          rintro _ _ ⟨rfl, rfl⟩
          refine x_to tX_tX ?_
          refine x_goto (tgt := 54) C dX6_readComparingSign_47 (by decide) ?_
          refine x_to (M' := tX M b D Q (t_sign D S)) (congrArg (tX M b D Q) (by simp only [t_sign, if_neg c11, if_neg c17, if_neg c23, if_pos c30])) ?_
          exact j54
        · refine x_iload_n C dX6_readComparingSign_33 rfl rfl ?_
          refine x_sipush (v := 190) C dX6_readComparingSign_34 (by decide) ?_
          refine x_icmp_ne (tgt := 50) C dX6_readComparingSign_37 (by decide) (fun c37 => ?_) (fun c37 => ?_)
          · refine x_aload_n C dX6_readComparingSign_50 rfl rfl ?_
            refine x_callV0 C dX6_readComparingSign_51 kX6_82 (c_X6_breakOff hO tX_bk) tX_g42 rfl (by decide) ⟨Nat.zero_le _, Nat.zero_le _⟩ (Nat.le_of_ble_eq_true rfl) ?_
            rintro _ _ ⟨rfl, rfl⟩
            refine x_to tX_tX ?_
            refine x_to (M' := tX M b D Q (t_sign D S)) (congrArg (tX M b D Q) (by simp only [t_sign, if_neg c11, if_neg c17, if_neg c23, if_neg c30, if_neg c37])) ?_
            exact j54
          · refine x_aload_n C dX6_readComparingSign_40 rfl rfl ?_
            refine x_getfield C dX6_readComparingSign_41 fX6_28 tX_g42 rfl ?_
            refine x_callV0 C dX6_readComparingSign_44 kX6_79 (c_X7_advance hO tX_bk) tX_g47 rfl (by decide) ⟨Nat.zero_le _, Nat.zero_le _⟩ (Nat.le_of_ble_eq_true rfl) ?_
            rintro _ _ ⟨rfl, rfl⟩
            refine x_to tX_tX ?_
            refine x_goto (tgt := 54) C dX6_readComparingSign_47 (by decide) ?_
            refine x_to (M' := tX M b D Q (t_sign D S)) (congrArg (tX M b D Q) (by simp only [t_sign, if_neg c11, if_neg c17, if_neg c23, if_neg c30, if_pos c37])) ?_
            exact j54
set_option maxHeartbeats 4000000 in
set_option maxRecDepth 100000 in
theorem c_X6_readSingle {l : Launch} {Y0 : x_Y} (hO : x_Ok Y0) {M : x_M} {b : Nat} {D : tK} {Q : HS} {S : tS} (hD : t_dk D) (hin : t_in S) (hb : x_bk M b (tcT b D Q S)) {k : Int32} {d : Nat} {dO dT dS : Nat} {fo ft fs : tS → tS} (hd1 : dO + 1 ≤ d) (hd2 : dT + 1 ≤ d) (hd3 : dS + 1 ≤ d) (hd4 : 6 ≤ d) (hfo : k < 8 → t_ki fo) (hft : k < 8 → t_ki ft) (hfs : t_ki fs) (hO8 : k < 8 → tCt l Y0 yX6_readSingle cX6_readSingle 3 dO b D Q (k + 1) fo) (hT8 : k < 8 → tCt l Y0 yX6_readTest cX6_readTest 3 dT b D Q (k + 1) ft) (hS : tCt l Y0 yX6_readSum cX6_readSum 4 dS b D Q k fs) : x_C l Y0 yX6_readSingle cX6_readSingle 3 none d 0 0 [.ref (b + 42), .int k] M (fun u M1 => u = none ∧ M1 = tX M b D Q (t_single D k fo ft (t_cmp D fs) S)) := by
  refine x_start hO (by decide +kernel) (Nat.le_of_ble_eq_true rfl) (fun K C E => ?_)
  refine x_to (tX_self hb).symm ?_
  refine x_aload_n C dX6_readSingle_0 rfl rfl ?_
  refine x_getfield C dX6_readSingle_1 fX6_28 tX_g42 rfl ?_
  refine x_getfield C dX6_readSingle_4 fX6_57 tX_g47 rfl ?_
  refine x_sipush (v := 273) C dX6_readSingle_7 (by decide) ?_
  refine x_icmp_ne (tgt := 45) C dX6_readSingle_10 (by decide) (fun c10 => ?_) (fun c10 => ?_)
  · refine x_aload_n C dX6_readSingle_45 rfl rfl ?_
    refine x_getfield C dX6_readSingle_46 fX6_28 tX_g42 rfl ?_
    refine x_getfield C dX6_readSingle_49 fX6_57 tX_g47 rfl ?_
    refine x_bipush (v := 91) C dX6_readSingle_52 (by decide) ?_
    refine x_icmp_ne (tgt := 83) C dX6_readSingle_54 (by decide) (fun c54 => ?_) (fun c54 => ?_)
    · refine x_aload_n C dX6_readSingle_83 rfl rfl ?_
      refine x_sipush (v := 272) C dX6_readSingle_84 (by decide) ?_
      refine x_callV1 C dX6_readSingle_87 kX6_60 (c_X6_accept hO tX_bk) tX_g42 rfl (by omega) ⟨Nat.zero_le _, Nat.zero_le _⟩ (Nat.le_of_ble_eq_true rfl) ?_
      rintro _ _ ⟨rfl, rfl⟩
      refine x_to tX_tX ?_
      refine x_if_eq (tgt := 110) C dX6_readSingle_90 (by decide) (fun c90 => ?_) (fun c90 => ?_)
      · have c90 := b_n c90
        refine x_aload_n C dX6_readSingle_110 rfl rfl ?_
        refine x_iload_n C dX6_readSingle_111 rfl rfl ?_
        refine x_callV1 C dX6_readSingle_112 kX6_185 (hS _ _ (by repeat first | exact hin | refine t_in_adv hD ?_ | refine t_in_brk ?_ | refine t_in_acc hD ?_ | refine t_in_exp hD ?_ | refine t_in_deep hD ?_ | refine t_in_code ?_ | refine t_in_sign hD ?_) tX_bk) tX_g42 rfl (by omega) ⟨Nat.zero_le _, Nat.zero_le _⟩ (Nat.le_of_ble_eq_true rfl) ?_
        rintro _ _ ⟨rfl, rfl⟩
        refine x_to tX_tX ?_
        refine x_aload_n C dX6_readSingle_115 rfl rfl ?_
        refine x_callV0 C dX6_readSingle_116 kX6_188 (c_X6_readComparingSign hO tX_bk) tX_g42 rfl (by omega) ⟨Nat.zero_le _, Nat.zero_le _⟩ (Nat.le_of_ble_eq_true rfl) ?_
        rintro _ _ ⟨rfl, rfl⟩
        refine x_to tX_tX ?_
        refine x_istore_n C dX6_readSingle_119 rfl rfl (by decide) ?_
        refine x_aload_n C dX6_readSingle_120 rfl rfl ?_
        refine x_iload_n C dX6_readSingle_121 rfl rfl ?_
        refine x_callV1 C dX6_readSingle_122 kX6_185 (hS _ _ (by repeat first | exact hin | refine t_in_adv hD ?_ | refine t_in_brk ?_ | refine t_in_acc hD ?_ | refine t_in_exp hD ?_ | refine t_in_deep hD ?_ | refine t_in_code ?_ | refine t_in_sign hD ?_ | refine hfs _ ?_) tX_bk) tX_g42 rfl (by omega) ⟨Nat.zero_le _, Nat.zero_le _⟩ (Nat.le_of_ble_eq_true rfl) ?_
        rintro _ _ ⟨rfl, rfl⟩
        refine x_to tX_tX ?_
        refine x_aload_n C dX6_readSingle_125 rfl rfl ?_
        refine x_getfield C dX6_readSingle_126 fX6_32 tX_g42 rfl ?_
        refine x_iload_n C dX6_readSingle_129 rfl rfl ?_
        refine x_iconst (v := 0) C dX6_readSingle_130 (by decide) ?_
        refine x_callV2 C dX6_readSingle_131 kX6_175 (c_X2_addCode hO tX_pl) tX_g0 rfl (by omega) ⟨Nat.zero_le _, Nat.zero_le _⟩ (Nat.le_of_ble_eq_true rfl) ?_
        rintro _ _ ⟨rfl, rfl⟩
        refine x_to tX_code ?_
        refine x_vret C E dX6_readSingle_134 ?_
        refine ⟨?_, ?_⟩
        · first | done | rfl | (simp only [t_single, t_cmp, if_neg c10, if_neg c54, if_neg c90])
        · simp only [t_single, t_cmp, if_neg c10, if_neg c54, if_neg c90]
      · have c90 := b_y c90
        refine x_aload_n C dX6_readSingle_93 rfl rfl ?_
        refine x_getfield C dX6_readSingle_94 fX6_32 tX_g42 rfl ?_
        refine x_sipush (v := 272) C dX6_readSingle_97 (by decide) ?_
        refine x_aload_n C dX6_readSingle_100 rfl rfl ?_
        refine x_callV0 C dX6_readSingle_101 kX6_158 (c_X6_readDroneOrQueen hO tX_bk) tX_g42 rfl (by omega) ⟨Nat.zero_le _, Nat.zero_le _⟩ (Nat.le_of_ble_eq_true rfl) ?_
        rintro _ _ ⟨rfl, rfl⟩
        refine x_to tX_tX ?_
        refine x_callV2 C dX6_readSingle_104 kX6_175 (c_X2_addCode hO tX_pl) tX_g0 rfl (by omega) ⟨Nat.zero_le _, Nat.zero_le _⟩ (Nat.le_of_ble_eq_true rfl) ?_
        rintro _ _ ⟨rfl, rfl⟩
        refine x_to tX_code ?_
        refine x_goto (tgt := 134) C dX6_readSingle_107 (by decide) ?_
        refine x_vret C E dX6_readSingle_134 ?_
        refine ⟨?_, ?_⟩
        · first | done | rfl | (simp only [t_single, t_cmp, if_neg c10, if_neg c54, if_pos c90])
        · simp only [t_single, t_cmp, if_neg c10, if_neg c54, if_pos c90]
    · refine x_aload_n C dX6_readSingle_57 rfl rfl ?_
      refine x_bipush (v := 91) C dX6_readSingle_58 (by decide) ?_
      refine x_iload_n C dX6_readSingle_60 rfl rfl ?_
      refine x_callV2 C dX6_readSingle_61 kX6_181 (c_X6_goDeeper hO tX_bk) tX_g42 rfl (by omega) ⟨Nat.zero_le _, Nat.zero_le _⟩ (Nat.le_of_ble_eq_true rfl) ?_
      rintro _ _ ⟨rfl, rfl⟩
      refine x_to tX_tX ?_
      refine x_if_eq (tgt := 134) C dX6_readSingle_64 (by decide) (fun c64 => ?_) (fun c64 => ?_)
      · have c64 := b_n c64
        refine x_vret C E dX6_readSingle_134 ?_
        refine ⟨?_, ?_⟩
        · first | done | rfl | (simp only [t_single, t_cmp, if_neg c10, if_pos c54, if_neg c64])
        · simp only [t_single, t_cmp, if_neg c10, if_pos c54, if_neg c64]
      · have c64 := b_y c64
        have h8 := t_deep_lt hin c64
        refine x_aload_n C dX6_readSingle_67 rfl rfl ?_
        refine x_iload_n C dX6_readSingle_68 rfl rfl ?_
        refine x_iconst (v := 1) C dX6_readSingle_69 (by decide) ?_
        refine x_iadd C dX6_readSingle_70 ?_
        refine x_callV1 C dX6_readSingle_71 kX6_165 (hT8 h8 _ _ (by repeat first | exact hin | refine t_in_adv hD ?_ | refine t_in_brk ?_ | refine t_in_acc hD ?_ | refine t_in_exp hD ?_ | refine t_in_deep hD ?_ | refine t_in_code ?_ | refine t_in_sign hD ?_) tX_bk) tX_g42 rfl (by omega) ⟨Nat.zero_le _, Nat.zero_le _⟩ (Nat.le_of_ble_eq_true rfl) ?_
        rintro _ _ ⟨rfl, rfl⟩
        refine x_to tX_tX ?_
        refine x_aload_n C dX6_readSingle_74 rfl rfl ?_
        refine x_bipush (v := 93) C dX6_readSingle_75 (by decide) ?_
        refine x_callV1 C dX6_readSingle_77 kX6_73 (c_X6_expect hO tX_bk) tX_g42 rfl (by omega) ⟨Nat.zero_le _, Nat.zero_le _⟩ (Nat.le_of_ble_eq_true rfl) ?_
        rintro _ _ ⟨rfl, rfl⟩
        refine x_to tX_tX ?_
        refine x_goto (tgt := 134) C dX6_readSingle_80 (by decide) ?_
        refine x_vret C E dX6_readSingle_134 ?_
        refine ⟨?_, ?_⟩
        · first | done | rfl | (simp only [t_single, t_cmp, if_neg c10, if_pos c54, if_pos c64])
        · simp only [t_single, t_cmp, if_neg c10, if_pos c54, if_pos c64]
  · refine x_aload_n C dX6_readSingle_13 rfl rfl ?_
    refine x_sipush (v := 273) C dX6_readSingle_14 (by decide) ?_
    refine x_iload_n C dX6_readSingle_17 rfl rfl ?_
    refine x_callV2 C dX6_readSingle_18 kX6_181 (c_X6_goDeeper hO tX_bk) tX_g42 rfl (by omega) ⟨Nat.zero_le _, Nat.zero_le _⟩ (Nat.le_of_ble_eq_true rfl) ?_
    rintro _ _ ⟨rfl, rfl⟩
    refine x_to tX_tX ?_
    refine x_if_eq (tgt := 134) C dX6_readSingle_21 (by decide) (fun c21 => ?_) (fun c21 => ?_)
    · have c21 := b_n c21
      refine x_vret C E dX6_readSingle_134 ?_
      refine ⟨?_, ?_⟩
      · first | done | rfl | (simp only [t_single, t_cmp, if_pos c10, if_neg c21])
      · simp only [t_single, t_cmp, if_pos c10, if_neg c21]
    · have c21 := b_y c21
      have h8 := t_deep_lt hin c21
      refine x_aload_n C dX6_readSingle_24 rfl rfl ?_
      refine x_iload_n C dX6_readSingle_25 rfl rfl ?_
      refine x_iconst (v := 1) C dX6_readSingle_26 (by decide) ?_
      refine x_iadd C dX6_readSingle_27 ?_
      refine x_callV1 C dX6_readSingle_28 kX6_178 (hO8 h8 _ _ (by repeat first | exact hin | refine t_in_adv hD ?_ | refine t_in_brk ?_ | refine t_in_acc hD ?_ | refine t_in_exp hD ?_ | refine t_in_deep hD ?_ | refine t_in_code ?_ | refine t_in_sign hD ?_) tX_bk) tX_g42 rfl (by omega) ⟨Nat.zero_le _, Nat.zero_le _⟩ (Nat.le_of_ble_eq_true rfl) ?_
      rintro _ _ ⟨rfl, rfl⟩
      refine x_to tX_tX ?_
      refine x_aload_n C dX6_readSingle_31 rfl rfl ?_
      refine x_getfield C dX6_readSingle_32 fX6_32 tX_g42 rfl ?_
      refine x_sipush (v := 273) C dX6_readSingle_35 (by decide) ?_
      refine x_iconst (v := 0) C dX6_readSingle_38 (by decide) ?_
      refine x_callV2 C dX6_readSingle_39 kX6_175 (c_X2_addCode hO tX_pl) tX_g0 rfl (by omega) ⟨Nat.zero_le _, Nat.zero_le _⟩ (Nat.le_of_ble_eq_true rfl) ?_
      rintro _ _ ⟨rfl, rfl⟩
      refine x_to tX_code ?_
      refine x_goto (tgt := 134) C dX6_readSingle_42 (by decide) ?_
      refine x_vret C E dX6_readSingle_134 ?_
      refine ⟨?_, ?_⟩
      · first | done | rfl | (simp only [t_single, t_cmp, if_pos c10, if_pos c21])
      · simp only [t_single, t_cmp, if_pos c10, if_pos c21]
set_option maxHeartbeats 4000000 in
set_option maxRecDepth 100000 in
theorem c_X6_readBoth {l : Launch} {Y0 : x_Y} (hO : x_Ok Y0) {M : x_M} {b : Nat} {D : tK} {Q : HS} {S : tS} (hD : t_dk D) (hin : t_in S) (hb : x_bk M b (tcT b D Q S)) {k : Int32} {d : Nat} {dO : Nat} {fo : tS → tS} (hd1 : dO + 1 ≤ d) (hd4 : 4 ≤ d) (hfo : t_ki fo) (hV : tCt l Y0 yX6_readSingle cX6_readSingle 3 dO b D Q k fo) : x_C l Y0 yX6_readBoth cX6_readBoth 3 none d 0 0 [.ref (b + 42), .int k] M (fun u M1 => u = none ∧ M1 = tX M b D Q (t_lpa D 274 fo 400 (fo S))) := by
  refine x_start hO (by decide +kernel) (Nat.le_of_ble_eq_true rfl) (fun K C E => ?_)
  refine x_to (tX_self hb).symm ?_
  have lp : ∀ (w i : Nat) (z : Int32) (S1 : tS), i + w = 400 → z = nI i → t_in S1 → t_lpa D 274 fo 400 (fo S) = t_lpa D 274 fo w S1 → x_X K 3 0 0 7 [(0, .ref (b + 42)), (1, .int k), (2, .int z)] [] (tX M b D Q S1) := by
    intro w
    induction w with
    | zero =>
      intro i z S1 hi hz hin1 hq
      subst hz
      have e : i = 400 := by omega
      subst e
      refine x_iload_n C dX6_readBoth_7 rfl rfl ?_
      refine x_sipush (v := 400) C dX6_readBoth_8 (by decide) ?_
      refine x_icmp_ge (tgt := 46) C dX6_readBoth_11 (by decide) (fun c11 => ?_) (fun c11 => absurd (by decide) c11)
      refine x_vret C E dX6_readBoth_46 ?_
      exact ⟨rfl, by rw [hq]; first | rfl | (simp only [t_lpa]; done) | fail⟩
    | succ w ih =>
      intro i z S1 hi hz hin1 hq
      subst hz
      refine x_iload_n C dX6_readBoth_7 rfl rfl ?_
      refine x_sipush (v := 400) C dX6_readBoth_8 (by decide) ?_
      refine x_icmp_ge (tgt := 46) C dX6_readBoth_11 (by decide) (fun c11 => absurd c11 (show ¬ nI 400 ≤ nI i from nI_ge (by omega) (by decide))) (fun c11 => ?_)
      refine x_aload_n C dX6_readBoth_14 rfl rfl ?_
      refine x_sipush (v := 274) C dX6_readBoth_15 (by decide) ?_
      refine x_callV1 C dX6_readBoth_18 kX6_60 (c_X6_accept hO tX_bk) tX_g42 rfl (by omega) ⟨Nat.zero_le _, Nat.zero_le _⟩ (Nat.le_of_ble_eq_true rfl) ?_
      rintro _ _ ⟨rfl, rfl⟩
      refine x_to tX_tX ?_
      refine x_if_eq (tgt := 46) C dX6_readBoth_21 (by decide) (fun c21 => ?_) (fun c21 => ?_)
      · have c21 := b_n c21
        refine x_vret C E dX6_readBoth_46 ?_
        exact ⟨rfl, by rw [hq]; first | rfl | (simp only [t_lpa, if_neg c21]; done) | fail⟩
      · have c21 := b_y c21
        refine x_aload_n C dX6_readBoth_24 rfl rfl ?_
        refine x_iload_n C dX6_readBoth_25 rfl rfl ?_
        refine x_callV1 C dX6_readBoth_26 kX6_178 (hV _ _ (by repeat first | exact hin1 | refine t_in_adv hD ?_ | refine t_in_brk ?_ | refine t_in_acc hD ?_ | refine t_in_exp hD ?_ | refine t_in_deep hD ?_ | refine t_in_code ?_ | refine t_in_sign hD ?_ | refine hfo _ ?_) tX_bk) tX_g42 rfl (by omega) ⟨Nat.zero_le _, Nat.zero_le _⟩ (Nat.le_of_ble_eq_true rfl) ?_
        rintro _ _ ⟨rfl, rfl⟩
        refine x_to tX_tX ?_
        refine x_aload_n C dX6_readBoth_29 rfl rfl ?_
        refine x_getfield C dX6_readBoth_30 fX6_32 tX_g42 rfl ?_
        refine x_sipush (v := 274) C dX6_readBoth_33 (by decide) ?_
        refine x_iconst (v := 0) C dX6_readBoth_36 (by decide) ?_
        refine x_callV2 C dX6_readBoth_37 kX6_175 (c_X2_addCode hO tX_pl) tX_g0 rfl (by omega) ⟨Nat.zero_le _, Nat.zero_le _⟩ (Nat.le_of_ble_eq_true rfl) ?_
        rintro _ _ ⟨rfl, rfl⟩
        refine x_to tX_code ?_
        refine x_iinc (v := 1) C dX6_readBoth_40 rfl (by decide) rfl (by decide) ?_
        refine x_goto (tgt := 7) C dX6_readBoth_43 (by decide) ?_
        exact ih (i + 1) _ _ (by omega) (nI_1 i) (t_in_code (hfo _ (t_in_acc hD hin1))) (by rw [hq]; simp only [t_lpa, if_pos c21])
  refine x_aload_n C dX6_readBoth_0 rfl rfl ?_
  refine x_iload_n C dX6_readBoth_1 rfl rfl ?_
  refine x_callV1 C dX6_readBoth_2 kX6_178 (hV _ _ hin tX_bk) tX_g42 rfl (by omega) ⟨Nat.zero_le _, Nat.zero_le _⟩ (Nat.le_of_ble_eq_true rfl) ?_
  rintro _ _ ⟨rfl, rfl⟩
  refine x_to tX_tX ?_
  refine x_iconst (v := 0) C dX6_readBoth_5 (by decide) ?_
  refine x_istore_n C dX6_readBoth_6 rfl rfl (by decide) ?_
  exact lp 400 0 0 _ (by omega) rfl (hfo _ hin) rfl
set_option maxHeartbeats 4000000 in
set_option maxRecDepth 100000 in
theorem c_X6_readTest {l : Launch} {Y0 : x_Y} (hO : x_Ok Y0) {M : x_M} {b : Nat} {D : tK} {Q : HS} {S : tS} (hD : t_dk D) (hin : t_in S) (hb : x_bk M b (tcT b D Q S)) {k : Int32} {d : Nat} {dO : Nat} {fo : tS → tS} (hd1 : dO + 1 ≤ d) (hd4 : 4 ≤ d) (hfo : t_ki fo) (hV : tCt l Y0 yX6_readBoth cX6_readBoth 3 dO b D Q k fo) : x_C l Y0 yX6_readTest cX6_readTest 3 none d 0 0 [.ref (b + 42), .int k] M (fun u M1 => u = none ∧ M1 = tX M b D Q (t_lpa D 275 fo 400 (fo S))) := by
  refine x_start hO (by decide +kernel) (Nat.le_of_ble_eq_true rfl) (fun K C E => ?_)
  refine x_to (tX_self hb).symm ?_
  have lp : ∀ (w i : Nat) (z : Int32) (S1 : tS), i + w = 400 → z = nI i → t_in S1 → t_lpa D 275 fo 400 (fo S) = t_lpa D 275 fo w S1 → x_X K 3 0 0 7 [(0, .ref (b + 42)), (1, .int k), (2, .int z)] [] (tX M b D Q S1) := by
    intro w
    induction w with
    | zero =>
      intro i z S1 hi hz hin1 hq
      subst hz
      have e : i = 400 := by omega
      subst e
      refine x_iload_n C dX6_readTest_7 rfl rfl ?_
      refine x_sipush (v := 400) C dX6_readTest_8 (by decide) ?_
      refine x_icmp_ge (tgt := 46) C dX6_readTest_11 (by decide) (fun c11 => ?_) (fun c11 => absurd (by decide) c11)
      refine x_vret C E dX6_readTest_46 ?_
      exact ⟨rfl, by rw [hq]; first | rfl | (simp only [t_lpa]; done) | fail⟩
    | succ w ih =>
      intro i z S1 hi hz hin1 hq
      subst hz
      refine x_iload_n C dX6_readTest_7 rfl rfl ?_
      refine x_sipush (v := 400) C dX6_readTest_8 (by decide) ?_
      refine x_icmp_ge (tgt := 46) C dX6_readTest_11 (by decide) (fun c11 => absurd c11 (show ¬ nI 400 ≤ nI i from nI_ge (by omega) (by decide))) (fun c11 => ?_)
      refine x_aload_n C dX6_readTest_14 rfl rfl ?_
      refine x_sipush (v := 275) C dX6_readTest_15 (by decide) ?_
      refine x_callV1 C dX6_readTest_18 kX6_60 (c_X6_accept hO tX_bk) tX_g42 rfl (by omega) ⟨Nat.zero_le _, Nat.zero_le _⟩ (Nat.le_of_ble_eq_true rfl) ?_
      rintro _ _ ⟨rfl, rfl⟩
      refine x_to tX_tX ?_
      refine x_if_eq (tgt := 46) C dX6_readTest_21 (by decide) (fun c21 => ?_) (fun c21 => ?_)
      · have c21 := b_n c21
        refine x_vret C E dX6_readTest_46 ?_
        exact ⟨rfl, by rw [hq]; first | rfl | (simp only [t_lpa, if_neg c21]; done) | fail⟩
      · have c21 := b_y c21
        refine x_aload_n C dX6_readTest_24 rfl rfl ?_
        refine x_iload_n C dX6_readTest_25 rfl rfl ?_
        refine x_callV1 C dX6_readTest_26 kX6_172 (hV _ _ (by repeat first | exact hin1 | refine t_in_adv hD ?_ | refine t_in_brk ?_ | refine t_in_acc hD ?_ | refine t_in_exp hD ?_ | refine t_in_deep hD ?_ | refine t_in_code ?_ | refine t_in_sign hD ?_ | refine hfo _ ?_) tX_bk) tX_g42 rfl (by omega) ⟨Nat.zero_le _, Nat.zero_le _⟩ (Nat.le_of_ble_eq_true rfl) ?_
        rintro _ _ ⟨rfl, rfl⟩
        refine x_to tX_tX ?_
        refine x_aload_n C dX6_readTest_29 rfl rfl ?_
        refine x_getfield C dX6_readTest_30 fX6_32 tX_g42 rfl ?_
        refine x_sipush (v := 275) C dX6_readTest_33 (by decide) ?_
        refine x_iconst (v := 0) C dX6_readTest_36 (by decide) ?_
        refine x_callV2 C dX6_readTest_37 kX6_175 (c_X2_addCode hO tX_pl) tX_g0 rfl (by omega) ⟨Nat.zero_le _, Nat.zero_le _⟩ (Nat.le_of_ble_eq_true rfl) ?_
        rintro _ _ ⟨rfl, rfl⟩
        refine x_to tX_code ?_
        refine x_iinc (v := 1) C dX6_readTest_40 rfl (by decide) rfl (by decide) ?_
        refine x_goto (tgt := 7) C dX6_readTest_43 (by decide) ?_
        exact ih (i + 1) _ _ (by omega) (nI_1 i) (t_in_code (hfo _ (t_in_acc hD hin1))) (by rw [hq]; simp only [t_lpa, if_pos c21])
  refine x_aload_n C dX6_readTest_0 rfl rfl ?_
  refine x_iload_n C dX6_readTest_1 rfl rfl ?_
  refine x_callV1 C dX6_readTest_2 kX6_172 (hV _ _ hin tX_bk) tX_g42 rfl (by omega) ⟨Nat.zero_le _, Nat.zero_le _⟩ (Nat.le_of_ble_eq_true rfl) ?_
  rintro _ _ ⟨rfl, rfl⟩
  refine x_to tX_tX ?_
  refine x_iconst (v := 0) C dX6_readTest_5 (by decide) ?_
  refine x_istore_n C dX6_readTest_6 rfl rfl (by decide) ?_
  exact lp 400 0 0 _ (by omega) rfl (hfo _ hin) rfl
