set_option maxHeartbeats 4000000 in
set_option maxRecDepth 100000 in
theorem c_X6_lookUp0 {l : Launch} {Y0 : x_Y} (hO : x_Ok Y0) {M : x_M} {b : Nat} {D : tK} {Q : HS} {S : tS} (hb : x_bk M b (tcT b D Q S)) : x_C l Y0 yX6_lookUp cX6_lookUp 3 (some .int) 2 0 0 [.ref (b + 42), .ref (b + 43)] M (fun u M1 => u = some (.int (t_fd0 S)) ∧ M1 = tX M b D Q (t_lk0 S)) := by
  refine x_start hO (by decide +kernel) (Nat.le_of_ble_eq_true rfl) (fun K C E => ?_)
  refine x_to (tX_self hb).symm ?_
  refine x_aload_n C dX6_lookUp_0 rfl rfl ?_
  refine x_aload_n C dX6_lookUp_1 rfl rfl ?_
  refine x_getfield C dX6_lookUp_2 fX6_28 tX_g42 rfl ?_
  refine x_getfield C dX6_lookUp_5 fX6_89 tX_g47 rfl ?_
  refine x_callV1 C dX6_lookUp_8 kX6_118 (c_X1_find hO (by decide) tX_n43) tX_g43 rfl (by decide) ⟨Nat.zero_le _, Nat.zero_le _⟩ (Nat.le_of_ble_eq_true rfl) ?_
  rintro _ _ ⟨rfl, rfl⟩
  refine x_topi (t_fd0 S) rfl ?_
  refine x_istore_n C dX6_lookUp_11 rfl rfl (by decide) ?_
  refine x_iload_n C dX6_lookUp_12 rfl rfl ?_
  refine x_iconst (v := (-1)) C dX6_lookUp_13 (by decide) ?_
  refine x_icmp_ne (tgt := 22) C dX6_lookUp_14 (by decide) (fun c14 => ?_) (fun c14 => ?_)
  · refine x_iload_n C dX6_lookUp_22 rfl rfl ?_
    refine x_iret C E dX6_lookUp_23 ?_
    refine ⟨?_, ?_⟩
    · first | done | rfl | (simp only [t_lk0, if_neg c14])
    · simp only [t_lk0, if_neg c14]
  · refine x_aload_n C dX6_lookUp_17 rfl rfl ?_
    refine x_iconst (v := 3) C dX6_lookUp_18 (by decide) ?_
    refine x_callV1 C dX6_lookUp_19 kX6_93 (c_X6_blame hO tX_bk) tX_g42 rfl (by decide) ⟨Nat.zero_le _, Nat.zero_le _⟩ (Nat.le_of_ble_eq_true rfl) ?_
    rintro _ _ ⟨rfl, rfl⟩
    refine x_to tX_tX ?_
    refine x_iload_n C dX6_lookUp_22 rfl rfl ?_
    refine x_iret C E dX6_lookUp_23 ?_
    refine ⟨?_, ?_⟩
    · first | done | rfl | (simp only [t_lk0, if_pos c14])
    · simp only [t_lk0, if_pos c14]
set_option maxHeartbeats 4000000 in
set_option maxRecDepth 100000 in
theorem c_X6_readKnownName0 {l : Launch} {Y0 : x_Y} (hO : x_Ok Y0) {M : x_M} {b : Nat} {D : tK} {Q : HS} {S : tS} (hb : x_bk M b (tcT b D Q S)) : x_C l Y0 yX6_readKnownName cX6_readKnownName 3 (some .int) 4 0 0 [.ref (b + 42), .ref (b + 43)] M (fun u M1 => u = some (.int (t_fd0 S)) ∧ M1 = tX M b D Q (t_known0 D S)) := by
  refine x_start hO (by decide +kernel) (Nat.le_of_ble_eq_true rfl) (fun K C E => ?_)
  refine x_to (tX_self hb).symm ?_
  refine x_aload_n C dX6_readKnownName_0 rfl rfl ?_
  refine x_aload_n C dX6_readKnownName_1 rfl rfl ?_
  refine x_callV1 C dX6_readKnownName_2 kX6_130 (c_X6_lookUp0 hO tX_bk) tX_g42 rfl (by decide) ⟨Nat.zero_le _, Nat.zero_le _⟩ (Nat.le_of_ble_eq_true rfl) ?_
  rintro _ _ ⟨rfl, rfl⟩
  refine x_to tX_tX ?_
  refine x_istore_n C dX6_readKnownName_5 rfl rfl (by decide) ?_
  refine x_aload_n C dX6_readKnownName_6 rfl rfl ?_
  refine x_iconst (v := 2) C dX6_readKnownName_7 (by decide) ?_
  refine x_callV1 C dX6_readKnownName_8 kX6_73 (c_X6_expect hO tX_bk) tX_g42 rfl (by decide) ⟨Nat.zero_le _, Nat.zero_le _⟩ (Nat.le_of_ble_eq_true rfl) ?_
  rintro _ _ ⟨rfl, rfl⟩
  refine x_to tX_tX ?_
  refine x_iload_n C dX6_readKnownName_11 rfl rfl ?_
  refine x_iret C E dX6_readKnownName_12 ?_
  exact ⟨rfl, rfl⟩
set_option maxHeartbeats 4000000 in
set_option maxRecDepth 100000 in
theorem c_X6_readNewName0 {l : Launch} {Y0 : x_Y} (hO : x_Ok Y0) {M : x_M} {b : Nat} {D : tK} {Q : HS} {S : tS} (hb : x_bk M b (tcT b D Q S)) : x_C l Y0 yX6_readNewName cX6_readNewName 2 none 4 0 0 [.ref (b + 42), .ref (b + 43)] M (fun u M1 => u = none ∧ M1 = tX M b D Q (t_new0 D S)) := by
  refine x_start hO (by decide +kernel) (Nat.le_of_ble_eq_true rfl) (fun K C E => ?_)
  refine x_to (tX_self hb).symm ?_
  have j53 : x_X K 2 0 0 53 [(0, .ref (b + 42)), (1, .ref (b + 43))] [] (tX M b D Q (t_full0 (t_old S))) := by
      refine x_aload_n C dX6_readNewName_53 rfl rfl ?_
      refine x_aload_n C dX6_readNewName_54 rfl rfl ?_
      refine x_getfield C dX6_readNewName_55 fX6_28 tX_g42 rfl ?_
      refine x_getfield C dX6_readNewName_58 fX6_89 tX_g47 rfl ?_
      refine x_callV1 C dX6_readNewName_61 kX6_126 (c_X1_add hO (by decide) tX_n43) tX_g43 rfl (by decide) ⟨Nat.zero_le _, Nat.zero_le _⟩ (Nat.le_of_ble_eq_true rfl) ?_
      rintro _ _ ⟨rfl, rfl⟩
      refine x_to tX_a0 ?_
      refine x_aload_n C dX6_readNewName_64 rfl rfl ?_
      refine x_iconst (v := 2) C dX6_readNewName_65 (by decide) ?_
      refine x_callV1 C dX6_readNewName_66 kX6_73 (c_X6_expect hO tX_bk) tX_g42 rfl (by decide) ⟨Nat.zero_le _, Nat.zero_le _⟩ (Nat.le_of_ble_eq_true rfl) ?_
      rintro _ _ ⟨rfl, rfl⟩
      refine x_to tX_tX ?_
      refine x_vret C E dX6_readNewName_69 ?_
      exact ⟨rfl, rfl⟩
  have j41 : x_X K 2 0 0 41 [(0, .ref (b + 42)), (1, .ref (b + 43))] [] (tX M b D Q (t_old S)) := by
      refine x_aload_n C dX6_readNewName_41 rfl rfl ?_
      refine x_callV0 C dX6_readNewName_42 kX6_122 (c_X1_isFull hO (by decide) tX_n43) tX_g43 rfl (by decide) ⟨Nat.zero_le _, Nat.zero_le _⟩ (Nat.le_of_ble_eq_true rfl) ?_
      rintro _ _ ⟨rfl, rfl⟩
      refine x_if_eq (tgt := 53) C dX6_readNewName_45 (by decide) (fun c45 => ?_) (fun c45 => ?_)
      · have c45 := b_n c45
        refine x_to (M' := tX M b D Q (t_full0 (t_old S))) (congrArg (tX M b D Q) (by simp only [t_full0, if_neg c45])) ?_
        exact j53
      · have c45 := b_y c45
        refine x_aload_n C dX6_readNewName_48 rfl rfl ?_
        refine x_iconst (v := 4) C dX6_readNewName_49 (by decide) ?_
        refine x_callV1 C dX6_readNewName_50 kX6_93 (c_X6_blame hO tX_bk) tX_g42 rfl (by decide) ⟨Nat.zero_le _, Nat.zero_le _⟩ (Nat.le_of_ble_eq_true rfl) ?_
        rintro _ _ ⟨rfl, rfl⟩
        refine x_to tX_tX ?_
        refine x_to (M' := tX M b D Q (t_full0 (t_old S))) (congrArg (tX M b D Q) (by simp only [t_full0, if_pos c45])) ?_
        exact j53
  refine x_aload_n C dX6_readNewName_0 rfl rfl ?_
  refine x_getfield C dX6_readNewName_1 fX6_14 tX_g42 rfl ?_
  refine x_aload_n C dX6_readNewName_4 rfl rfl ?_
  refine x_getfield C dX6_readNewName_5 fX6_28 tX_g42 rfl ?_
  refine x_getfield C dX6_readNewName_8 fX6_89 tX_g47 rfl ?_
  refine x_callV1 C dX6_readNewName_11 kX6_118 (c_X1_find hO (by decide) tX_n43) tX_g43 rfl (by decide) ⟨Nat.zero_le _, Nat.zero_le _⟩ (Nat.le_of_ble_eq_true rfl) ?_
  rintro _ _ ⟨rfl, rfl⟩
  refine x_topi (t_fd0 S) rfl ?_
  refine x_iconst (v := (-1)) C dX6_readNewName_14 (by decide) ?_
  refine x_icmp_ne (tgt := 36) C dX6_readNewName_15 (by decide) (fun c15 => ?_) (fun c15 => ?_)
  · refine x_aload_n C dX6_readNewName_36 rfl rfl ?_
    refine x_iconst (v := 2) C dX6_readNewName_37 (by decide) ?_
    refine x_callV1 C dX6_readNewName_38 kX6_93 (c_X6_blame hO tX_bk) tX_g42 rfl (by decide) ⟨Nat.zero_le _, Nat.zero_le _⟩ (Nat.le_of_ble_eq_true rfl) ?_
    rintro _ _ ⟨rfl, rfl⟩
    refine x_to tX_tX ?_
    refine x_to (M' := tX M b D Q (t_old S)) (congrArg (tX M b D Q) (by simp only [t_old, if_neg c15])) ?_
    exact j41
  · refine x_aload_n C dX6_readNewName_18 rfl rfl ?_
    refine x_getfield C dX6_readNewName_19 fX6_20 tX_g42 rfl ?_
    refine x_aload_n C dX6_readNewName_22 rfl rfl ?_
    refine x_getfield C dX6_readNewName_23 fX6_28 tX_g42 rfl ?_
    refine x_getfield C dX6_readNewName_26 fX6_89 tX_g47 rfl ?_
    refine x_callV1 C dX6_readNewName_29 kX6_118 (c_X1_find hO (by decide) tX_n45) tX_g45 rfl (by decide) ⟨Nat.zero_le _, Nat.zero_le _⟩ (Nat.le_of_ble_eq_true rfl) ?_
    rintro _ _ ⟨rfl, rfl⟩
    refine x_topi (t_fd1 S) rfl ?_
    refine x_iconst (v := (-1)) C dX6_readNewName_32 (by decide) ?_
    refine x_icmp_eq (tgt := 41) C dX6_readNewName_33 (by decide) (fun c33 => ?_) (fun c33 => ?_)
    · refine x_to (M' := tX M b D Q (t_old S)) (congrArg (tX M b D Q) (by simp only [t_old, if_pos c15, if_pos c33])) ?_
      exact j41
    · refine x_aload_n C dX6_readNewName_36 rfl rfl ?_
      refine x_iconst (v := 2) C dX6_readNewName_37 (by decide) ?_
      refine x_callV1 C dX6_readNewName_38 kX6_93 (c_X6_blame hO tX_bk) tX_g42 rfl (by decide) ⟨Nat.zero_le _, Nat.zero_le _⟩ (Nat.le_of_ble_eq_true rfl) ?_
      rintro _ _ ⟨rfl, rfl⟩
      refine x_to tX_tX ?_
      refine x_to (M' := tX M b D Q (t_old S)) (congrArg (tX M b D Q) (by simp only [t_old, if_pos c15, if_neg c33])) ?_
      exact j41
set_option maxHeartbeats 4000000 in
set_option maxRecDepth 100000 in
theorem c_X6_lookUp1 {l : Launch} {Y0 : x_Y} (hO : x_Ok Y0) {M : x_M} {b : Nat} {D : tK} {Q : HS} {S : tS} (hb : x_bk M b (tcT b D Q S)) : x_C l Y0 yX6_lookUp cX6_lookUp 3 (some .int) 2 0 0 [.ref (b + 42), .ref (b + 45)] M (fun u M1 => u = some (.int (t_fd1 S)) ∧ M1 = tX M b D Q (t_lk1 S)) := by
  refine x_start hO (by decide +kernel) (Nat.le_of_ble_eq_true rfl) (fun K C E => ?_)
  refine x_to (tX_self hb).symm ?_
  refine x_aload_n C dX6_lookUp_0 rfl rfl ?_
  refine x_aload_n C dX6_lookUp_1 rfl rfl ?_
  refine x_getfield C dX6_lookUp_2 fX6_28 tX_g42 rfl ?_
  refine x_getfield C dX6_lookUp_5 fX6_89 tX_g47 rfl ?_
  refine x_callV1 C dX6_lookUp_8 kX6_118 (c_X1_find hO (by decide) tX_n45) tX_g45 rfl (by decide) ⟨Nat.zero_le _, Nat.zero_le _⟩ (Nat.le_of_ble_eq_true rfl) ?_
  rintro _ _ ⟨rfl, rfl⟩
  refine x_topi (t_fd1 S) rfl ?_
  refine x_istore_n C dX6_lookUp_11 rfl rfl (by decide) ?_
  refine x_iload_n C dX6_lookUp_12 rfl rfl ?_
  refine x_iconst (v := (-1)) C dX6_lookUp_13 (by decide) ?_
  refine x_icmp_ne (tgt := 22) C dX6_lookUp_14 (by decide) (fun c14 => ?_) (fun c14 => ?_)
  · refine x_iload_n C dX6_lookUp_22 rfl rfl ?_
    refine x_iret C E dX6_lookUp_23 ?_
    refine ⟨?_, ?_⟩
    · first | done | rfl | (simp only [t_lk1, if_neg c14])
    · simp only [t_lk1, if_neg c14]
  · refine x_aload_n C dX6_lookUp_17 rfl rfl ?_
    refine x_iconst (v := 3) C dX6_lookUp_18 (by decide) ?_
    refine x_callV1 C dX6_lookUp_19 kX6_93 (c_X6_blame hO tX_bk) tX_g42 rfl (by decide) ⟨Nat.zero_le _, Nat.zero_le _⟩ (Nat.le_of_ble_eq_true rfl) ?_
    rintro _ _ ⟨rfl, rfl⟩
    refine x_to tX_tX ?_
    refine x_iload_n C dX6_lookUp_22 rfl rfl ?_
    refine x_iret C E dX6_lookUp_23 ?_
    refine ⟨?_, ?_⟩
    · first | done | rfl | (simp only [t_lk1, if_pos c14])
    · simp only [t_lk1, if_pos c14]
set_option maxHeartbeats 4000000 in
set_option maxRecDepth 100000 in
theorem c_X6_readKnownName1 {l : Launch} {Y0 : x_Y} (hO : x_Ok Y0) {M : x_M} {b : Nat} {D : tK} {Q : HS} {S : tS} (hb : x_bk M b (tcT b D Q S)) : x_C l Y0 yX6_readKnownName cX6_readKnownName 3 (some .int) 4 0 0 [.ref (b + 42), .ref (b + 45)] M (fun u M1 => u = some (.int (t_fd1 S)) ∧ M1 = tX M b D Q (t_known1 D S)) := by
  refine x_start hO (by decide +kernel) (Nat.le_of_ble_eq_true rfl) (fun K C E => ?_)
  refine x_to (tX_self hb).symm ?_
  refine x_aload_n C dX6_readKnownName_0 rfl rfl ?_
  refine x_aload_n C dX6_readKnownName_1 rfl rfl ?_
  refine x_callV1 C dX6_readKnownName_2 kX6_130 (c_X6_lookUp1 hO tX_bk) tX_g42 rfl (by decide) ⟨Nat.zero_le _, Nat.zero_le _⟩ (Nat.le_of_ble_eq_true rfl) ?_
  rintro _ _ ⟨rfl, rfl⟩
  refine x_to tX_tX ?_
  refine x_istore_n C dX6_readKnownName_5 rfl rfl (by decide) ?_
  refine x_aload_n C dX6_readKnownName_6 rfl rfl ?_
  refine x_iconst (v := 2) C dX6_readKnownName_7 (by decide) ?_
  refine x_callV1 C dX6_readKnownName_8 kX6_73 (c_X6_expect hO tX_bk) tX_g42 rfl (by decide) ⟨Nat.zero_le _, Nat.zero_le _⟩ (Nat.le_of_ble_eq_true rfl) ?_
  rintro _ _ ⟨rfl, rfl⟩
  refine x_to tX_tX ?_
  refine x_iload_n C dX6_readKnownName_11 rfl rfl ?_
  refine x_iret C E dX6_readKnownName_12 ?_
  exact ⟨rfl, rfl⟩
set_option maxHeartbeats 4000000 in
set_option maxRecDepth 100000 in
theorem c_X6_readNewName1 {l : Launch} {Y0 : x_Y} (hO : x_Ok Y0) {M : x_M} {b : Nat} {D : tK} {Q : HS} {S : tS} (hb : x_bk M b (tcT b D Q S)) : x_C l Y0 yX6_readNewName cX6_readNewName 2 none 4 0 0 [.ref (b + 42), .ref (b + 45)] M (fun u M1 => u = none ∧ M1 = tX M b D Q (t_new1 D S)) := by
  refine x_start hO (by decide +kernel) (Nat.le_of_ble_eq_true rfl) (fun K C E => ?_)
  refine x_to (tX_self hb).symm ?_
  have j53 : x_X K 2 0 0 53 [(0, .ref (b + 42)), (1, .ref (b + 45))] [] (tX M b D Q (t_full1 (t_old S))) := by
      refine x_aload_n C dX6_readNewName_53 rfl rfl ?_
      refine x_aload_n C dX6_readNewName_54 rfl rfl ?_
      refine x_getfield C dX6_readNewName_55 fX6_28 tX_g42 rfl ?_
      refine x_getfield C dX6_readNewName_58 fX6_89 tX_g47 rfl ?_
      refine x_callV1 C dX6_readNewName_61 kX6_126 (c_X1_add hO (by decide) tX_n45) tX_g45 rfl (by decide) ⟨Nat.zero_le _, Nat.zero_le _⟩ (Nat.le_of_ble_eq_true rfl) ?_
      rintro _ _ ⟨rfl, rfl⟩
      refine x_to tX_a1 ?_
      refine x_aload_n C dX6_readNewName_64 rfl rfl ?_
      refine x_iconst (v := 2) C dX6_readNewName_65 (by decide) ?_
      refine x_callV1 C dX6_readNewName_66 kX6_73 (c_X6_expect hO tX_bk) tX_g42 rfl (by decide) ⟨Nat.zero_le _, Nat.zero_le _⟩ (Nat.le_of_ble_eq_true rfl) ?_
      rintro _ _ ⟨rfl, rfl⟩
      refine x_to tX_tX ?_
      refine x_vret C E dX6_readNewName_69 ?_
      exact ⟨rfl, rfl⟩
  have j41 : x_X K 2 0 0 41 [(0, .ref (b + 42)), (1, .ref (b + 45))] [] (tX M b D Q (t_old S)) := by
      refine x_aload_n C dX6_readNewName_41 rfl rfl ?_
      refine x_callV0 C dX6_readNewName_42 kX6_122 (c_X1_isFull hO (by decide) tX_n45) tX_g45 rfl (by decide) ⟨Nat.zero_le _, Nat.zero_le _⟩ (Nat.le_of_ble_eq_true rfl) ?_
      rintro _ _ ⟨rfl, rfl⟩
      refine x_if_eq (tgt := 53) C dX6_readNewName_45 (by decide) (fun c45 => ?_) (fun c45 => ?_)
      · have c45 := b_n c45
        refine x_to (M' := tX M b D Q (t_full1 (t_old S))) (congrArg (tX M b D Q) (by simp only [t_full1, if_neg c45])) ?_
        exact j53
      · have c45 := b_y c45
        refine x_aload_n C dX6_readNewName_48 rfl rfl ?_
        refine x_iconst (v := 4) C dX6_readNewName_49 (by decide) ?_
        refine x_callV1 C dX6_readNewName_50 kX6_93 (c_X6_blame hO tX_bk) tX_g42 rfl (by decide) ⟨Nat.zero_le _, Nat.zero_le _⟩ (Nat.le_of_ble_eq_true rfl) ?_
        rintro _ _ ⟨rfl, rfl⟩
        refine x_to tX_tX ?_
        refine x_to (M' := tX M b D Q (t_full1 (t_old S))) (congrArg (tX M b D Q) (by simp only [t_full1, if_pos c45])) ?_
        exact j53
  refine x_aload_n C dX6_readNewName_0 rfl rfl ?_
  refine x_getfield C dX6_readNewName_1 fX6_14 tX_g42 rfl ?_
  refine x_aload_n C dX6_readNewName_4 rfl rfl ?_
  refine x_getfield C dX6_readNewName_5 fX6_28 tX_g42 rfl ?_
  refine x_getfield C dX6_readNewName_8 fX6_89 tX_g47 rfl ?_
  refine x_callV1 C dX6_readNewName_11 kX6_118 (c_X1_find hO (by decide) tX_n43) tX_g43 rfl (by decide) ⟨Nat.zero_le _, Nat.zero_le _⟩ (Nat.le_of_ble_eq_true rfl) ?_
  rintro _ _ ⟨rfl, rfl⟩
  refine x_topi (t_fd0 S) rfl ?_
  refine x_iconst (v := (-1)) C dX6_readNewName_14 (by decide) ?_
  refine x_icmp_ne (tgt := 36) C dX6_readNewName_15 (by decide) (fun c15 => ?_) (fun c15 => ?_)
  · refine x_aload_n C dX6_readNewName_36 rfl rfl ?_
    refine x_iconst (v := 2) C dX6_readNewName_37 (by decide) ?_
    refine x_callV1 C dX6_readNewName_38 kX6_93 (c_X6_blame hO tX_bk) tX_g42 rfl (by decide) ⟨Nat.zero_le _, Nat.zero_le _⟩ (Nat.le_of_ble_eq_true rfl) ?_
    rintro _ _ ⟨rfl, rfl⟩
    refine x_to tX_tX ?_
    refine x_to (M' := tX M b D Q (t_old S)) (congrArg (tX M b D Q) (by simp only [t_old, if_neg c15])) ?_
    exact j41
  · refine x_aload_n C dX6_readNewName_18 rfl rfl ?_
    refine x_getfield C dX6_readNewName_19 fX6_20 tX_g42 rfl ?_
    refine x_aload_n C dX6_readNewName_22 rfl rfl ?_
    refine x_getfield C dX6_readNewName_23 fX6_28 tX_g42 rfl ?_
    refine x_getfield C dX6_readNewName_26 fX6_89 tX_g47 rfl ?_
    refine x_callV1 C dX6_readNewName_29 kX6_118 (c_X1_find hO (by decide) tX_n45) tX_g45 rfl (by decide) ⟨Nat.zero_le _, Nat.zero_le _⟩ (Nat.le_of_ble_eq_true rfl) ?_
    rintro _ _ ⟨rfl, rfl⟩
    refine x_topi (t_fd1 S) rfl ?_
    refine x_iconst (v := (-1)) C dX6_readNewName_32 (by decide) ?_
    refine x_icmp_eq (tgt := 41) C dX6_readNewName_33 (by decide) (fun c33 => ?_) (fun c33 => ?_)
    · refine x_to (M' := tX M b D Q (t_old S)) (congrArg (tX M b D Q) (by simp only [t_old, if_pos c15, if_pos c33])) ?_
      exact j41
    · refine x_aload_n C dX6_readNewName_36 rfl rfl ?_
      refine x_iconst (v := 2) C dX6_readNewName_37 (by decide) ?_
      refine x_callV1 C dX6_readNewName_38 kX6_93 (c_X6_blame hO tX_bk) tX_g42 rfl (by decide) ⟨Nat.zero_le _, Nat.zero_le _⟩ (Nat.le_of_ble_eq_true rfl) ?_
      rintro _ _ ⟨rfl, rfl⟩
      refine x_to tX_tX ?_
      refine x_to (M' := tX M b D Q (t_old S)) (congrArg (tX M b D Q) (by simp only [t_old, if_pos c15, if_neg c33])) ?_
      exact j41
set_option maxHeartbeats 4000000 in
set_option maxRecDepth 100000 in
theorem c_X6_readDroneOrQueen {l : Launch} {Y0 : x_Y} (hO : x_Ok Y0) {M : x_M} {b : Nat} {D : tK} {Q : HS} {S : tS} (hb : x_bk M b (tcT b D Q S)) : x_C l Y0 yX6_readDroneOrQueen cX6_readDroneOrQueen 1 (some .int) 5 0 0 [.ref (b + 42)] M (fun u M1 => u = some (.int (t_dqv D S)) ∧ M1 = tX M b D Q (t_dq D S)) := by
  refine x_start hO (by decide +kernel) (Nat.le_of_ble_eq_true rfl) (fun K C E => ?_)
  refine x_to (tX_self hb).symm ?_
  refine x_aload_n C dX6_readDroneOrQueen_0 rfl rfl ?_
  refine x_sipush (v := 265) C dX6_readDroneOrQueen_1 (by decide) ?_
  refine x_callV1 C dX6_readDroneOrQueen_4 kX6_60 (c_X6_accept hO tX_bk) tX_g42 rfl (by decide) ⟨Nat.zero_le _, Nat.zero_le _⟩ (Nat.le_of_ble_eq_true rfl) ?_
  rintro _ _ ⟨rfl, rfl⟩
  refine x_to tX_tX ?_
  refine x_if_eq (tgt := 15) C dX6_readDroneOrQueen_7 (by decide) (fun c7 => ?_) (fun c7 => ?_)
  · have c7 := b_n c7
    refine x_aload_n C dX6_readDroneOrQueen_15 rfl rfl ?_
    refine x_aload_n C dX6_readDroneOrQueen_16 rfl rfl ?_
    refine x_getfield C dX6_readDroneOrQueen_17 fX6_14 tX_g42 rfl ?_
    refine x_callV1 C dX6_readDroneOrQueen_20 kX6_152 (c_X6_readKnownName0 hO tX_bk) tX_g42 rfl (by decide) ⟨Nat.zero_le _, Nat.zero_le _⟩ (Nat.le_of_ble_eq_true rfl) ?_
    rintro _ _ ⟨rfl, rfl⟩
    refine x_to tX_tX ?_
    refine x_iret C E dX6_readDroneOrQueen_23 ?_
    refine ⟨?_, ?_⟩
    · first | done | rfl | (simp only [t_dq, t_dqv, if_neg c7])
    · simp only [t_dq, t_dqv, if_neg c7]
  · have c7 := b_y c7
    refine x_bipush (v := 8) C dX6_readDroneOrQueen_10 (by decide) ?_
    refine x_goto (tgt := 23) C dX6_readDroneOrQueen_12 (by decide) ?_
    refine x_iret C E dX6_readDroneOrQueen_23 ?_
    refine ⟨?_, ?_⟩
    · first | done | rfl | (simp only [t_dq, t_dqv, if_pos c7])
    · simp only [t_dq, t_dqv, if_pos c7]
