set_option maxHeartbeats 4000000 in
set_option maxRecDepth 100000 in
theorem c_X6_readDrone {l : Launch} {Y0 : x_Y} (hO : x_Ok Y0) {M : x_M} {b : Nat} {D : tK} {Q : HS} {S : tS} (hb : x_bk M b (tcT b D Q S)) : x_C l Y0 yX6_readDrone cX6_readDrone 2 none 5 0 0 [.ref (b + 42)] M (fun u M1 => u = none ∧ M1 = tX M b D Q (t_drone D S)) := by
  refine x_start hO (by decide +kernel) (Nat.le_of_ble_eq_true rfl) (fun K C E => ?_)
  refine x_to (tX_self hb).symm ?_
  have j35 : x_X K 2 0 0 35 [(0, .ref (b + 42)), (1, .int (t_dr1 D S).2.2.2.toInt32)] [] (tX M b D Q (t_dr2 (t_dr1 D S))) := by
      refine x_aload_n C dX6_readDrone_35 rfl rfl ?_
      refine x_iconst (v := 3) C dX6_readDrone_36 (by decide) ?_
      refine x_callV1 C dX6_readDrone_37 kX6_73 (c_X6_expect hO tX_bk) tX_g42 rfl (by decide) ⟨Nat.zero_le _, Nat.zero_le _⟩ (Nat.le_of_ble_eq_true rfl) ?_
      rintro _ _ ⟨rfl, rfl⟩
      refine x_to tX_tX ?_
      refine x_aload_n C dX6_readDrone_40 rfl rfl ?_
      refine x_getfield C dX6_readDrone_41 fX6_32 tX_g42 rfl ?_
      refine x_getfield C dX6_readDrone_44 fX6_96 tX_g0 rfl ?_
      refine x_aload_n C dX6_readDrone_47 rfl rfl ?_
      refine x_getfield C dX6_readDrone_48 fX6_14 tX_g42 rfl ?_
      refine x_getfield C dX6_readDrone_51 fX6_51 tX_g43 rfl ?_
      refine x_iconst (v := 1) C dX6_readDrone_54 (by decide) ?_
      refine x_isub C dX6_readDrone_55 ?_
      refine x_iload_n C dX6_readDrone_56 rfl rfl ?_
      refine x_callV2 C dX6_readDrone_57 kX6_100 (c_X4_set hO (by decide) tX_b1) tX_g1 rfl (by decide) ⟨Nat.zero_le _, Nat.zero_le _⟩ (Nat.le_of_ble_eq_true rfl) ?_
      rintro _ _ ⟨rfl, rfl⟩
      refine x_to tX_r1 ?_
      refine x_aload_n C dX6_readDrone_60 rfl rfl ?_
      refine x_getfield C dX6_readDrone_61 fX6_32 tX_g42 rfl ?_
      refine x_aload_n C dX6_readDrone_64 rfl rfl ?_
      refine x_getfield C dX6_readDrone_65 fX6_14 tX_g42 rfl ?_
      refine x_getfield C dX6_readDrone_68 fX6_51 tX_g43 rfl ?_
      refine x_putfield C dX6_readDrone_71 fX6_106 tX_g0 rfl rfl (Nat.le_of_ble_eq_true rfl) ?_
      refine x_to tX_c0 ?_
      refine x_vret C E dX6_readDrone_74 ?_
      refine ⟨rfl, ?_⟩
      simp only [t_drone, t_dr3, t_row_ne (show (11 : Nat) ≠ 0 by decide)]
  refine x_aload_n C dX6_readDrone_0 rfl rfl ?_
  refine x_aload_n C dX6_readDrone_1 rfl rfl ?_
  refine x_getfield C dX6_readDrone_2 fX6_14 tX_g42 rfl ?_
  refine x_callV1 C dX6_readDrone_5 kX6_85 (c_X6_readNewName0 hO tX_bk) tX_g42 rfl (by decide) ⟨Nat.zero_le _, Nat.zero_le _⟩ (Nat.le_of_ble_eq_true rfl) ?_
  rintro _ _ ⟨rfl, rfl⟩
  refine x_to tX_tX ?_
  refine x_aload_n C dX6_readDrone_8 rfl rfl ?_
  refine x_sipush (v := 257) C dX6_readDrone_9 (by decide) ?_
  refine x_callV1 C dX6_readDrone_12 kX6_73 (c_X6_expect hO tX_bk) tX_g42 rfl (by decide) ⟨Nat.zero_le _, Nat.zero_le _⟩ (Nat.le_of_ble_eq_true rfl) ?_
  rintro _ _ ⟨rfl, rfl⟩
  refine x_to tX_tX ?_
  refine x_to (show _ = tX M b D Q (t_dr1 D S) from rfl) ?_
  refine x_aload_n C dX6_readDrone_15 rfl rfl ?_
  refine x_getfield C dX6_readDrone_16 fX6_28 tX_g42 rfl ?_
  refine x_getfield C dX6_readDrone_19 fX6_89 tX_g47 rfl ?_
  refine x_l2i C dX6_readDrone_22 ?_
  refine x_istore_n C dX6_readDrone_23 rfl rfl (by decide) ?_
  refine x_iload_n C dX6_readDrone_24 rfl rfl ?_
  refine x_bipush (v := 60) C dX6_readDrone_25 (by decide) ?_
  refine x_icmp_le (tgt := 35) C dX6_readDrone_27 (by decide) (fun c27 => ?_) (fun c27 => ?_)
  · refine x_to (M' := tX M b D Q (t_dr2 (t_dr1 D S))) (congrArg (tX M b D Q) (by simp only [t_dr2, if_pos c27])) ?_
    exact j35
  · refine x_aload_n C dX6_readDrone_30 rfl rfl ?_
    refine x_iconst (v := 5) C dX6_readDrone_31 (by decide) ?_
    refine x_callV1 C dX6_readDrone_32 kX6_93 (c_X6_blame hO tX_bk) tX_g42 rfl (by decide) ⟨Nat.zero_le _, Nat.zero_le _⟩ (Nat.le_of_ble_eq_true rfl) ?_
    rintro _ _ ⟨rfl, rfl⟩
    refine x_to tX_tX ?_
    refine x_to (M' := tX M b D Q (t_dr2 (t_dr1 D S))) (congrArg (tX M b D Q) (by simp only [t_dr2, if_neg c27])) ?_
    exact j35
set_option maxHeartbeats 4000000 in
set_option maxRecDepth 100000 in
theorem c_X6_hasPartOf {l : Launch} {Y0 : x_Y} (hO : x_Ok Y0) {M : x_M} {b : Nat} {D : tK} {Q : HS} {S : tS} (hb : x_bk M b (tcT b D Q S)) {deal parts f : Int32} : x_C l Y0 yX6_hasPartOf cX6_hasPartOf 5 (some .boolean) 2 0 0 [.ref (b + 42), .int deal, .int parts, .int f] M (fun u M1 => u = some (.int (h_b (t_has S deal parts f))) ∧ M1 = tX M b D Q (S)) := by
  refine x_start hO (by decide +kernel) (Nat.le_of_ble_eq_true rfl) (fun K C E => ?_)
  refine x_to (tX_self hb).symm ?_
  have lp : ∀ (k i : Nat) (z : Int32), i + k = 7 → z = nI i → t_has S deal parts f = t_hs (S.1 2) deal parts f k i → x_X K 5 0 0 3 [(0, .ref (b + 42)), (1, .int deal), (2, .int parts), (3, .int f), (4, .int z)] [] (tX M b D Q S) := by
    intro k
    induction k with
    | zero =>
      intro i z hi hz hq
      subst hz
      have e : i = 7 := by omega
      subst e
      refine x_iload C dX6_hasPartOf_3 rfl ?_
      refine x_iload_n C dX6_hasPartOf_5 rfl rfl ?_
      refine x_icmp_ge (tgt := 44) C dX6_hasPartOf_6 (by decide) (fun c6 => ?_) (fun c6 => ?_)
      · refine x_iconst (v := 0) C dX6_hasPartOf_44 (by decide) ?_
        refine x_zret C E dX6_hasPartOf_45 rfl ?_
        exact ⟨by rw [hq]; simp only [t_hs, if_pos c6]; rfl, rfl⟩
      · refine x_iload C dX6_hasPartOf_9 rfl ?_
        refine x_bipush (v := 6) C dX6_hasPartOf_11 (by decide) ?_
        refine x_icmp_ge (tgt := 44) C dX6_hasPartOf_13 (by decide) (fun c13 => ?_) (fun c13 => absurd (by decide) c13)
        refine x_iconst (v := 0) C dX6_hasPartOf_44 (by decide) ?_
        refine x_zret C E dX6_hasPartOf_45 rfl ?_
        exact ⟨by rw [hq]; simp only [t_hs, if_neg c6]; rfl, rfl⟩
    | succ k ih =>
      intro i z hi hz hq
      subst hz
      refine x_iload C dX6_hasPartOf_3 rfl ?_
      refine x_iload_n C dX6_hasPartOf_5 rfl rfl ?_
      refine x_icmp_ge (tgt := 44) C dX6_hasPartOf_6 (by decide) (fun c6 => ?_) (fun c6 => ?_)
      · refine x_iconst (v := 0) C dX6_hasPartOf_44 (by decide) ?_
        refine x_zret C E dX6_hasPartOf_45 rfl ?_
        exact ⟨by rw [hq]; simp only [t_hs, if_pos c6]; rfl, rfl⟩
      · refine x_iload C dX6_hasPartOf_9 rfl ?_
        refine x_bipush (v := 6) C dX6_hasPartOf_11 (by decide) ?_
        refine x_icmp_ge (tgt := 44) C dX6_hasPartOf_13 (by decide) (fun c13 => ?_) (fun c13 => ?_)
        · refine x_iconst (v := 0) C dX6_hasPartOf_44 (by decide) ?_
          refine x_zret C E dX6_hasPartOf_45 rfl ?_
          exact ⟨by rw [hq]; simp only [t_hs, if_neg c6, if_pos c13]; rfl, rfl⟩
        · refine x_aload_n C dX6_hasPartOf_16 rfl rfl ?_
          refine x_getfield C dX6_hasPartOf_17 fX6_32 tX_g42 rfl ?_
          refine x_getfield C dX6_hasPartOf_20 fX6_138 tX_g0 rfl ?_
          refine x_iload_n C dX6_hasPartOf_23 rfl rfl ?_
          refine x_iload C dX6_hasPartOf_24 rfl ?_
          refine x_callS2 C dX6_hasPartOf_26 kX6_141 (c_X8_slot hO) (by decide) ⟨Nat.zero_le _, Nat.zero_le _⟩ (Nat.le_of_ble_eq_true rfl) ?_
          rintro _ _ ⟨rfl, rfl⟩
          refine x_callV1 C dX6_hasPartOf_29 kX6_148 (c_X4_get hO (by decide) tX_b5) tX_g5 rfl (by decide) ⟨Nat.zero_le _, Nat.zero_le _⟩ (Nat.le_of_ble_eq_true rfl) ?_
          rintro _ _ ⟨rfl, rfl⟩
          refine x_iload_n C dX6_hasPartOf_32 rfl rfl ?_
          refine x_icmp_ne (tgt := 38) C dX6_hasPartOf_33 (by decide) (fun c33 => ?_) (fun c33 => ?_)
          · refine x_iinc (v := 1) C dX6_hasPartOf_38 rfl (by decide) rfl (by decide) ?_
            refine x_goto (tgt := 3) C dX6_hasPartOf_41 (by decide) ?_
            exact ih (i + 1) _ (by omega) (nI_1 i) (by rw [hq, t_hs, if_neg c6, if_neg c13, if_neg c33])
          · refine x_iconst (v := 1) C dX6_hasPartOf_36 (by decide) ?_
            refine x_zret C E dX6_hasPartOf_37 rfl ?_
            exact ⟨by rw [hq]; simp only [t_hs, if_neg c6, if_neg c13, if_pos c33]; rfl, rfl⟩
  refine x_iconst (v := 0) C dX6_hasPartOf_0 (by decide) ?_
  refine x_istore C dX6_hasPartOf_1 rfl (by decide) ?_
  exact lp 7 0 0 (by omega) rfl rfl
theorem b_x {A : Prop} [Decidable A] (h : (if A then (1 : Int32) else 0) = 0) : ¬ A := b_n h
set_option maxHeartbeats 4000000 in
set_option maxRecDepth 100000 in
theorem c_X6_readPart {l : Launch} {Y0 : x_Y} (hO : x_Ok Y0) {M : x_M} {b : Nat} {D : tK} {Q : HS} {S : tS} (hb : x_bk M b (tcT b D Q S)) {deal part : Int32} : x_C l Y0 yX6_readPart cX6_readPart 6 none 4 0 0 [.ref (b + 42), .int deal, .int part] M (fun u M1 => u = none ∧ M1 = tX M b D Q (t_part D S deal part)) := by
  refine x_start hO (by decide +kernel) (Nat.le_of_ble_eq_true rfl) (fun K C E => ?_)
  refine x_to (tX_self hb).symm ?_
  have j105 : x_X K 6 0 0 105 [(0, .ref (b + 42)), (1, .int deal), (2, .int part), (3, .int (t_fd0 S)), (4, .int (if (t_pt4 D S deal part).1 11 1 = 260 then (1 : Int32) else 0)), (5, .int (t_pt5 D S deal part).2.2.2.toInt32)] [] (tX M b D Q (t_pt7 (t_pt5 D S deal part))) := by
      refine x_aload_n C dX6_readPart_105 rfl rfl ?_
      refine x_iconst (v := 3) C dX6_readPart_106 (by decide) ?_
      refine x_callV1 C dX6_readPart_107 kX6_73 (c_X6_expect hO tX_bk) tX_g42 rfl (by decide) ⟨Nat.zero_le _, Nat.zero_le _⟩ (Nat.le_of_ble_eq_true rfl) ?_
      rintro _ _ ⟨rfl, rfl⟩
      refine x_to tX_tX ?_
      refine x_iload_n C dX6_readPart_110 rfl rfl ?_
      refine x_bipush (v := 6) C dX6_readPart_111 (by decide) ?_
      refine x_icmp_ge (tgt := 160) C dX6_readPart_113 (by decide) (fun c113 => ?_) (fun c113 => ?_)
      · refine x_vret C E dX6_readPart_160 ?_
        refine ⟨rfl, ?_⟩
        simp only [t_part, t_pt9, if_pos c113]
      · refine x_aload_n C dX6_readPart_116 rfl rfl ?_
        refine x_getfield C dX6_readPart_117 fX6_32 tX_g42 rfl ?_
        refine x_getfield C dX6_readPart_120 fX6_138 tX_g0 rfl ?_
        refine x_iload_n C dX6_readPart_123 rfl rfl ?_
        refine x_iload_n C dX6_readPart_124 rfl rfl ?_
        refine x_callS2 C dX6_readPart_125 kX6_141 (c_X8_slot hO) (by decide) ⟨Nat.zero_le _, Nat.zero_le _⟩ (Nat.le_of_ble_eq_true rfl) ?_
        rintro _ _ ⟨rfl, rfl⟩
        refine x_iload_n C dX6_readPart_128 rfl rfl ?_
        refine x_callV2 C dX6_readPart_129 kX6_100 (c_X4_set hO (by decide) tX_b5) tX_g5 rfl (by decide) ⟨Nat.zero_le _, Nat.zero_le _⟩ (Nat.le_of_ble_eq_true rfl) ?_
        rintro _ _ ⟨rfl, rfl⟩
        refine x_to tX_r5 ?_
        refine x_aload_n C dX6_readPart_132 rfl rfl ?_
        refine x_getfield C dX6_readPart_133 fX6_32 tX_g42 rfl ?_
        refine x_getfield C dX6_readPart_136 fX6_145 tX_g0 rfl ?_
        refine x_iload_n C dX6_readPart_139 rfl rfl ?_
        refine x_iload_n C dX6_readPart_140 rfl rfl ?_
        refine x_callS2 C dX6_readPart_141 kX6_141 (c_X8_slot hO) (by decide) ⟨Nat.zero_le _, Nat.zero_le _⟩ (Nat.le_of_ble_eq_true rfl) ?_
        rintro _ _ ⟨rfl, rfl⟩
        refine x_iload C dX6_readPart_144 rfl ?_
        refine x_if_eq (tgt := 155) C dX6_readPart_146 (by decide) (fun c146 => ?_) (fun c146 => ?_)
        · have c146 := b_n c146
          refine x_iload C dX6_readPart_155 rfl ?_
          refine x_callV2 C dX6_readPart_157 kX6_100 (c_X4_set hO (by decide) tX_b7) tX_g7 rfl (by decide) ⟨Nat.zero_le _, Nat.zero_le _⟩ (Nat.le_of_ble_eq_true rfl) ?_
          rintro _ _ ⟨rfl, rfl⟩
          refine x_to tX_r7 ?_
          refine x_vret C E dX6_readPart_160 ?_
          refine ⟨rfl, ?_⟩
          simp only [t_part, t_pt9, t_ptx, if_neg c113, if_neg c146, t_row_ne (show (3 : Nat) ≠ 2 by decide)]
        · have c146 := b_y c146
          refine x_iload C dX6_readPart_149 rfl ?_
          refine x_ineg C dX6_readPart_151 ?_
          refine x_goto (tgt := 157) C dX6_readPart_152 (by decide) ?_
          refine x_callV2 C dX6_readPart_157 kX6_100 (c_X4_set hO (by decide) tX_b7) tX_g7 rfl (by decide) ⟨Nat.zero_le _, Nat.zero_le _⟩ (Nat.le_of_ble_eq_true rfl) ?_
          rintro _ _ ⟨rfl, rfl⟩
          refine x_to tX_r7 ?_
          refine x_vret C E dX6_readPart_160 ?_
          refine ⟨rfl, ?_⟩
          simp only [t_part, t_pt9, t_ptx, if_neg c113, if_pos c146, t_row_ne (show (3 : Nat) ≠ 2 by decide)]
  have j77 : ∀ (x4 : Int32), x4 = (if (t_pt4 D S deal part).1 11 1 = 260 then (1 : Int32) else 0) → x_X K 6 0 0 77 [(0, .ref (b + 42)), (1, .int deal), (2, .int part), (3, .int (t_fd0 S)), (4, .int x4)] [] (tX M b D Q (t_pt5 D S deal part)) := by
      intro x4 hx4
      rw [hx4]
      refine x_aload_n C dX6_readPart_77 rfl rfl ?_
      refine x_getfield C dX6_readPart_78 fX6_28 tX_g42 rfl ?_
      refine x_getfield C dX6_readPart_81 fX6_89 tX_g47 rfl ?_
      refine x_l2i C dX6_readPart_84 ?_
      refine x_istore C dX6_readPart_85 rfl (by decide) ?_
      refine x_iload C dX6_readPart_87 rfl ?_
      refine x_iconst (v := 1) C dX6_readPart_89 (by decide) ?_
      refine x_icmp_lt (tgt := 100) C dX6_readPart_90 (by decide) (fun c90 => ?_) (fun c90 => ?_)
      · refine x_aload_n C dX6_readPart_100 rfl rfl ?_
        refine x_iconst (v := 5) C dX6_readPart_101 (by decide) ?_
        refine x_callV1 C dX6_readPart_102 kX6_93 (c_X6_blame hO tX_bk) tX_g42 rfl (by decide) ⟨Nat.zero_le _, Nat.zero_le _⟩ (Nat.le_of_ble_eq_true rfl) ?_
        rintro _ _ ⟨rfl, rfl⟩
        refine x_to tX_tX ?_
        refine x_to (M' := tX M b D Q (t_pt7 (t_pt5 D S deal part))) (congrArg (tX M b D Q) (by simp only [t_pt7, if_pos c90])) ?_
        exact j105
      · refine x_iload C dX6_readPart_93 rfl ?_
        refine x_bipush (v := 20) C dX6_readPart_95 (by decide) ?_
        refine x_icmp_le (tgt := 105) C dX6_readPart_97 (by decide) (fun c97 => ?_) (fun c97 => ?_)
        · refine x_to (M' := tX M b D Q (t_pt7 (t_pt5 D S deal part))) (congrArg (tX M b D Q) (by simp only [t_pt7, if_neg c90, if_pos c97])) ?_
          exact j105
        · refine x_aload_n C dX6_readPart_100 rfl rfl ?_
          refine x_iconst (v := 5) C dX6_readPart_101 (by decide) ?_
          refine x_callV1 C dX6_readPart_102 kX6_93 (c_X6_blame hO tX_bk) tX_g42 rfl (by decide) ⟨Nat.zero_le _, Nat.zero_le _⟩ (Nat.le_of_ble_eq_true rfl) ?_
          rintro _ _ ⟨rfl, rfl⟩
          refine x_to tX_tX ?_
          refine x_to (M' := tX M b D Q (t_pt7 (t_pt5 D S deal part))) (congrArg (tX M b D Q) (by simp only [t_pt7, if_neg c90, if_neg c97])) ?_
          exact j105
  have j35 : x_X K 6 0 0 35 [(0, .ref (b + 42)), (1, .int deal), (2, .int part), (3, .int (t_fd0 S))] [] (tX M b D Q (t_pt3 (t_pt2 (t_lk0 S) part) deal part (t_fd0 S))) := by
      refine x_aload_n C dX6_readPart_35 rfl rfl ?_
      refine x_iconst (v := 2) C dX6_readPart_36 (by decide) ?_
      refine x_callV1 C dX6_readPart_37 kX6_73 (c_X6_expect hO tX_bk) tX_g42 rfl (by decide) ⟨Nat.zero_le _, Nat.zero_le _⟩ (Nat.le_of_ble_eq_true rfl) ?_
      rintro _ _ ⟨rfl, rfl⟩
      refine x_to tX_tX ?_
      refine x_to (show _ = tX M b D Q (t_pt4 D S deal part) from rfl) ?_
      refine x_aload_n C dX6_readPart_40 rfl rfl ?_
      refine x_getfield C dX6_readPart_41 fX6_28 tX_g42 rfl ?_
      refine x_getfield C dX6_readPart_44 fX6_57 tX_g47 rfl ?_
      refine x_sipush (v := 260) C dX6_readPart_47 (by decide) ?_
      refine x_icmp_ne (tgt := 57) C dX6_readPart_50 (by decide) (fun c50 => ?_) (fun c50 => ?_)
      · refine x_iconst (v := 0) C dX6_readPart_57 (by decide) ?_
        refine x_istore C dX6_readPart_58 rfl (by decide) ?_
        refine x_aload_n C dX6_readPart_60 rfl rfl ?_
        refine x_sipush (v := 260) C dX6_readPart_61 (by decide) ?_
        refine x_callV1 C dX6_readPart_64 kX6_60 (c_X6_accept hO tX_bk) tX_g42 rfl (by decide) ⟨Nat.zero_le _, Nat.zero_le _⟩ (Nat.le_of_ble_eq_true rfl) ?_
        rintro _ _ ⟨rfl, rfl⟩
        refine x_to tX_tX ?_
        refine x_if_ne (tgt := 77) C dX6_readPart_67 (by decide) (fun c67 => ?_) (fun c67 => ?_)
        · have c67 := b_y c67
          exact absurd c67 c50
        · have c67 := b_n c67
          refine x_aload_n C dX6_readPart_70 rfl rfl ?_
          refine x_sipush (v := 261) C dX6_readPart_71 (by decide) ?_
          refine x_callV1 C dX6_readPart_74 kX6_73 (c_X6_expect hO tX_bk) tX_g42 rfl (by decide) ⟨Nat.zero_le _, Nat.zero_le _⟩ (Nat.le_of_ble_eq_true rfl) ?_
          rintro _ _ ⟨rfl, rfl⟩
          refine x_to tX_tX ?_
          refine x_to (M' := tX M b D Q (t_pt5 D S deal part)) (congrArg (tX M b D Q) (by simp only [t_pt5, t_pt6, if_neg c50, if_neg c67])) ?_
          exact j77 _ (by simp only [t_pt5, t_pt6, if_neg c50, if_neg c67])
      · refine x_iconst (v := 1) C dX6_readPart_53 (by decide) ?_
        refine x_goto (tgt := 58) C dX6_readPart_54 (by decide) ?_
        refine x_istore C dX6_readPart_58 rfl (by decide) ?_
        refine x_aload_n C dX6_readPart_60 rfl rfl ?_
        refine x_sipush (v := 260) C dX6_readPart_61 (by decide) ?_
        refine x_callV1 C dX6_readPart_64 kX6_60 (c_X6_accept hO tX_bk) tX_g42 rfl (by decide) ⟨Nat.zero_le _, Nat.zero_le _⟩ (Nat.le_of_ble_eq_true rfl) ?_
        rintro _ _ ⟨rfl, rfl⟩
        refine x_to tX_tX ?_
        refine x_if_ne (tgt := 77) C dX6_readPart_67 (by decide) (fun c67 => ?_) (fun c67 => ?_)
        · have c67 := b_y c67
          refine x_to (M' := tX M b D Q (t_pt5 D S deal part)) (congrArg (tX M b D Q) (by simp only [t_pt5, t_pt6, if_pos c50, if_pos c67])) ?_
          exact j77 _ (by simp only [t_pt5, t_pt6, if_pos c50, if_pos c67])
        · have c67 := b_n c67
          exact absurd c50 c67
  have j20 : x_X K 6 0 0 20 [(0, .ref (b + 42)), (1, .int deal), (2, .int part), (3, .int (t_fd0 S))] [] (tX M b D Q (t_pt2 (t_lk0 S) part)) := by
      refine x_aload_n C dX6_readPart_20 rfl rfl ?_
      refine x_iload_n C dX6_readPart_21 rfl rfl ?_
      refine x_iload_n C dX6_readPart_22 rfl rfl ?_
      refine x_iload_n C dX6_readPart_23 rfl rfl ?_
      refine x_callV3 C dX6_readPart_24 kX6_134 (c_X6_hasPartOf hO tX_bk) tX_g42 rfl (by decide) ⟨Nat.zero_le _, Nat.zero_le _⟩ (Nat.le_of_ble_eq_true rfl) ?_
      rintro _ _ ⟨rfl, rfl⟩
      refine x_to tX_tX ?_
      refine x_if_eq (tgt := 35) C dX6_readPart_27 (by decide) (fun c27 => ?_) (fun c27 => ?_)
      · have c27 := b_n c27
        refine x_to (M' := tX M b D Q (t_pt3 (t_pt2 (t_lk0 S) part) deal part (t_fd0 S))) (congrArg (tX M b D Q) (by simp only [t_pt3, if_neg c27])) ?_
        exact j35
      · have c27 := b_y c27
        refine x_aload_n C dX6_readPart_30 rfl rfl ?_
        refine x_iconst (v := 5) C dX6_readPart_31 (by decide) ?_
        refine x_callV1 C dX6_readPart_32 kX6_93 (c_X6_blame hO tX_bk) tX_g42 rfl (by decide) ⟨Nat.zero_le _, Nat.zero_le _⟩ (Nat.le_of_ble_eq_true rfl) ?_
        rintro _ _ ⟨rfl, rfl⟩
        refine x_to tX_tX ?_
        refine x_to (M' := tX M b D Q (t_pt3 (t_pt2 (t_lk0 S) part) deal part (t_fd0 S))) (congrArg (tX M b D Q) (by simp only [t_pt3, if_pos c27])) ?_
        exact j35
  refine x_aload_n C dX6_readPart_0 rfl rfl ?_
  refine x_aload_n C dX6_readPart_1 rfl rfl ?_
  refine x_getfield C dX6_readPart_2 fX6_14 tX_g42 rfl ?_
  refine x_callV1 C dX6_readPart_5 kX6_130 (c_X6_lookUp0 hO tX_bk) tX_g42 rfl (by decide) ⟨Nat.zero_le _, Nat.zero_le _⟩ (Nat.le_of_ble_eq_true rfl) ?_
  rintro _ _ ⟨rfl, rfl⟩
  refine x_to tX_tX ?_
  refine x_istore_n C dX6_readPart_8 rfl rfl (by decide) ?_
  refine x_iload_n C dX6_readPart_9 rfl rfl ?_
  refine x_bipush (v := 6) C dX6_readPart_10 (by decide) ?_
  refine x_icmp_lt (tgt := 20) C dX6_readPart_12 (by decide) (fun c12 => ?_) (fun c12 => ?_)
  · refine x_to (M' := tX M b D Q (t_pt2 (t_lk0 S) part)) (congrArg (tX M b D Q) (by simp only [t_pt2, if_pos c12])) ?_
    exact j20
  · refine x_aload_n C dX6_readPart_15 rfl rfl ?_
    refine x_iconst (v := 4) C dX6_readPart_16 (by decide) ?_
    refine x_callV1 C dX6_readPart_17 kX6_93 (c_X6_blame hO tX_bk) tX_g42 rfl (by decide) ⟨Nat.zero_le _, Nat.zero_le _⟩ (Nat.le_of_ble_eq_true rfl) ?_
    rintro _ _ ⟨rfl, rfl⟩
    refine x_to tX_tX ?_
    refine x_to (M' := tX M b D Q (t_pt2 (t_lk0 S) part)) (congrArg (tX M b D Q) (by simp only [t_pt2, if_neg c12])) ?_
    exact j20
set_option maxHeartbeats 4000000 in
set_option maxRecDepth 100000 in
theorem c_X6_readDeal {l : Launch} {Y0 : x_Y} (hO : x_Ok Y0) {M : x_M} {b : Nat} {D : tK} {Q : HS} {S : tS} (hb : x_bk M b (tcT b D Q S)) : x_C l Y0 yX6_readDeal cX6_readDeal 4 none 5 0 0 [.ref (b + 42)] M (fun u M1 => u = none ∧ M1 = tX M b D Q (t_deal D S)) := by
  refine x_start hO (by decide +kernel) (Nat.le_of_ble_eq_true rfl) (fun K C E => ?_)
  refine x_to (tX_self hb).symm ?_
  have lp : ∀ (k i : Nat) (p z : Int32) (S1 : tS), i + k = 400 → z = nI i → t_dl2 D S = t_dlp D ((t_dl1 D S).1 11 7 - 1) k p S1 → x_X K 4 0 0 35 [(0, .ref (b + 42)), (1, .int ((t_dl1 D S).1 11 7 - 1)), (2, .int p), (3, .int z)] [] (tX M b D Q S1) := by
    intro k
    induction k with
    | zero =>
      intro i p z S1 hi hz hq
      subst hz
      have e : i = 400 := by omega
      subst e
      refine x_iload_n C dX6_readDeal_35 rfl rfl ?_
      refine x_sipush (v := 400) C dX6_readDeal_36 (by decide) ?_
      refine x_icmp_ge (tgt := 66) C dX6_readDeal_39 (by decide) (fun c39 => ?_) (fun c39 => absurd (by decide) c39)
      refine x_aload_n C dX6_readDeal_66 rfl rfl ?_
      refine x_getfield C dX6_readDeal_67 fX6_32 tX_g42 rfl ?_
      refine x_getfield C dX6_readDeal_70 fX6_112 tX_g0 rfl ?_
      refine x_iload_n C dX6_readDeal_73 rfl rfl ?_
      refine x_iload_n C dX6_readDeal_74 rfl rfl ?_
      refine x_callV2 C dX6_readDeal_75 kX6_100 (c_X4_set hO (by decide) tX_b3) tX_g3 rfl (by decide) ⟨Nat.zero_le _, Nat.zero_le _⟩ (Nat.le_of_ble_eq_true rfl) ?_
      rintro _ _ ⟨rfl, rfl⟩
      refine x_to tX_r3 ?_
      refine x_aload_n C dX6_readDeal_78 rfl rfl ?_
      refine x_getfield C dX6_readDeal_79 fX6_32 tX_g42 rfl ?_
      refine x_aload_n C dX6_readDeal_82 rfl rfl ?_
      refine x_getfield C dX6_readDeal_83 fX6_20 tX_g42 rfl ?_
      refine x_getfield C dX6_readDeal_86 fX6_51 tX_g45 rfl ?_
      refine x_putfield C dX6_readDeal_89 fX6_115 tX_g0 rfl rfl (Nat.le_of_ble_eq_true rfl) ?_
      refine x_to tX_c1 ?_
      refine x_vret C E dX6_readDeal_92 ?_
      refine ⟨rfl, ?_⟩
      simp only [t_deal, t_dl3, hq, t_dlp, t_row_ne (show (11 : Nat) ≠ 1 by decide)]
    | succ k ih =>
      intro i p z S1 hi hz hq
      subst hz
      refine x_iload_n C dX6_readDeal_35 rfl rfl ?_
      refine x_sipush (v := 400) C dX6_readDeal_36 (by decide) ?_
      refine x_icmp_ge (tgt := 66) C dX6_readDeal_39 (by decide) (fun c39 => absurd c39 (show ¬ nI 400 ≤ nI i from nI_ge (by omega) (by decide))) (fun c39 => ?_)
      refine x_aload_n C dX6_readDeal_42 rfl rfl ?_
      refine x_bipush (v := 44) C dX6_readDeal_43 (by decide) ?_
      refine x_callV1 C dX6_readDeal_45 kX6_60 (c_X6_accept hO tX_bk) tX_g42 rfl (by decide) ⟨Nat.zero_le _, Nat.zero_le _⟩ (Nat.le_of_ble_eq_true rfl) ?_
      rintro _ _ ⟨rfl, rfl⟩
      refine x_to tX_tX ?_
      refine x_if_eq (tgt := 66) C dX6_readDeal_48 (by decide) (fun c48 => ?_) (fun c48 => ?_)
      · have c48 := b_n c48
        refine x_aload_n C dX6_readDeal_66 rfl rfl ?_
        refine x_getfield C dX6_readDeal_67 fX6_32 tX_g42 rfl ?_
        refine x_getfield C dX6_readDeal_70 fX6_112 tX_g0 rfl ?_
        refine x_iload_n C dX6_readDeal_73 rfl rfl ?_
        refine x_iload_n C dX6_readDeal_74 rfl rfl ?_
        refine x_callV2 C dX6_readDeal_75 kX6_100 (c_X4_set hO (by decide) tX_b3) tX_g3 rfl (by decide) ⟨Nat.zero_le _, Nat.zero_le _⟩ (Nat.le_of_ble_eq_true rfl) ?_
        rintro _ _ ⟨rfl, rfl⟩
        refine x_to tX_r3 ?_
        refine x_aload_n C dX6_readDeal_78 rfl rfl ?_
        refine x_getfield C dX6_readDeal_79 fX6_32 tX_g42 rfl ?_
        refine x_aload_n C dX6_readDeal_82 rfl rfl ?_
        refine x_getfield C dX6_readDeal_83 fX6_20 tX_g42 rfl ?_
        refine x_getfield C dX6_readDeal_86 fX6_51 tX_g45 rfl ?_
        refine x_putfield C dX6_readDeal_89 fX6_115 tX_g0 rfl rfl (Nat.le_of_ble_eq_true rfl) ?_
        refine x_to tX_c1 ?_
        refine x_vret C E dX6_readDeal_92 ?_
        refine ⟨rfl, ?_⟩
        simp only [t_deal, t_dl3, hq, t_dlp, t_row_ne (show (11 : Nat) ≠ 1 by decide), if_neg c48]
      · have c48 := b_y c48
        refine x_aload_n C dX6_readDeal_51 rfl rfl ?_
        refine x_iload_n C dX6_readDeal_52 rfl rfl ?_
        refine x_iload_n C dX6_readDeal_53 rfl rfl ?_
        refine x_callV2 C dX6_readDeal_54 kX6_109 (c_X6_readPart hO tX_bk) tX_g42 rfl (by decide) ⟨Nat.zero_le _, Nat.zero_le _⟩ (Nat.le_of_ble_eq_true rfl) ?_
        rintro _ _ ⟨rfl, rfl⟩
        refine x_to tX_tX ?_
        refine x_iinc (v := 1) C dX6_readDeal_57 rfl (by decide) rfl (by decide) ?_
        refine x_iinc (v := 1) C dX6_readDeal_60 rfl (by decide) rfl (by decide) ?_
        refine x_goto (tgt := 35) C dX6_readDeal_63 (by decide) ?_
        exact ih (i + 1) _ _ _ (by omega) (nI_1 i) (by rw [hq, t_dlp, if_pos c48])
  refine x_aload_n C dX6_readDeal_0 rfl rfl ?_
  refine x_aload_n C dX6_readDeal_1 rfl rfl ?_
  refine x_getfield C dX6_readDeal_2 fX6_20 tX_g42 rfl ?_
  refine x_callV1 C dX6_readDeal_5 kX6_85 (c_X6_readNewName1 hO tX_bk) tX_g42 rfl (by decide) ⟨Nat.zero_le _, Nat.zero_le _⟩ (Nat.le_of_ble_eq_true rfl) ?_
  rintro _ _ ⟨rfl, rfl⟩
  refine x_to tX_tX ?_
  refine x_aload_n C dX6_readDeal_8 rfl rfl ?_
  refine x_sipush (v := 259) C dX6_readDeal_9 (by decide) ?_
  refine x_callV1 C dX6_readDeal_12 kX6_73 (c_X6_expect hO tX_bk) tX_g42 rfl (by decide) ⟨Nat.zero_le _, Nat.zero_le _⟩ (Nat.le_of_ble_eq_true rfl) ?_
  rintro _ _ ⟨rfl, rfl⟩
  refine x_to tX_tX ?_
  refine x_to (show _ = tX M b D Q (t_dl1 D S) from rfl) ?_
  refine x_aload_n C dX6_readDeal_15 rfl rfl ?_
  refine x_getfield C dX6_readDeal_16 fX6_20 tX_g42 rfl ?_
  refine x_getfield C dX6_readDeal_19 fX6_51 tX_g45 rfl ?_
  refine x_iconst (v := 1) C dX6_readDeal_22 (by decide) ?_
  refine x_isub C dX6_readDeal_23 ?_
  refine x_istore_n C dX6_readDeal_24 rfl rfl (by decide) ?_
  refine x_aload_n C dX6_readDeal_25 rfl rfl ?_
  refine x_iload_n C dX6_readDeal_26 rfl rfl ?_
  refine x_iconst (v := 0) C dX6_readDeal_27 (by decide) ?_
  refine x_callV2 C dX6_readDeal_28 kX6_109 (c_X6_readPart hO tX_bk) tX_g42 rfl (by decide) ⟨Nat.zero_le _, Nat.zero_le _⟩ (Nat.le_of_ble_eq_true rfl) ?_
  rintro _ _ ⟨rfl, rfl⟩
  refine x_to tX_tX ?_
  refine x_iconst (v := 1) C dX6_readDeal_31 (by decide) ?_
  refine x_istore_n C dX6_readDeal_32 rfl rfl (by decide) ?_
  refine x_iconst (v := 0) C dX6_readDeal_33 (by decide) ?_
  refine x_istore_n C dX6_readDeal_34 rfl rfl (by decide) ?_
  exact lp 400 0 1 0 _ (by omega) rfl rfl
