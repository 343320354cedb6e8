/-- behind the last token nothing changes but the index -/
theorem t_adv_o {D : tK} {S : tS} (h : S.1 11 0 + 1 < 0 ∨ 401 ≤ (S.1 11 0 + 1).toNatClampNeg) : t_adv D S = t_s S 0 (S.1 11 0 + 1) := by
  have e : h_u (h_u (h_u S.1 11 0 (S.1 11 0 + 1)) 11 1 (S.1 11 1)) 11 2 (S.1 11 2) = h_u S.1 11 0 (S.1 11 0 + 1) := by
    funext r j
    by_cases hr : r = 11
    · subst hr
      by_cases h2 : j = 2
      · subst h2
        rw [h_u_eq, h_u_ne (show (2 : Nat) ≠ 0 by decide)]
      · rw [h_u_ne h2]
        by_cases h1 : j = 1
        · subst h1
          rw [h_u_eq, h_u_ne (show (1 : Nat) ≠ 0 by decide)]
        · rw [h_u_ne h1]
    · rw [h_u_row hr, h_u_row hr]
  unfold t_adv
  rw [rgk_t h, rgk_t h, rgk_t h, e]
  rfl
theorem t_adv_i {D : tK} {S : tS} (h : vp_in (S.1 11 0 + 1) 401) : t_adv D S = t_v (t_s (t_s (t_s S 0 (S.1 11 0 + 1)) 1 (D.2.2.1 (S.1 11 0 + 1).toNatClampNeg)) 2 (D.2.2.2.1 (S.1 11 0 + 1).toNatClampNeg)) (D.2.2.2.2 (S.1 11 0 + 1).toNatClampNeg) := by
  unfold t_adv
  rw [show rgk 401 D.2.2.1 (S.1 11 1) (S.1 11 0 + 1) = D.2.2.1 (S.1 11 0 + 1).toNatClampNeg from if_neg h, show rgk 401 D.2.2.2.1 (S.1 11 2) (S.1 11 0 + 1) = D.2.2.2.1 (S.1 11 0 + 1).toNatClampNeg from if_neg h, show rgk 401 D.2.2.2.2 S.2.2.2 (S.1 11 0 + 1) = D.2.2.2.2 (S.1 11 0 + 1).toNatClampNeg from if_neg h]
  rfl
set_option maxHeartbeats 4000000 in
set_option maxRecDepth 100000 in
theorem c_X7_advance {l : Launch} {Y0 : x_Y} (hO : x_Ok Y0) {M : x_M} {b : Nat} {D : tK} {Q : HS} {S : tS} (hb : x_bk M b (tcT b D Q S)) : x_C l Y0 yX7_advance cX7_advance 1 none 2 0 0 [.ref (b + 47)] M (fun u M1 => u = none ∧ M1 = tX M b D Q (t_adv D S)) := by
  refine x_start hO (by decide +kernel) (Nat.le_of_ble_eq_true rfl) (fun K C E => ?_)
  refine x_to (tX_self hb).symm ?_
  refine x_aload_n C dX7_advance_0 rfl rfl ?_
  refine x_dup C dX7_advance_1 rfl ?_
  refine x_getfield C dX7_advance_2 fX7_75 tX_g47 rfl ?_
  refine x_iconst (v := 1) C dX7_advance_5 (by decide) ?_
  refine x_iadd C dX7_advance_6 ?_
  refine x_putfield C dX7_advance_7 fX7_75 tX_g47 rfl rfl (Nat.le_of_ble_eq_true rfl) ?_
  refine x_to tX_s0 ?_
  refine x_aload_n C dX7_advance_10 rfl rfl ?_
  refine x_getfield C dX7_advance_11 fX7_75 tX_g47 rfl ?_
  refine x_topi (S.1 11 0 + 1) rfl ?_
  refine x_if_lt (tgt := 92) C dX7_advance_14 (by decide) (fun c14 => ?_) (fun c14 => ?_)
  · have c14 : S.1 11 0 + 1 < 0 := c14
    refine x_vret C E dX7_advance_92 ?_
    refine ⟨rfl, ?_⟩
    exact congrArg (tX M b D Q) (t_adv_o (Or.inl c14)).symm
  · have c14 : ¬ S.1 11 0 + 1 < 0 := c14
    refine x_aload_n C dX7_advance_17 rfl rfl ?_
    refine x_getfield C dX7_advance_18 fX7_75 tX_g47 rfl ?_
    refine x_topi (S.1 11 0 + 1) rfl ?_
    refine x_aload_n C dX7_advance_21 rfl rfl ?_
    refine x_getfield C dX7_advance_22 fX7_15 tX_g47 rfl ?_
    refine x_alen C dX7_advance_25 tX_g49 (by decide) ?_
    refine x_icmp_ge (tgt := 92) C dX7_advance_26 (by decide) (fun c26 => ?_) (fun c26 => ?_)
    · have c26 : Int32.ofNat 401 ≤ S.1 11 0 + 1 := c26
      refine x_vret C E dX7_advance_92 ?_
      refine ⟨rfl, ?_⟩
      exact congrArg (tX M b D Q) (t_adv_o (Or.inr ((x_ge_len (n := 401) (by decide) c14).mp c26))).symm
    · have c26 : ¬ Int32.ofNat 401 ≤ S.1 11 0 + 1 := c26
      refine x_aload_n C dX7_advance_29 rfl rfl ?_
      refine x_getfield C dX7_advance_30 fX7_75 tX_g47 rfl ?_
      refine x_topi (S.1 11 0 + 1) rfl ?_
      refine x_aload_n C dX7_advance_33 rfl rfl ?_
      refine x_getfield C dX7_advance_34 fX7_19 tX_g47 rfl ?_
      refine x_alen C dX7_advance_37 tX_g50 (by decide) ?_
      refine x_icmp_ge (tgt := 92) C dX7_advance_38 (by decide) (fun c38 => ?_) (fun c38 => ?_)
      · have c38 : Int32.ofNat 401 ≤ S.1 11 0 + 1 := c38
        exact absurd c38 c26
      · have c38 : ¬ Int32.ofNat 401 ≤ S.1 11 0 + 1 := c38
        refine x_aload_n C dX7_advance_41 rfl rfl ?_
        refine x_getfield C dX7_advance_42 fX7_75 tX_g47 rfl ?_
        refine x_topi (S.1 11 0 + 1) rfl ?_
        refine x_aload_n C dX7_advance_45 rfl rfl ?_
        refine x_getfield C dX7_advance_46 fX7_22 tX_g47 rfl ?_
        refine x_alen C dX7_advance_49 tX_g51 (by decide) ?_
        refine x_icmp_ge (tgt := 92) C dX7_advance_50 (by decide) (fun c50 => ?_) (fun c50 => ?_)
        · have c50 : Int32.ofNat 401 ≤ S.1 11 0 + 1 := c50
          exact absurd c50 c26
        · have c50 : ¬ Int32.ofNat 401 ≤ S.1 11 0 + 1 := c50
          refine x_aload_n C dX7_advance_53 rfl rfl ?_
          refine x_aload_n C dX7_advance_54 rfl rfl ?_
          refine x_getfield C dX7_advance_55 fX7_15 tX_g47 rfl ?_
          refine x_aload_n C dX7_advance_58 rfl rfl ?_
          refine x_getfield C dX7_advance_59 fX7_75 tX_g47 rfl ?_
          refine x_topi (S.1 11 0 + 1) rfl ?_
          refine x_iaload C dX7_advance_62 tX_g49 (rw_lt (n := 401) (by decide) c14 c26) ?_
          refine x_putfield C dX7_advance_63 fX7_81 tX_g47 rfl rfl (Nat.le_of_ble_eq_true rfl) ?_
          refine x_to tX_s1 ?_
          refine x_aload_n C dX7_advance_66 rfl rfl ?_
          refine x_aload_n C dX7_advance_67 rfl rfl ?_
          refine x_getfield C dX7_advance_68 fX7_19 tX_g47 rfl ?_
          refine x_aload_n C dX7_advance_71 rfl rfl ?_
          refine x_getfield C dX7_advance_72 fX7_75 tX_g47 rfl ?_
          refine x_topi (S.1 11 0 + 1) rfl ?_
          refine x_iaload C dX7_advance_75 tX_g50 (rw_lt (n := 401) (by decide) c14 c26) ?_
          refine x_putfield C dX7_advance_76 fX7_84 tX_g47 rfl rfl (Nat.le_of_ble_eq_true rfl) ?_
          refine x_to tX_s2 ?_
          refine x_aload_n C dX7_advance_79 rfl rfl ?_
          refine x_aload_n C dX7_advance_80 rfl rfl ?_
          refine x_getfield C dX7_advance_81 fX7_22 tX_g47 rfl ?_
          refine x_aload_n C dX7_advance_84 rfl rfl ?_
          refine x_getfield C dX7_advance_85 fX7_75 tX_g47 rfl ?_
          refine x_topi (S.1 11 0 + 1) rfl ?_
          refine x_laload C dX7_advance_88 tX_g51 (rw_lt (n := 401) (by decide) c14 c26) ?_
          refine x_putfield C dX7_advance_89 fX7_87 tX_g47 rfl rfl (Nat.le_of_ble_eq_true rfl) ?_
          refine x_to tX_sv ?_
          refine x_vret C E dX7_advance_92 ?_
          refine ⟨rfl, ?_⟩
          exact congrArg (tX M b D Q) (t_adv_i (rw_lt (n := 401) (by decide) c14 c26)).symm
set_option maxHeartbeats 4000000 in
set_option maxRecDepth 100000 in
theorem c_X6_breakOff {l : Launch} {Y0 : x_Y} (hO : x_Ok Y0) {M : x_M} {b : Nat} {D : tK} {Q : HS} {S : tS} (hb : x_bk M b (tcT b D Q S)) : x_C l Y0 yX6_breakOff cX6_breakOff 1 none 1 0 0 [.ref (b + 42)] M (fun u M1 => u = none ∧ M1 = tX M b D Q (t_brk S)) := by
  refine x_start hO (by decide +kernel) (Nat.le_of_ble_eq_true rfl) (fun K C E => ?_)
  refine x_to (tX_self hb).symm ?_
  refine x_aload_n C dX6_breakOff_0 rfl rfl ?_
  refine x_getfield C dX6_breakOff_1 fX6_36 tX_g42 rfl ?_
  refine x_iconst (v := (-1)) C dX6_breakOff_4 (by decide) ?_
  refine x_icmp_ne (tgt := 19) C dX6_breakOff_5 (by decide) (fun c5 => ?_) (fun c5 => ?_)
  · refine x_aload_n C dX6_breakOff_19 rfl rfl ?_
    refine x_getfield C dX6_breakOff_20 fX6_28 tX_g42 rfl ?_
    refine x_iconst (v := 1) C dX6_breakOff_23 (by decide) ?_
    refine x_putfield C dX6_breakOff_24 fX6_57 tX_g47 rfl rfl (Nat.le_of_ble_eq_true rfl) ?_
    refine x_to tX_s1 ?_
    refine x_vret C E dX6_breakOff_27 ?_
    refine ⟨?_, ?_⟩
    · first | done | rfl | (simp only [t_brk, if_neg c5])
    · simp only [t_brk, if_neg c5]
  · refine x_aload_n C dX6_breakOff_8 rfl rfl ?_
    refine x_aload_n C dX6_breakOff_9 rfl rfl ?_
    refine x_getfield C dX6_breakOff_10 fX6_28 tX_g42 rfl ?_
    refine x_getfield C dX6_breakOff_13 fX6_76 tX_g47 rfl ?_
    refine x_putfield C dX6_breakOff_16 fX6_36 tX_g42 rfl rfl (Nat.le_of_ble_eq_true rfl) ?_
    refine x_to tX_s3 ?_
    refine x_aload_n C dX6_breakOff_19 rfl rfl ?_
    refine x_getfield C dX6_breakOff_20 fX6_28 tX_g42 rfl ?_
    refine x_iconst (v := 1) C dX6_breakOff_23 (by decide) ?_
    refine x_putfield C dX6_breakOff_24 fX6_57 tX_g47 rfl rfl (Nat.le_of_ble_eq_true rfl) ?_
    refine x_to tX_s1 ?_
    refine x_vret C E dX6_breakOff_27 ?_
    refine ⟨?_, ?_⟩
    · first | done | rfl | (simp only [t_brk, if_pos c5])
    · simp only [t_brk, if_pos c5]
set_option maxHeartbeats 4000000 in
set_option maxRecDepth 100000 in
theorem c_X6_blame {l : Launch} {Y0 : x_Y} (hO : x_Ok Y0) {M : x_M} {b : Nat} {D : tK} {Q : HS} {S : tS} (hb : x_bk M b (tcT b D Q S)) {e : Int32} : x_C l Y0 yX6_blame cX6_blame 2 none 1 0 0 [.ref (b + 42), .int e] M (fun u M1 => u = none ∧ M1 = tX M b D Q (t_blame S e)) := by
  refine x_start hO (by decide +kernel) (Nat.le_of_ble_eq_true rfl) (fun K C E => ?_)
  refine x_to (tX_self hb).symm ?_
  refine x_aload_n C dX6_blame_0 rfl rfl ?_
  refine x_getfield C dX6_blame_1 fX6_40 tX_g42 rfl ?_
  refine x_if_ne (tgt := 23) C dX6_blame_4 (by decide) (fun c4 => ?_) (fun c4 => ?_)
  · refine x_vret C E dX6_blame_23 ?_
    refine ⟨rfl, ?_⟩
    simp only [t_blame, if_neg c4]
  · refine x_aload_n C dX6_blame_7 rfl rfl ?_
    refine x_iload_n C dX6_blame_8 rfl rfl ?_
    refine x_putfield C dX6_blame_9 fX6_40 tX_g42 rfl rfl (Nat.le_of_ble_eq_true rfl) ?_
    refine x_to tX_s4 ?_
    refine x_aload_n C dX6_blame_12 rfl rfl ?_
    refine x_aload_n C dX6_blame_13 rfl rfl ?_
    refine x_getfield C dX6_blame_14 fX6_28 tX_g42 rfl ?_
    refine x_getfield C dX6_blame_17 fX6_76 tX_g47 rfl ?_
    refine x_putfield C dX6_blame_20 fX6_43 tX_g42 rfl rfl (Nat.le_of_ble_eq_true rfl) ?_
    refine x_to tX_s5 ?_
    refine x_vret C E dX6_blame_23 ?_
    refine ⟨rfl, ?_⟩
    simp only [t_blame, if_pos c4]
    rfl
set_option maxHeartbeats 4000000 in
set_option maxRecDepth 100000 in
theorem c_X6_accept {l : Launch} {Y0 : x_Y} (hO : x_Ok Y0) {M : x_M} {b : Nat} {D : tK} {Q : HS} {S : tS} (hb : x_bk M b (tcT b D Q S)) {k : Int32} : x_C l Y0 yX6_accept cX6_accept 2 (some .boolean) 3 0 0 [.ref (b + 42), .int k] M (fun u M1 => u = some (.int (if S.1 11 1 = k then 1 else 0)) ∧ M1 = tX M b D Q (t_acc D S k)) := by
  refine x_start hO (by decide +kernel) (Nat.le_of_ble_eq_true rfl) (fun K C E => ?_)
  refine x_to (tX_self hb).symm ?_
  refine x_aload_n C dX6_accept_0 rfl rfl ?_
  refine x_getfield C dX6_accept_1 fX6_28 tX_g42 rfl ?_
  refine x_getfield C dX6_accept_4 fX6_57 tX_g47 rfl ?_
  refine x_iload_n C dX6_accept_7 rfl rfl ?_
  refine x_icmp_eq (tgt := 13) C dX6_accept_8 (by decide) (fun c8 => ?_) (fun c8 => ?_)
  · refine x_aload_n C dX6_accept_13 rfl rfl ?_
    refine x_getfield C dX6_accept_14 fX6_28 tX_g42 rfl ?_
    refine x_callV0 C dX6_accept_17 kX6_79 (c_X7_advance hO tX_bk) tX_g47 rfl (by decide) ⟨Nat.zero_le _, Nat.zero_le _⟩ (Nat.le_of_ble_eq_true rfl) ?_
    rintro _ _ ⟨rfl, rfl⟩
    refine x_to tX_tX ?_
    refine x_iconst (v := 1) C dX6_accept_20 (by decide) ?_
    refine x_zret C E dX6_accept_21 rfl ?_
    refine ⟨?_, ?_⟩
    · first | done | rfl | (simp only [t_acc, if_pos c8])
    · simp only [t_acc, if_pos c8]
  · refine x_iconst (v := 0) C dX6_accept_11 (by decide) ?_
    refine x_zret C E dX6_accept_12 rfl ?_
    refine ⟨?_, ?_⟩
    · first | done | rfl | (simp only [t_acc, if_neg c8])
    · simp only [t_acc, if_neg c8]
set_option maxHeartbeats 4000000 in
set_option maxRecDepth 100000 in
theorem c_X6_expect {l : Launch} {Y0 : x_Y} (hO : x_Ok Y0) {M : x_M} {b : Nat} {D : tK} {Q : HS} {S : tS} (hb : x_bk M b (tcT b D Q S)) {k : Int32} : x_C l Y0 yX6_expect cX6_expect 2 none 3 0 0 [.ref (b + 42), .int k] M (fun u M1 => u = none ∧ M1 = tX M b D Q (t_exp D S k)) := by
  refine x_start hO (by decide +kernel) (Nat.le_of_ble_eq_true rfl) (fun K C E => ?_)
  refine x_to (tX_self hb).symm ?_
  refine x_aload_n C dX6_expect_0 rfl rfl ?_
  refine x_getfield C dX6_expect_1 fX6_28 tX_g42 rfl ?_
  refine x_getfield C dX6_expect_4 fX6_57 tX_g47 rfl ?_
  refine x_iload_n C dX6_expect_7 rfl rfl ?_
  refine x_icmp_ne (tgt := 21) C dX6_expect_8 (by decide) (fun c8 => ?_) (fun c8 => ?_)
  · refine x_aload_n C dX6_expect_21 rfl rfl ?_
    refine x_callV0 C dX6_expect_22 kX6_82 (c_X6_breakOff hO tX_bk) tX_g42 rfl (by decide) ⟨Nat.zero_le _, Nat.zero_le _⟩ (Nat.le_of_ble_eq_true rfl) ?_
    rintro _ _ ⟨rfl, rfl⟩
    refine x_to tX_tX ?_
    refine x_vret C E dX6_expect_25 ?_
    refine ⟨?_, ?_⟩
    · first | done | rfl | (simp only [t_exp, if_neg c8])
    · simp only [t_exp, if_neg c8]
  · refine x_aload_n C dX6_expect_11 rfl rfl ?_
    refine x_getfield C dX6_expect_12 fX6_28 tX_g42 rfl ?_
    refine x_callV0 C dX6_expect_15 kX6_79 (c_X7_advance hO tX_bk) tX_g47 rfl (by decide) ⟨Nat.zero_le _, Nat.zero_le _⟩ (Nat.le_of_ble_eq_true rfl) ?_
    rintro _ _ ⟨rfl, rfl⟩
    refine x_to tX_tX ?_
    refine x_goto (tgt := 25) C dX6_expect_18 (by decide) ?_
    refine x_vret C E dX6_expect_25 ?_
    refine ⟨?_, ?_⟩
    · first | done | rfl | (simp only [t_exp, if_pos c8])
    · simp only [t_exp, if_pos c8]
set_option maxHeartbeats 4000000 in
set_option maxRecDepth 100000 in
theorem c_X6_goDeeper {l : Launch} {Y0 : x_Y} (hO : x_Ok Y0) {M : x_M} {b : Nat} {D : tK} {Q : HS} {S : tS} (hb : x_bk M b (tcT b D Q S)) {k d : Int32} : x_C l Y0 yX6_goDeeper cX6_goDeeper 3 (some .boolean) 4 0 0 [.ref (b + 42), .int k, .int d] M (fun u M1 => u = some (.int (if (t_deep D S k d).1 11 3 = -1 then 1 else 0)) ∧ M1 = tX M b D Q (t_deep D S k d)) := by
  refine x_start hO (by decide +kernel) (Nat.le_of_ble_eq_true rfl) (fun K C E => ?_)
  refine x_to (tX_self hb).symm ?_
  refine x_iload_n C dX6_goDeeper_0 rfl rfl ?_
  refine x_bipush (v := 8) C dX6_goDeeper_1 (by decide) ?_
  refine x_icmp_lt (tgt := 13) C dX6_goDeeper_3 (by decide) (fun c3 => ?_) (fun c3 => ?_)
  · refine x_aload_n C dX6_goDeeper_13 rfl rfl ?_
    refine x_iload_n C dX6_goDeeper_14 rfl rfl ?_
    refine x_callV1 C dX6_goDeeper_15 kX6_73 (c_X6_expect hO tX_bk) tX_g42 rfl (by decide) ⟨Nat.zero_le _, Nat.zero_le _⟩ (Nat.le_of_ble_eq_true rfl) ?_
    rintro _ _ ⟨rfl, rfl⟩
    refine x_to tX_tX ?_
    refine x_aload_n C dX6_goDeeper_18 rfl rfl ?_
    refine x_getfield C dX6_goDeeper_19 fX6_36 tX_g42 rfl ?_
    refine x_iconst (v := (-1)) C dX6_goDeeper_22 (by decide) ?_
    refine x_icmp_ne (tgt := 30) C dX6_goDeeper_23 (by decide) (fun c23 => ?_) (fun c23 => ?_)
    · refine x_iconst (v := 0) C dX6_goDeeper_30 (by decide) ?_
      refine x_zret C E dX6_goDeeper_31 rfl ?_
      refine ⟨?_, ?_⟩
      · first | done | rfl | (simp only [t_deep, if_pos c3, if_neg c23])
      · simp only [t_deep, if_pos c3, if_neg c23]
    · refine x_iconst (v := 1) C dX6_goDeeper_26 (by decide) ?_
      refine x_goto (tgt := 31) C dX6_goDeeper_27 (by decide) ?_
      refine x_zret C E dX6_goDeeper_31 rfl ?_
      refine ⟨?_, ?_⟩
      · first | done | rfl | (simp only [t_deep, if_pos c3, if_pos c23])
      · simp only [t_deep, if_pos c3, if_pos c23]
  · refine x_aload_n C dX6_goDeeper_6 rfl rfl ?_
    refine x_callV0 C dX6_goDeeper_7 kX6_82 (c_X6_breakOff hO tX_bk) tX_g42 rfl (by decide) ⟨Nat.zero_le _, Nat.zero_le _⟩ (Nat.le_of_ble_eq_true rfl) ?_
    rintro _ _ ⟨rfl, rfl⟩
    refine x_to tX_tX ?_
    refine x_goto (tgt := 18) C dX6_goDeeper_10 (by decide) ?_
    refine x_aload_n C dX6_goDeeper_18 rfl rfl ?_
    refine x_getfield C dX6_goDeeper_19 fX6_36 tX_g42 rfl ?_
    refine x_iconst (v := (-1)) C dX6_goDeeper_22 (by decide) ?_
    refine x_icmp_ne (tgt := 30) C dX6_goDeeper_23 (by decide) (fun c23 => ?_) (fun c23 => ?_)
    · refine x_iconst (v := 0) C dX6_goDeeper_30 (by decide) ?_
      refine x_zret C E dX6_goDeeper_31 rfl ?_
      refine ⟨?_, ?_⟩
      · first | done | rfl | (simp only [t_deep, if_neg c3, if_neg c23])
      · simp only [t_deep, if_neg c3, if_neg c23]
    · refine x_iconst (v := 1) C dX6_goDeeper_26 (by decide) ?_
      refine x_goto (tgt := 31) C dX6_goDeeper_27 (by decide) ?_
      refine x_zret C E dX6_goDeeper_31 rfl ?_
      refine ⟨?_, ?_⟩
      · first | done | rfl | (simp only [t_deep, if_neg c3, if_pos c23])
      · simp only [t_deep, if_neg c3, if_pos c23]
