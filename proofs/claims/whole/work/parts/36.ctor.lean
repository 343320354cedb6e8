set_option maxHeartbeats 4000000 in
set_option maxRecDepth 100000 in
theorem c_X9_init {l : Launch} {Y0 : x_Y} (hO : x_Ok Y0) {M : x_M} {a : Nat} (ha : x_bk M a [.inr (9, [.int 0, .int 0, .null, .null, .null, .null, .int 0, .int 0, .null, .null, .null, .null, .null, .int 0, .null, .int 0])]) (hM : M.2 = a + 1) : x_C l Y0 yX9_init cX9_init 1 none 2 10 1352 [.ref a] M (fun u M1 => u = none ∧ M1 = x_ov (x_nx M 10) a (pmT a h_zz)) := by
  refine x_start hO (by decide +kernel) (Nat.le_of_ble_eq_true rfl) (fun K C E => ?_)
  refine x_to ((x_ov_self ha).symm.trans (show x_ov M a _ = x_ov (x_nx M 0) a _ from rfl)) ?_
  refine x_aload_n C dX9_init_0 rfl rfl ?_
  refine x_objInit C dX9_init_1 oX9_3 o_i o_c (by decide) (Nat.le_of_ble_eq_true rfl) ?_
  refine x_aload_n C dX9_init_4 rfl rfl ?_
  refine x_bipush (v := 8) C dX9_init_5 (by decide) ?_
  refine x_newarrI (N := 8) C dX9_init_7 o_ai (by decide) rfl (by decide) (Nat.le_of_ble_eq_true rfl) (Nat.le_of_ble_eq_true rfl) ?_
  refine x_to (x_nx_nw hM rfl) ?_
  refine x_topr (a + 1) (show M.2 + 0 = a + 1 by omega) ?_
  refine x_putfinal C dX9_init_9 gfX9_9 rfl rfl (x_ovg 0 rfl) rfl rfl (Nat.le_of_ble_eq_true rfl) ?_
  refine x_to (x_st_ov 0 (Nat.le_of_ble_eq_true rfl)) ?_
  refine x_to (show _ = x_ov (x_nx M 1) a [.inr (9, [.int 0, .int 0, .ref (a + 1), .null, .null, .null, .int 0, .int 0, .null, .null, .null, .null, .null, .int 0, .null, .int 0]), .inl (0, 8, .inl (fun _ => 0))] from rfl) ?_
  refine x_aload_n C dX9_init_12 rfl rfl ?_
  refine x_bipush (v := 6) C dX9_init_13 (by decide) ?_
  refine x_newarrI (N := 6) C dX9_init_15 o_ai (by decide) rfl (by decide) (Nat.le_of_ble_eq_true rfl) (Nat.le_of_ble_eq_true rfl) ?_
  refine x_to (x_nx_nw hM rfl) ?_
  refine x_topr (a + 2) (show M.2 + 1 = a + 2 by omega) ?_
  refine x_putfinal C dX9_init_17 gfX9_15 rfl rfl (x_ovg 0 rfl) rfl rfl (Nat.le_of_ble_eq_true rfl) ?_
  refine x_to (x_st_ov 0 (Nat.le_of_ble_eq_true rfl)) ?_
  refine x_to (show _ = x_ov (x_nx M 2) a [.inr (9, [.int 0, .int 0, .ref (a + 1), .ref (a + 2), .null, .null, .int 0, .int 0, .null, .null, .null, .null, .null, .int 0, .null, .int 0]), .inl (0, 8, .inl (fun _ => 0)), .inl (0, 6, .inl (fun _ => 0))] from rfl) ?_
  refine x_aload_n C dX9_init_20 rfl rfl ?_
  refine x_bipush (v := 36) C dX9_init_21 (by decide) ?_
  refine x_newarrI (N := 36) C dX9_init_23 o_ai (by decide) rfl (by decide) (Nat.le_of_ble_eq_true rfl) (Nat.le_of_ble_eq_true rfl) ?_
  refine x_to (x_nx_nw hM rfl) ?_
  refine x_topr (a + 3) (show M.2 + 2 = a + 3 by omega) ?_
  refine x_putfinal C dX9_init_25 gfX9_18 rfl rfl (x_ovg 0 rfl) rfl rfl (Nat.le_of_ble_eq_true rfl) ?_
  refine x_to (x_st_ov 0 (Nat.le_of_ble_eq_true rfl)) ?_
  refine x_to (show _ = x_ov (x_nx M 3) a [.inr (9, [.int 0, .int 0, .ref (a + 1), .ref (a + 2), .ref (a + 3), .null, .int 0, .int 0, .null, .null, .null, .null, .null, .int 0, .null, .int 0]), .inl (0, 8, .inl (fun _ => 0)), .inl (0, 6, .inl (fun _ => 0)), .inl (0, 36, .inl (fun _ => 0))] from rfl) ?_
  refine x_aload_n C dX9_init_28 rfl rfl ?_
  refine x_bipush (v := 36) C dX9_init_29 (by decide) ?_
  refine x_newarrI (N := 36) C dX9_init_31 o_ai (by decide) rfl (by decide) (Nat.le_of_ble_eq_true rfl) (Nat.le_of_ble_eq_true rfl) ?_
  refine x_to (x_nx_nw hM rfl) ?_
  refine x_topr (a + 4) (show M.2 + 3 = a + 4 by omega) ?_
  refine x_putfinal C dX9_init_33 gfX9_21 rfl rfl (x_ovg 0 rfl) rfl rfl (Nat.le_of_ble_eq_true rfl) ?_
  refine x_to (x_st_ov 0 (Nat.le_of_ble_eq_true rfl)) ?_
  refine x_to (show _ = x_ov (x_nx M 4) a [.inr (9, [.int 0, .int 0, .ref (a + 1), .ref (a + 2), .ref (a + 3), .ref (a + 4), .int 0, .int 0, .null, .null, .null, .null, .null, .int 0, .null, .int 0]), .inl (0, 8, .inl (fun _ => 0)), .inl (0, 6, .inl (fun _ => 0)), .inl (0, 36, .inl (fun _ => 0)), .inl (0, 36, .inl (fun _ => 0))] from rfl) ?_
  refine x_aload_n C dX9_init_36 rfl rfl ?_
  refine x_bipush (v := 16) C dX9_init_37 (by decide) ?_
  refine x_newarrI (N := 16) C dX9_init_39 o_ai (by decide) rfl (by decide) (Nat.le_of_ble_eq_true rfl) (Nat.le_of_ble_eq_true rfl) ?_
  refine x_to (x_nx_nw hM rfl) ?_
  refine x_topr (a + 5) (show M.2 + 4 = a + 5 by omega) ?_
  refine x_putfinal C dX9_init_41 gfX9_24 rfl rfl (x_ovg 0 rfl) rfl rfl (Nat.le_of_ble_eq_true rfl) ?_
  refine x_to (x_st_ov 0 (Nat.le_of_ble_eq_true rfl)) ?_
  refine x_to (show _ = x_ov (x_nx M 5) a [.inr (9, [.int 0, .int 0, .ref (a + 1), .ref (a + 2), .ref (a + 3), .ref (a + 4), .int 0, .int 0, .ref (a + 5), .null, .null, .null, .null, .int 0, .null, .int 0]), .inl (0, 8, .inl (fun _ => 0)), .inl (0, 6, .inl (fun _ => 0)), .inl (0, 36, .inl (fun _ => 0)), .inl (0, 36, .inl (fun _ => 0)), .inl (0, 16, .inl (fun _ => 0))] from rfl) ?_
  refine x_aload_n C dX9_init_44 rfl rfl ?_
  refine x_bipush (v := 16) C dX9_init_45 (by decide) ?_
  refine x_newarrI (N := 16) C dX9_init_47 o_ai (by decide) rfl (by decide) (Nat.le_of_ble_eq_true rfl) (Nat.le_of_ble_eq_true rfl) ?_
  refine x_to (x_nx_nw hM rfl) ?_
  refine x_topr (a + 6) (show M.2 + 5 = a + 6 by omega) ?_
  refine x_putfinal C dX9_init_49 gfX9_27 rfl rfl (x_ovg 0 rfl) rfl rfl (Nat.le_of_ble_eq_true rfl) ?_
  refine x_to (x_st_ov 0 (Nat.le_of_ble_eq_true rfl)) ?_
  refine x_to (show _ = x_ov (x_nx M 6) a [.inr (9, [.int 0, .int 0, .ref (a + 1), .ref (a + 2), .ref (a + 3), .ref (a + 4), .int 0, .int 0, .ref (a + 5), .ref (a + 6), .null, .null, .null, .int 0, .null, .int 0]), .inl (0, 8, .inl (fun _ => 0)), .inl (0, 6, .inl (fun _ => 0)), .inl (0, 36, .inl (fun _ => 0)), .inl (0, 36, .inl (fun _ => 0)), .inl (0, 16, .inl (fun _ => 0)), .inl (0, 16, .inl (fun _ => 0))] from rfl) ?_
  refine x_aload_n C dX9_init_52 rfl rfl ?_
  refine x_bipush (v := 17) C dX9_init_53 (by decide) ?_
  refine x_newarrI (N := 17) C dX9_init_55 o_ai (by decide) rfl (by decide) (Nat.le_of_ble_eq_true rfl) (Nat.le_of_ble_eq_true rfl) ?_
  refine x_to (x_nx_nw hM rfl) ?_
  refine x_topr (a + 7) (show M.2 + 6 = a + 7 by omega) ?_
  refine x_putfinal C dX9_init_57 gfX9_30 rfl rfl (x_ovg 0 rfl) rfl rfl (Nat.le_of_ble_eq_true rfl) ?_
  refine x_to (x_st_ov 0 (Nat.le_of_ble_eq_true rfl)) ?_
  refine x_to (show _ = x_ov (x_nx M 7) a [.inr (9, [.int 0, .int 0, .ref (a + 1), .ref (a + 2), .ref (a + 3), .ref (a + 4), .int 0, .int 0, .ref (a + 5), .ref (a + 6), .ref (a + 7), .null, .null, .int 0, .null, .int 0]), .inl (0, 8, .inl (fun _ => 0)), .inl (0, 6, .inl (fun _ => 0)), .inl (0, 36, .inl (fun _ => 0)), .inl (0, 36, .inl (fun _ => 0)), .inl (0, 16, .inl (fun _ => 0)), .inl (0, 16, .inl (fun _ => 0)), .inl (0, 17, .inl (fun _ => 0))] from rfl) ?_
  refine x_aload_n C dX9_init_60 rfl rfl ?_
  refine x_bipush (v := 17) C dX9_init_61 (by decide) ?_
  refine x_newarrI (N := 17) C dX9_init_63 o_ai (by decide) rfl (by decide) (Nat.le_of_ble_eq_true rfl) (Nat.le_of_ble_eq_true rfl) ?_
  refine x_to (x_nx_nw hM rfl) ?_
  refine x_topr (a + 8) (show M.2 + 7 = a + 8 by omega) ?_
  refine x_putfinal C dX9_init_65 gfX9_33 rfl rfl (x_ovg 0 rfl) rfl rfl (Nat.le_of_ble_eq_true rfl) ?_
  refine x_to (x_st_ov 0 (Nat.le_of_ble_eq_true rfl)) ?_
  refine x_to (show _ = x_ov (x_nx M 8) a [.inr (9, [.int 0, .int 0, .ref (a + 1), .ref (a + 2), .ref (a + 3), .ref (a + 4), .int 0, .int 0, .ref (a + 5), .ref (a + 6), .ref (a + 7), .ref (a + 8), .null, .int 0, .null, .int 0]), .inl (0, 8, .inl (fun _ => 0)), .inl (0, 6, .inl (fun _ => 0)), .inl (0, 36, .inl (fun _ => 0)), .inl (0, 36, .inl (fun _ => 0)), .inl (0, 16, .inl (fun _ => 0)), .inl (0, 16, .inl (fun _ => 0)), .inl (0, 17, .inl (fun _ => 0)), .inl (0, 17, .inl (fun _ => 0))] from rfl) ?_
  refine x_aload_n C dX9_init_68 rfl rfl ?_
  refine x_sipush (v := 800) C dX9_init_69 (by decide) ?_
  refine x_newarrI (N := 800) C dX9_init_72 o_ai (by decide) rfl (by decide) (Nat.le_of_ble_eq_true rfl) (Nat.le_of_ble_eq_true rfl) ?_
  refine x_to (x_nx_nw hM rfl) ?_
  refine x_topr (a + 9) (show M.2 + 8 = a + 9 by omega) ?_
  refine x_putfinal C dX9_init_74 gfX9_36 rfl rfl (x_ovg 0 rfl) rfl rfl (Nat.le_of_ble_eq_true rfl) ?_
  refine x_to (x_st_ov 0 (Nat.le_of_ble_eq_true rfl)) ?_
  refine x_to (show _ = x_ov (x_nx M 9) a [.inr (9, [.int 0, .int 0, .ref (a + 1), .ref (a + 2), .ref (a + 3), .ref (a + 4), .int 0, .int 0, .ref (a + 5), .ref (a + 6), .ref (a + 7), .ref (a + 8), .ref (a + 9), .int 0, .null, .int 0]), .inl (0, 8, .inl (fun _ => 0)), .inl (0, 6, .inl (fun _ => 0)), .inl (0, 36, .inl (fun _ => 0)), .inl (0, 36, .inl (fun _ => 0)), .inl (0, 16, .inl (fun _ => 0)), .inl (0, 16, .inl (fun _ => 0)), .inl (0, 17, .inl (fun _ => 0)), .inl (0, 17, .inl (fun _ => 0)), .inl (0, 800, .inl (fun _ => 0))] from rfl) ?_
  refine x_aload_n C dX9_init_77 rfl rfl ?_
  refine x_sipush (v := 400) C dX9_init_78 (by decide) ?_
  refine x_newarrI (N := 400) C dX9_init_81 o_ai (by decide) rfl (by decide) (Nat.le_of_ble_eq_true rfl) (Nat.le_of_ble_eq_true rfl) ?_
  refine x_to (x_nx_nw hM rfl) ?_
  refine x_topr (a + 10) (show M.2 + 9 = a + 10 by omega) ?_
  refine x_putfinal C dX9_init_83 gfX9_39 rfl rfl (x_ovg 0 rfl) rfl rfl (Nat.le_of_ble_eq_true rfl) ?_
  refine x_to (x_st_ov 0 (Nat.le_of_ble_eq_true rfl)) ?_
  refine x_to (show _ = x_ov (x_nx M 10) a [.inr (9, [.int 0, .int 0, .ref (a + 1), .ref (a + 2), .ref (a + 3), .ref (a + 4), .int 0, .int 0, .ref (a + 5), .ref (a + 6), .ref (a + 7), .ref (a + 8), .ref (a + 9), .int 0, .ref (a + 10), .int 0]), .inl (0, 8, .inl (fun _ => 0)), .inl (0, 6, .inl (fun _ => 0)), .inl (0, 36, .inl (fun _ => 0)), .inl (0, 36, .inl (fun _ => 0)), .inl (0, 16, .inl (fun _ => 0)), .inl (0, 16, .inl (fun _ => 0)), .inl (0, 17, .inl (fun _ => 0)), .inl (0, 17, .inl (fun _ => 0)), .inl (0, 800, .inl (fun _ => 0)), .inl (0, 400, .inl (fun _ => 0))] from rfl) ?_
  refine x_vret C E dX9_init_86 ?_
  exact ⟨rfl, rfl⟩
set_option maxHeartbeats 4000000 in
set_option maxRecDepth 100000 in
theorem c_X4_init {l : Launch} {Y0 : x_Y} (hO : x_Ok Y0) {M : x_M} {a N : Nat} (ha : x_bk M a [.inr (4, [.null])]) (hM : M.2 = a + 1) (hN : N ≤ 2000) : x_C l Y0 yX4_init cX4_init 2 none 2 1 (0 + N) [.ref a, .int (nI N)] M (fun u M1 => u = none ∧ M1 = x_ov (x_nx M 1) a (rowL a N (fun _ => 0))) := by
  refine x_start hO (by decide +kernel) (Nat.le_of_ble_eq_true rfl) (fun K C E => ?_)
  refine x_to ((x_ov_self ha).symm.trans (show x_ov M a _ = x_ov (x_nx M 0) a _ from rfl)) ?_
  refine x_aload_n C dX4_init_0 rfl rfl ?_
  refine x_objInit C dX4_init_1 oX4_1 o_i o_c (by decide) (Nat.le_of_ble_eq_true rfl) ?_
  refine x_aload_n C dX4_init_4 rfl rfl ?_
  refine x_iload_n C dX4_init_5 rfl rfl ?_
  refine x_if_ge (tgt := 13) C dX4_init_6 (by decide) (fun c6 => ?_) (fun c6 => absurd (show nI 0 ≤ nI N from nI_le (Nat.zero_le _) (by omega)) c6)
  refine x_iload_n C dX4_init_13 rfl rfl ?_
  refine x_newarrI (N := N) C dX4_init_14 o_ai (nI_pos (by omega)) (nI_clamp (by omega)) (by omega) (Nat.le_refl _) (by omega) ?_
  refine x_to (x_nx_nw hM rfl) ?_
  refine x_topr (a + 1) (show M.2 + 0 = a + 1 by omega) ?_
  refine x_putfinal C dX4_init_16 gfX4_7 rfl rfl (x_ovg 0 rfl) rfl rfl (Nat.le_of_ble_eq_true rfl) ?_
  refine x_to (x_st_ov 0 (Nat.le_of_ble_eq_true rfl)) ?_
  refine x_vret C E dX4_init_19 ?_
  exact ⟨rfl, rfl⟩
