theorem x_nx_in {M : x_M} {a k i j : Nat} {L L2 : List x_E} (hl : j + L2.length = k + 1 + i ∧ L.length = k + 1) (hj : j ≤ k + 1) : x_ov (x_nx (x_ov (x_nx M k) a L) i) (a + j) L2 = x_ov (x_nx M (k + i)) a (L.take j ++ L2) := by
  refine Prod.ext (funext fun q => ?_) (show M.2 + k + i = M.2 + (k + i) by omega)
  show (if a + j ≤ q ∧ q < a + j + L2.length then L2[q - (a + j)]? else (if a ≤ q ∧ q < a + L.length then L[q - a]? else M.1 q)) = (if a ≤ q ∧ q < a + (L.take j ++ L2).length then (L.take j ++ L2)[q - a]? else M.1 q)
  have h1 : (L.take j).length = j := by rw [List.length_take]; omega
  have hn : (L.take j ++ L2).length = j + L2.length := by rw [List.length_append, h1]
  rw [hn]
  by_cases h : a + j ≤ q ∧ q < a + j + L2.length
  · rw [if_pos h, if_pos (by omega), List.getElem?_append_right (by omega), h1, show q - a - j = q - (a + j) by omega]
  · rw [if_neg h]
    by_cases h2 : a ≤ q ∧ q < a + L.length
    · rw [if_pos h2, if_pos (by omega), List.getElem?_append_left (by omega), List.getElem?_take, if_pos (by omega)]
    · rw [if_neg h2, if_neg (by omega)]
set_option maxHeartbeats 4000000 in
set_option maxRecDepth 100000 in
theorem c_X5_init {l : Launch} {Y0 : x_Y} (hO : x_Ok Y0) {M : x_M} {a : Nat} (ha : x_bk M a [.inr (5, [.null, .int 0])]) (hM : M.2 = a + 1) : x_C l Y0 yX5_init cX5_init 1 none 3 2 2001 [.ref a] M (fun u M1 => u = none ∧ M1 = x_ov (x_nx M 2) a (tpT a 0 (fun _ => 0))) := by
  refine x_start hO (by decide +kernel) (Nat.le_of_ble_eq_true rfl) (fun K C E => ?_)
  refine x_to ((x_ov_self ha).symm.trans (show x_ov M a _ = x_ov (x_nx M 0) a _ from rfl)) ?_
  refine x_aload_n C dX5_init_0 rfl rfl ?_
  refine x_objInit C dX5_init_1 oX5_3 o_i o_c (by decide) (Nat.le_of_ble_eq_true rfl) ?_
  refine x_aload_n C dX5_init_4 rfl rfl ?_
  refine x_new C dX5_init_5 nX5_9 (Nat.le_of_ble_eq_true rfl) (Nat.le_of_ble_eq_true rfl) ?_
  refine x_to (x_nx_nw hM rfl) ?_
  refine x_topr (a + 1) (show M.2 + 0 = a + 1 by omega) ?_
  refine x_dup C dX5_init_8 rfl ?_
  refine x_sipush (v := 2000) C dX5_init_9 (by decide) ?_
  refine x_callI (As := [.int (nI 2000)]) C dX5_init_12 kX5_11 (c_X4_init (N := 2000) hO (x_bk_sub x_ov_bk 1 rfl) (show M.2 + 1 = a + 1 + 1 by omega) (by decide)) rfl rfl (by decide) ⟨Nat.le_of_ble_eq_true rfl, Nat.le_of_ble_eq_true rfl⟩ (Nat.le_of_ble_eq_true rfl) ?_
  rintro _ _ ⟨rfl, rfl⟩
  refine x_to (x_nx_in (j := 1) ⟨rfl, rfl⟩ (Nat.le_of_ble_eq_true rfl)) ?_
  refine x_to (show _ = x_ov (x_nx M 2) a [.inr (5, [.null, .int 0]), .inr (4, [.ref (a + 2)]), .inl (0, 2000, .inl (fun _ => 0))] from rfl) ?_
  refine x_putfinal C dX5_init_15 gfX5_14 rfl rfl (x_ovg 0 rfl) rfl rfl (Nat.le_of_ble_eq_true rfl) ?_
  refine x_to (x_st_ov 0 (Nat.le_of_ble_eq_true rfl)) ?_
  refine x_to (show _ = x_ov (x_nx M 2) a [.inr (5, [.ref (a + 1), .int 0]), .inr (4, [.ref (a + 2)]), .inl (0, 2000, .inl (fun _ => 0))] from rfl) ?_
  refine x_vret C E dX5_init_18 ?_
  exact ⟨rfl, rfl⟩
set_option maxHeartbeats 4000000 in
set_option maxRecDepth 100000 in
theorem c_X3_init {l : Launch} {Y0 : x_Y} (hO : x_Ok Y0) {M : x_M} {a : Nat} (ha : x_bk M a [.inr (3, [.null, .int 0])]) (hM : M.2 = a + 1) : x_C l Y0 yX3_init cX3_init 1 none 3 2 401 [.ref a] M (fun u M1 => u = none ∧ M1 = x_ov (x_nx M 2) a [.inr (3, [.ref (a + 1), .int 0]), .inr (4, [.ref (a + 1 + 1)]), .inl (0, 400, .inl (fun _ => 0))]) := by
  refine x_start hO (by decide +kernel) (Nat.le_of_ble_eq_true rfl) (fun K C E => ?_)
  refine x_to ((x_ov_self ha).symm.trans (show x_ov M a _ = x_ov (x_nx M 0) a _ from rfl)) ?_
  refine x_aload_n C dX3_init_0 rfl rfl ?_
  refine x_objInit C dX3_init_1 oX3_3 o_i o_c (by decide) (Nat.le_of_ble_eq_true rfl) ?_
  refine x_aload_n C dX3_init_4 rfl rfl ?_
  refine x_new C dX3_init_5 nX3_9 (Nat.le_of_ble_eq_true rfl) (Nat.le_of_ble_eq_true rfl) ?_
  refine x_to (x_nx_nw hM rfl) ?_
  refine x_topr (a + 1) (show M.2 + 0 = a + 1 by omega) ?_
  refine x_dup C dX3_init_8 rfl ?_
  refine x_sipush (v := 400) C dX3_init_9 (by decide) ?_
  refine x_callI (As := [.int (nI 400)]) C dX3_init_12 kX3_11 (c_X4_init (N := 400) hO (x_bk_sub x_ov_bk 1 rfl) (show M.2 + 1 = a + 1 + 1 by omega) (by decide)) rfl rfl (by decide) ⟨Nat.le_of_ble_eq_true rfl, Nat.le_of_ble_eq_true rfl⟩ (Nat.le_of_ble_eq_true rfl) ?_
  rintro _ _ ⟨rfl, rfl⟩
  refine x_to (x_nx_in (j := 1) ⟨rfl, rfl⟩ (Nat.le_of_ble_eq_true rfl)) ?_
  refine x_to (show _ = x_ov (x_nx M 2) a [.inr (3, [.null, .int 0]), .inr (4, [.ref (a + 2)]), .inl (0, 400, .inl (fun _ => 0))] from rfl) ?_
  refine x_putfinal C dX3_init_15 gfX3_14 rfl rfl (x_ovg 0 rfl) rfl rfl (Nat.le_of_ble_eq_true rfl) ?_
  refine x_to (x_st_ov 0 (Nat.le_of_ble_eq_true rfl)) ?_
  refine x_to (show _ = x_ov (x_nx M 2) a [.inr (3, [.ref (a + 1), .int 0]), .inr (4, [.ref (a + 2)]), .inl (0, 400, .inl (fun _ => 0))] from rfl) ?_
  refine x_vret C E dX3_init_18 ?_
  exact ⟨rfl, rfl⟩
set_option maxHeartbeats 4000000 in
set_option maxRecDepth 100000 in
theorem c_X2_init {l : Launch} {Y0 : x_Y} (hO : x_Ok Y0) {M : x_M} {a : Nat} (ha : x_bk M a [.inr (2, [.int 0, .int 0, .int 0, .int 0, .null, .null, .null, .null, .null, .null, .null, .null, .null, .null])]) (hM : M.2 = a + 1) : x_C l Y0 yX2_init cX2_init 1 none 3 20 960 [.ref a] M (fun u M1 => u = none ∧ M1 = x_ov (x_nx M 20) a (plT a h_zz)) := by
  refine x_start hO (by decide +kernel) (Nat.le_of_ble_eq_true rfl) (fun K C E => ?_)
  refine x_to ((x_ov_self ha).symm.trans (show x_ov M a _ = x_ov (x_nx M 0) a _ from rfl)) ?_
  refine x_aload_n C dX2_init_0 rfl rfl ?_
  refine x_objInit C dX2_init_1 oX2_3 o_i o_c (by decide) (Nat.le_of_ble_eq_true rfl) ?_
  refine x_aload_n C dX2_init_4 rfl rfl ?_
  refine x_new C dX2_init_5 nX2_9 (Nat.le_of_ble_eq_true rfl) (Nat.le_of_ble_eq_true rfl) ?_
  refine x_to (x_nx_nw hM rfl) ?_
  refine x_topr (a + 1) (show M.2 + 0 = a + 1 by omega) ?_
  refine x_dup C dX2_init_8 rfl ?_
  refine x_bipush (v := 8) C dX2_init_9 (by decide) ?_
  refine x_callI (As := [.int (nI 8)]) C dX2_init_11 kX2_11 (c_X4_init (N := 8) hO (x_bk_sub x_ov_bk 1 rfl) (show M.2 + 1 = a + 1 + 1 by omega) (by decide)) rfl rfl (by decide) ⟨Nat.le_of_ble_eq_true rfl, Nat.le_of_ble_eq_true rfl⟩ (Nat.le_of_ble_eq_true rfl) ?_
  rintro _ _ ⟨rfl, rfl⟩
  refine x_to (x_nx_in (j := 1) ⟨rfl, rfl⟩ (Nat.le_of_ble_eq_true rfl)) ?_
  refine x_to (show _ = x_ov (x_nx M 2) a [.inr (2, [.int 0, .int 0, .int 0, .int 0, .null, .null, .null, .null, .null, .null, .null, .null, .null, .null]), .inr (4, [.ref (a + 2)]), .inl (0, 8, .inl (fun _ => 0))] from rfl) ?_
  refine x_putfinal C dX2_init_14 gfX2_14 rfl rfl (x_ovg 0 rfl) rfl rfl (Nat.le_of_ble_eq_true rfl) ?_
  refine x_to (x_st_ov 0 (Nat.le_of_ble_eq_true rfl)) ?_
  refine x_to (show _ = x_ov (x_nx M 2) a [.inr (2, [.int 0, .int 0, .int 0, .int 0, .ref (a + 1), .null, .null, .null, .null, .null, .null, .null, .null, .null]), .inr (4, [.ref (a + 2)]), .inl (0, 8, .inl (fun _ => 0))] from rfl) ?_
  refine x_aload_n C dX2_init_17 rfl rfl ?_
  refine x_new C dX2_init_18 nX2_9 (Nat.le_of_ble_eq_true rfl) (Nat.le_of_ble_eq_true rfl) ?_
  refine x_to (x_nx_nw hM rfl) ?_
  refine x_topr (a + 3) (show M.2 + 2 = a + 3 by omega) ?_
  refine x_dup C dX2_init_21 rfl ?_
  refine x_bipush (v := 6) C dX2_init_22 (by decide) ?_
  refine x_callI (As := [.int (nI 6)]) C dX2_init_24 kX2_11 (c_X4_init (N := 6) hO (x_bk_sub x_ov_bk 3 rfl) (show M.2 + 3 = a + 3 + 1 by omega) (by decide)) rfl rfl (by decide) ⟨Nat.le_of_ble_eq_true rfl, Nat.le_of_ble_eq_true rfl⟩ (Nat.le_of_ble_eq_true rfl) ?_
  rintro _ _ ⟨rfl, rfl⟩
  refine x_to (x_nx_in (j := 3) ⟨rfl, rfl⟩ (Nat.le_of_ble_eq_true rfl)) ?_
  refine x_to (show _ = x_ov (x_nx M 4) a [.inr (2, [.int 0, .int 0, .int 0, .int 0, .ref (a + 1), .null, .null, .null, .null, .null, .null, .null, .null, .null]), .inr (4, [.ref (a + 2)]), .inl (0, 8, .inl (fun _ => 0)), .inr (4, [.ref (a + 4)]), .inl (0, 6, .inl (fun _ => 0))] from rfl) ?_
  refine x_putfinal C dX2_init_27 gfX2_20 rfl rfl (x_ovg 0 rfl) rfl rfl (Nat.le_of_ble_eq_true rfl) ?_
  refine x_to (x_st_ov 0 (Nat.le_of_ble_eq_true rfl)) ?_
  refine x_to (show _ = x_ov (x_nx M 4) a [.inr (2, [.int 0, .int 0, .int 0, .int 0, .ref (a + 1), .ref (a + 3), .null, .null, .null, .null, .null, .null, .null, .null]), .inr (4, [.ref (a + 2)]), .inl (0, 8, .inl (fun _ => 0)), .inr (4, [.ref (a + 4)]), .inl (0, 6, .inl (fun _ => 0))] from rfl) ?_
  refine x_aload_n C dX2_init_30 rfl rfl ?_
  refine x_new C dX2_init_31 nX2_9 (Nat.le_of_ble_eq_true rfl) (Nat.le_of_ble_eq_true rfl) ?_
  refine x_to (x_nx_nw hM rfl) ?_
  refine x_topr (a + 5) (show M.2 + 4 = a + 5 by omega) ?_
  refine x_dup C dX2_init_34 rfl ?_
  refine x_bipush (v := 36) C dX2_init_35 (by decide) ?_
  refine x_callI (As := [.int (nI 36)]) C dX2_init_37 kX2_11 (c_X4_init (N := 36) hO (x_bk_sub x_ov_bk 5 rfl) (show M.2 + 5 = a + 5 + 1 by omega) (by decide)) rfl rfl (by decide) ⟨Nat.le_of_ble_eq_true rfl, Nat.le_of_ble_eq_true rfl⟩ (Nat.le_of_ble_eq_true rfl) ?_
  rintro _ _ ⟨rfl, rfl⟩
  refine x_to (x_nx_in (j := 5) ⟨rfl, rfl⟩ (Nat.le_of_ble_eq_true rfl)) ?_
  refine x_to (show _ = x_ov (x_nx M 6) a [.inr (2, [.int 0, .int 0, .int 0, .int 0, .ref (a + 1), .ref (a + 3), .null, .null, .null, .null, .null, .null, .null, .null]), .inr (4, [.ref (a + 2)]), .inl (0, 8, .inl (fun _ => 0)), .inr (4, [.ref (a + 4)]), .inl (0, 6, .inl (fun _ => 0)), .inr (4, [.ref (a + 6)]), .inl (0, 36, .inl (fun _ => 0))] from rfl) ?_
  refine x_putfinal C dX2_init_40 gfX2_23 rfl rfl (x_ovg 0 rfl) rfl rfl (Nat.le_of_ble_eq_true rfl) ?_
  refine x_to (x_st_ov 0 (Nat.le_of_ble_eq_true rfl)) ?_
  refine x_to (show _ = x_ov (x_nx M 6) a [.inr (2, [.int 0, .int 0, .int 0, .int 0, .ref (a + 1), .ref (a + 3), .ref (a + 5), .null, .null, .null, .null, .null, .null, .null]), .inr (4, [.ref (a + 2)]), .inl (0, 8, .inl (fun _ => 0)), .inr (4, [.ref (a + 4)]), .inl (0, 6, .inl (fun _ => 0)), .inr (4, [.ref (a + 6)]), .inl (0, 36, .inl (fun _ => 0))] from rfl) ?_
  refine x_aload_n C dX2_init_43 rfl rfl ?_
  refine x_new C dX2_init_44 nX2_9 (Nat.le_of_ble_eq_true rfl) (Nat.le_of_ble_eq_true rfl) ?_
  refine x_to (x_nx_nw hM rfl) ?_
  refine x_topr (a + 7) (show M.2 + 6 = a + 7 by omega) ?_
  refine x_dup C dX2_init_47 rfl ?_
  refine x_bipush (v := 36) C dX2_init_48 (by decide) ?_
  refine x_callI (As := [.int (nI 36)]) C dX2_init_50 kX2_11 (c_X4_init (N := 36) hO (x_bk_sub x_ov_bk 7 rfl) (show M.2 + 7 = a + 7 + 1 by omega) (by decide)) rfl rfl (by decide) ⟨Nat.le_of_ble_eq_true rfl, Nat.le_of_ble_eq_true rfl⟩ (Nat.le_of_ble_eq_true rfl) ?_
  rintro _ _ ⟨rfl, rfl⟩
  refine x_to (x_nx_in (j := 7) ⟨rfl, rfl⟩ (Nat.le_of_ble_eq_true rfl)) ?_
  refine x_to (show _ = x_ov (x_nx M 8) a [.inr (2, [.int 0, .int 0, .int 0, .int 0, .ref (a + 1), .ref (a + 3), .ref (a + 5), .null, .null, .null, .null, .null, .null, .null]), .inr (4, [.ref (a + 2)]), .inl (0, 8, .inl (fun _ => 0)), .inr (4, [.ref (a + 4)]), .inl (0, 6, .inl (fun _ => 0)), .inr (4, [.ref (a + 6)]), .inl (0, 36, .inl (fun _ => 0)), .inr (4, [.ref (a + 8)]), .inl (0, 36, .inl (fun _ => 0))] from rfl) ?_
  refine x_putfinal C dX2_init_53 gfX2_26 rfl rfl (x_ovg 0 rfl) rfl rfl (Nat.le_of_ble_eq_true rfl) ?_
  refine x_to (x_st_ov 0 (Nat.le_of_ble_eq_true rfl)) ?_
  refine x_to (show _ = x_ov (x_nx M 8) a [.inr (2, [.int 0, .int 0, .int 0, .int 0, .ref (a + 1), .ref (a + 3), .ref (a + 5), .ref (a + 7), .null, .null, .null, .null, .null, .null]), .inr (4, [.ref (a + 2)]), .inl (0, 8, .inl (fun _ => 0)), .inr (4, [.ref (a + 4)]), .inl (0, 6, .inl (fun _ => 0)), .inr (4, [.ref (a + 6)]), .inl (0, 36, .inl (fun _ => 0)), .inr (4, [.ref (a + 8)]), .inl (0, 36, .inl (fun _ => 0))] from rfl) ?_
  refine x_aload_n C dX2_init_56 rfl rfl ?_
  refine x_new C dX2_init_57 nX2_9 (Nat.le_of_ble_eq_true rfl) (Nat.le_of_ble_eq_true rfl) ?_
  refine x_to (x_nx_nw hM rfl) ?_
  refine x_topr (a + 9) (show M.2 + 8 = a + 9 by omega) ?_
  refine x_dup C dX2_init_60 rfl ?_
  refine x_bipush (v := 16) C dX2_init_61 (by decide) ?_
  refine x_callI (As := [.int (nI 16)]) C dX2_init_63 kX2_11 (c_X4_init (N := 16) hO (x_bk_sub x_ov_bk 9 rfl) (show M.2 + 9 = a + 9 + 1 by omega) (by decide)) rfl rfl (by decide) ⟨Nat.le_of_ble_eq_true rfl, Nat.le_of_ble_eq_true rfl⟩ (Nat.le_of_ble_eq_true rfl) ?_
  rintro _ _ ⟨rfl, rfl⟩
  refine x_to (x_nx_in (j := 9) ⟨rfl, rfl⟩ (Nat.le_of_ble_eq_true rfl)) ?_
  refine x_to (show _ = x_ov (x_nx M 10) a [.inr (2, [.int 0, .int 0, .int 0, .int 0, .ref (a + 1), .ref (a + 3), .ref (a + 5), .ref (a + 7), .null, .null, .null, .null, .null, .null]), .inr (4, [.ref (a + 2)]), .inl (0, 8, .inl (fun _ => 0)), .inr (4, [.ref (a + 4)]), .inl (0, 6, .inl (fun _ => 0)), .inr (4, [.ref (a + 6)]), .inl (0, 36, .inl (fun _ => 0)), .inr (4, [.ref (a + 8)]), .inl (0, 36, .inl (fun _ => 0)), .inr (4, [.ref (a + 10)]), .inl (0, 16, .inl (fun _ => 0))] from rfl) ?_
  refine x_putfinal C dX2_init_66 gfX2_29 rfl rfl (x_ovg 0 rfl) rfl rfl (Nat.le_of_ble_eq_true rfl) ?_
  refine x_to (x_st_ov 0 (Nat.le_of_ble_eq_true rfl)) ?_
  refine x_to (show _ = x_ov (x_nx M 10) a [.inr (2, [.int 0, .int 0, .int 0, .int 0, .ref (a + 1), .ref (a + 3), .ref (a + 5), .ref (a + 7), .ref (a + 9), .null, .null, .null, .null, .null]), .inr (4, [.ref (a + 2)]), .inl (0, 8, .inl (fun _ => 0)), .inr (4, [.ref (a + 4)]), .inl (0, 6, .inl (fun _ => 0)), .inr (4, [.ref (a + 6)]), .inl (0, 36, .inl (fun _ => 0)), .inr (4, [.ref (a + 8)]), .inl (0, 36, .inl (fun _ => 0)), .inr (4, [.ref (a + 10)]), .inl (0, 16, .inl (fun _ => 0))] from rfl) ?_
  refine x_aload_n C dX2_init_69 rfl rfl ?_
  refine x_new C dX2_init_70 nX2_9 (Nat.le_of_ble_eq_true rfl) (Nat.le_of_ble_eq_true rfl) ?_
  refine x_to (x_nx_nw hM rfl) ?_
  refine x_topr (a + 11) (show M.2 + 10 = a + 11 by omega) ?_
  refine x_dup C dX2_init_73 rfl ?_
  refine x_bipush (v := 16) C dX2_init_74 (by decide) ?_
  refine x_callI (As := [.int (nI 16)]) C dX2_init_76 kX2_11 (c_X4_init (N := 16) hO (x_bk_sub x_ov_bk 11 rfl) (show M.2 + 11 = a + 11 + 1 by omega) (by decide)) rfl rfl (by decide) ⟨Nat.le_of_ble_eq_true rfl, Nat.le_of_ble_eq_true rfl⟩ (Nat.le_of_ble_eq_true rfl) ?_
  rintro _ _ ⟨rfl, rfl⟩
  refine x_to (x_nx_in (j := 11) ⟨rfl, rfl⟩ (Nat.le_of_ble_eq_true rfl)) ?_
  refine x_to (show _ = x_ov (x_nx M 12) a [.inr (2, [.int 0, .int 0, .int 0, .int 0, .ref (a + 1), .ref (a + 3), .ref (a + 5), .ref (a + 7), .ref (a + 9), .null, .null, .null, .null, .null]), .inr (4, [.ref (a + 2)]), .inl (0, 8, .inl (fun _ => 0)), .inr (4, [.ref (a + 4)]), .inl (0, 6, .inl (fun _ => 0)), .inr (4, [.ref (a + 6)]), .inl (0, 36, .inl (fun _ => 0)), .inr (4, [.ref (a + 8)]), .inl (0, 36, .inl (fun _ => 0)), .inr (4, [.ref (a + 10)]), .inl (0, 16, .inl (fun _ => 0)), .inr (4, [.ref (a + 12)]), .inl (0, 16, .inl (fun _ => 0))] from rfl) ?_
  refine x_putfinal C dX2_init_79 gfX2_32 rfl rfl (x_ovg 0 rfl) rfl rfl (Nat.le_of_ble_eq_true rfl) ?_
  refine x_to (x_st_ov 0 (Nat.le_of_ble_eq_true rfl)) ?_
  refine x_to (show _ = x_ov (x_nx M 12) a [.inr (2, [.int 0, .int 0, .int 0, .int 0, .ref (a + 1), .ref (a + 3), .ref (a + 5), .ref (a + 7), .ref (a + 9), .ref (a + 11), .null, .null, .null, .null]), .inr (4, [.ref (a + 2)]), .inl (0, 8, .inl (fun _ => 0)), .inr (4, [.ref (a + 4)]), .inl (0, 6, .inl (fun _ => 0)), .inr (4, [.ref (a + 6)]), .inl (0, 36, .inl (fun _ => 0)), .inr (4, [.ref (a + 8)]), .inl (0, 36, .inl (fun _ => 0)), .inr (4, [.ref (a + 10)]), .inl (0, 16, .inl (fun _ => 0)), .inr (4, [.ref (a + 12)]), .inl (0, 16, .inl (fun _ => 0))] from rfl) ?_
  refine x_aload_n C dX2_init_82 rfl rfl ?_
  refine x_new C dX2_init_83 nX2_9 (Nat.le_of_ble_eq_true rfl) (Nat.le_of_ble_eq_true rfl) ?_
  refine x_to (x_nx_nw hM rfl) ?_
  refine x_topr (a + 13) (show M.2 + 12 = a + 13 by omega) ?_
  refine x_dup C dX2_init_86 rfl ?_
  refine x_bipush (v := 16) C dX2_init_87 (by decide) ?_
  refine x_callI (As := [.int (nI 16)]) C dX2_init_89 kX2_11 (c_X4_init (N := 16) hO (x_bk_sub x_ov_bk 13 rfl) (show M.2 + 13 = a + 13 + 1 by omega) (by decide)) rfl rfl (by decide) ⟨Nat.le_of_ble_eq_true rfl, Nat.le_of_ble_eq_true rfl⟩ (Nat.le_of_ble_eq_true rfl) ?_
  rintro _ _ ⟨rfl, rfl⟩
  refine x_to (x_nx_in (j := 13) ⟨rfl, rfl⟩ (Nat.le_of_ble_eq_true rfl)) ?_
  refine x_to (show _ = x_ov (x_nx M 14) a [.inr (2, [.int 0, .int 0, .int 0, .int 0, .ref (a + 1), .ref (a + 3), .ref (a + 5), .ref (a + 7), .ref (a + 9), .ref (a + 11), .null, .null, .null, .null]), .inr (4, [.ref (a + 2)]), .inl (0, 8, .inl (fun _ => 0)), .inr (4, [.ref (a + 4)]), .inl (0, 6, .inl (fun _ => 0)), .inr (4, [.ref (a + 6)]), .inl (0, 36, .inl (fun _ => 0)), .inr (4, [.ref (a + 8)]), .inl (0, 36, .inl (fun _ => 0)), .inr (4, [.ref (a + 10)]), .inl (0, 16, .inl (fun _ => 0)), .inr (4, [.ref (a + 12)]), .inl (0, 16, .inl (fun _ => 0)), .inr (4, [.ref (a + 14)]), .inl (0, 16, .inl (fun _ => 0))] from rfl) ?_
  refine x_putfinal C dX2_init_92 gfX2_35 rfl rfl (x_ovg 0 rfl) rfl rfl (Nat.le_of_ble_eq_true rfl) ?_
  refine x_to (x_st_ov 0 (Nat.le_of_ble_eq_true rfl)) ?_
  refine x_to (show _ = x_ov (x_nx M 14) a [.inr (2, [.int 0, .int 0, .int 0, .int 0, .ref (a + 1), .ref (a + 3), .ref (a + 5), .ref (a + 7), .ref (a + 9), .ref (a + 11), .ref (a + 13), .null, .null, .null]), .inr (4, [.ref (a + 2)]), .inl (0, 8, .inl (fun _ => 0)), .inr (4, [.ref (a + 4)]), .inl (0, 6, .inl (fun _ => 0)), .inr (4, [.ref (a + 6)]), .inl (0, 36, .inl (fun _ => 0)), .inr (4, [.ref (a + 8)]), .inl (0, 36, .inl (fun _ => 0)), .inr (4, [.ref (a + 10)]), .inl (0, 16, .inl (fun _ => 0)), .inr (4, [.ref (a + 12)]), .inl (0, 16, .inl (fun _ => 0)), .inr (4, [.ref (a + 14)]), .inl (0, 16, .inl (fun _ => 0))] from rfl) ?_
  refine x_aload_n C dX2_init_95 rfl rfl ?_
  refine x_new C dX2_init_96 nX2_9 (Nat.le_of_ble_eq_true rfl) (Nat.le_of_ble_eq_true rfl) ?_
  refine x_to (x_nx_nw hM rfl) ?_
  refine x_topr (a + 15) (show M.2 + 14 = a + 15 by omega) ?_
  refine x_dup C dX2_init_99 rfl ?_
  refine x_bipush (v := 16) C dX2_init_100 (by decide) ?_
  refine x_callI (As := [.int (nI 16)]) C dX2_init_102 kX2_11 (c_X4_init (N := 16) hO (x_bk_sub x_ov_bk 15 rfl) (show M.2 + 15 = a + 15 + 1 by omega) (by decide)) rfl rfl (by decide) ⟨Nat.le_of_ble_eq_true rfl, Nat.le_of_ble_eq_true rfl⟩ (Nat.le_of_ble_eq_true rfl) ?_
  rintro _ _ ⟨rfl, rfl⟩
  refine x_to (x_nx_in (j := 15) ⟨rfl, rfl⟩ (Nat.le_of_ble_eq_true rfl)) ?_
  refine x_to (show _ = x_ov (x_nx M 16) a [.inr (2, [.int 0, .int 0, .int 0, .int 0, .ref (a + 1), .ref (a + 3), .ref (a + 5), .ref (a + 7), .ref (a + 9), .ref (a + 11), .ref (a + 13), .null, .null, .null]), .inr (4, [.ref (a + 2)]), .inl (0, 8, .inl (fun _ => 0)), .inr (4, [.ref (a + 4)]), .inl (0, 6, .inl (fun _ => 0)), .inr (4, [.ref (a + 6)]), .inl (0, 36, .inl (fun _ => 0)), .inr (4, [.ref (a + 8)]), .inl (0, 36, .inl (fun _ => 0)), .inr (4, [.ref (a + 10)]), .inl (0, 16, .inl (fun _ => 0)), .inr (4, [.ref (a + 12)]), .inl (0, 16, .inl (fun _ => 0)), .inr (4, [.ref (a + 14)]), .inl (0, 16, .inl (fun _ => 0)), .inr (4, [.ref (a + 16)]), .inl (0, 16, .inl (fun _ => 0))] from rfl) ?_
  refine x_putfinal C dX2_init_105 gfX2_38 rfl rfl (x_ovg 0 rfl) rfl rfl (Nat.le_of_ble_eq_true rfl) ?_
  refine x_to (x_st_ov 0 (Nat.le_of_ble_eq_true rfl)) ?_
  refine x_to (show _ = x_ov (x_nx M 16) a [.inr (2, [.int 0, .int 0, .int 0, .int 0, .ref (a + 1), .ref (a + 3), .ref (a + 5), .ref (a + 7), .ref (a + 9), .ref (a + 11), .ref (a + 13), .ref (a + 15), .null, .null]), .inr (4, [.ref (a + 2)]), .inl (0, 8, .inl (fun _ => 0)), .inr (4, [.ref (a + 4)]), .inl (0, 6, .inl (fun _ => 0)), .inr (4, [.ref (a + 6)]), .inl (0, 36, .inl (fun _ => 0)), .inr (4, [.ref (a + 8)]), .inl (0, 36, .inl (fun _ => 0)), .inr (4, [.ref (a + 10)]), .inl (0, 16, .inl (fun _ => 0)), .inr (4, [.ref (a + 12)]), .inl (0, 16, .inl (fun _ => 0)), .inr (4, [.ref (a + 14)]), .inl (0, 16, .inl (fun _ => 0)), .inr (4, [.ref (a + 16)]), .inl (0, 16, .inl (fun _ => 0))] from rfl) ?_
  refine x_aload_n C dX2_init_108 rfl rfl ?_
  refine x_new C dX2_init_109 nX2_9 (Nat.le_of_ble_eq_true rfl) (Nat.le_of_ble_eq_true rfl) ?_
  refine x_to (x_nx_nw hM rfl) ?_
  refine x_topr (a + 17) (show M.2 + 16 = a + 17 by omega) ?_
  refine x_dup C dX2_init_112 rfl ?_
  refine x_sipush (v := 400) C dX2_init_113 (by decide) ?_
  refine x_callI (As := [.int (nI 400)]) C dX2_init_116 kX2_11 (c_X4_init (N := 400) hO (x_bk_sub x_ov_bk 17 rfl) (show M.2 + 17 = a + 17 + 1 by omega) (by decide)) rfl rfl (by decide) ⟨Nat.le_of_ble_eq_true rfl, Nat.le_of_ble_eq_true rfl⟩ (Nat.le_of_ble_eq_true rfl) ?_
  rintro _ _ ⟨rfl, rfl⟩
  refine x_to (x_nx_in (j := 17) ⟨rfl, rfl⟩ (Nat.le_of_ble_eq_true rfl)) ?_
  refine x_to (show _ = x_ov (x_nx M 18) a [.inr (2, [.int 0, .int 0, .int 0, .int 0, .ref (a + 1), .ref (a + 3), .ref (a + 5), .ref (a + 7), .ref (a + 9), .ref (a + 11), .ref (a + 13), .ref (a + 15), .null, .null]), .inr (4, [.ref (a + 2)]), .inl (0, 8, .inl (fun _ => 0)), .inr (4, [.ref (a + 4)]), .inl (0, 6, .inl (fun _ => 0)), .inr (4, [.ref (a + 6)]), .inl (0, 36, .inl (fun _ => 0)), .inr (4, [.ref (a + 8)]), .inl (0, 36, .inl (fun _ => 0)), .inr (4, [.ref (a + 10)]), .inl (0, 16, .inl (fun _ => 0)), .inr (4, [.ref (a + 12)]), .inl (0, 16, .inl (fun _ => 0)), .inr (4, [.ref (a + 14)]), .inl (0, 16, .inl (fun _ => 0)), .inr (4, [.ref (a + 16)]), .inl (0, 16, .inl (fun _ => 0)), .inr (4, [.ref (a + 18)]), .inl (0, 400, .inl (fun _ => 0))] from rfl) ?_
  refine x_putfinal C dX2_init_119 gfX2_41 rfl rfl (x_ovg 0 rfl) rfl rfl (Nat.le_of_ble_eq_true rfl) ?_
  refine x_to (x_st_ov 0 (Nat.le_of_ble_eq_true rfl)) ?_
  refine x_to (show _ = x_ov (x_nx M 18) a [.inr (2, [.int 0, .int 0, .int 0, .int 0, .ref (a + 1), .ref (a + 3), .ref (a + 5), .ref (a + 7), .ref (a + 9), .ref (a + 11), .ref (a + 13), .ref (a + 15), .ref (a + 17), .null]), .inr (4, [.ref (a + 2)]), .inl (0, 8, .inl (fun _ => 0)), .inr (4, [.ref (a + 4)]), .inl (0, 6, .inl (fun _ => 0)), .inr (4, [.ref (a + 6)]), .inl (0, 36, .inl (fun _ => 0)), .inr (4, [.ref (a + 8)]), .inl (0, 36, .inl (fun _ => 0)), .inr (4, [.ref (a + 10)]), .inl (0, 16, .inl (fun _ => 0)), .inr (4, [.ref (a + 12)]), .inl (0, 16, .inl (fun _ => 0)), .inr (4, [.ref (a + 14)]), .inl (0, 16, .inl (fun _ => 0)), .inr (4, [.ref (a + 16)]), .inl (0, 16, .inl (fun _ => 0)), .inr (4, [.ref (a + 18)]), .inl (0, 400, .inl (fun _ => 0))] from rfl) ?_
  refine x_aload_n C dX2_init_122 rfl rfl ?_
  refine x_new C dX2_init_123 nX2_9 (Nat.le_of_ble_eq_true rfl) (Nat.le_of_ble_eq_true rfl) ?_
  refine x_to (x_nx_nw hM rfl) ?_
  refine x_topr (a + 19) (show M.2 + 18 = a + 19 by omega) ?_
  refine x_dup C dX2_init_126 rfl ?_
  refine x_sipush (v := 400) C dX2_init_127 (by decide) ?_
  refine x_callI (As := [.int (nI 400)]) C dX2_init_130 kX2_11 (c_X4_init (N := 400) hO (x_bk_sub x_ov_bk 19 rfl) (show M.2 + 19 = a + 19 + 1 by omega) (by decide)) rfl rfl (by decide) ⟨Nat.le_of_ble_eq_true rfl, Nat.le_of_ble_eq_true rfl⟩ (Nat.le_of_ble_eq_true rfl) ?_
  rintro _ _ ⟨rfl, rfl⟩
  refine x_to (x_nx_in (j := 19) ⟨rfl, rfl⟩ (Nat.le_of_ble_eq_true rfl)) ?_
  refine x_to (show _ = x_ov (x_nx M 20) a [.inr (2, [.int 0, .int 0, .int 0, .int 0, .ref (a + 1), .ref (a + 3), .ref (a + 5), .ref (a + 7), .ref (a + 9), .ref (a + 11), .ref (a + 13), .ref (a + 15), .ref (a + 17), .null]), .inr (4, [.ref (a + 2)]), .inl (0, 8, .inl (fun _ => 0)), .inr (4, [.ref (a + 4)]), .inl (0, 6, .inl (fun _ => 0)), .inr (4, [.ref (a + 6)]), .inl (0, 36, .inl (fun _ => 0)), .inr (4, [.ref (a + 8)]), .inl (0, 36, .inl (fun _ => 0)), .inr (4, [.ref (a + 10)]), .inl (0, 16, .inl (fun _ => 0)), .inr (4, [.ref (a + 12)]), .inl (0, 16, .inl (fun _ => 0)), .inr (4, [.ref (a + 14)]), .inl (0, 16, .inl (fun _ => 0)), .inr (4, [.ref (a + 16)]), .inl (0, 16, .inl (fun _ => 0)), .inr (4, [.ref (a + 18)]), .inl (0, 400, .inl (fun _ => 0)), .inr (4, [.ref (a + 20)]), .inl (0, 400, .inl (fun _ => 0))] from rfl) ?_
  refine x_putfinal C dX2_init_133 gfX2_44 rfl rfl (x_ovg 0 rfl) rfl rfl (Nat.le_of_ble_eq_true rfl) ?_
  refine x_to (x_st_ov 0 (Nat.le_of_ble_eq_true rfl)) ?_
  refine x_to (show _ = x_ov (x_nx M 20) a [.inr (2, [.int 0, .int 0, .int 0, .int 0, .ref (a + 1), .ref (a + 3), .ref (a + 5), .ref (a + 7), .ref (a + 9), .ref (a + 11), .ref (a + 13), .ref (a + 15), .ref (a + 17), .ref (a + 19)]), .inr (4, [.ref (a + 2)]), .inl (0, 8, .inl (fun _ => 0)), .inr (4, [.ref (a + 4)]), .inl (0, 6, .inl (fun _ => 0)), .inr (4, [.ref (a + 6)]), .inl (0, 36, .inl (fun _ => 0)), .inr (4, [.ref (a + 8)]), .inl (0, 36, .inl (fun _ => 0)), .inr (4, [.ref (a + 10)]), .inl (0, 16, .inl (fun _ => 0)), .inr (4, [.ref (a + 12)]), .inl (0, 16, .inl (fun _ => 0)), .inr (4, [.ref (a + 14)]), .inl (0, 16, .inl (fun _ => 0)), .inr (4, [.ref (a + 16)]), .inl (0, 16, .inl (fun _ => 0)), .inr (4, [.ref (a + 18)]), .inl (0, 400, .inl (fun _ => 0)), .inr (4, [.ref (a + 20)]), .inl (0, 400, .inl (fun _ => 0))] from rfl) ?_
  refine x_vret C E dX2_init_136 ?_
  exact ⟨rfl, rfl⟩
