theorem k_KW_ok : kw_ok k_KW := by unfold kw_ok; decide +kernel
/-- a Teacher's cells when it has been made: at a, over the draft at dr and the tape at tp -/
def teN (a dr tp : Nat) : List x_E :=
  [.inr (6, [.ref (a + 5), .ref dr, .ref (a + 1), .ref (a + 3), .int 0, .int 0, .int 0]), .inr (1, [.ref (a + 2), .int 0]), .inl (1, 8, .inr (.inl (fun _ => 0))), .inr (1, [.ref (a + 4), .int 0]), .inl (1, 6, .inr (.inl (fun _ => 0))),
   .inr (7, [.ref tp, .ref (a + 6), .ref (a + 7), .ref (a + 8), .ref (a + 9), .int 0, .long 0, .int 0, .int 0, .int 0, .long 0]), .inl (1, 22, .inr (.inl k_KW)), .inl (0, 401, .inl (fun _ => 0)), .inl (0, 401, .inl (fun _ => 0)), .inl (1, 401, .inr (.inl (fun _ => 0)))]
set_option maxHeartbeats 4000000 in
set_option maxRecDepth 100000 in
theorem c_X6_init {l : Launch} {Y0 : x_Y} (hO : x_Ok Y0) {M : x_M} {a dr tp : Nat} (ha : x_bk M a [.inr (6, [.null, .null, .null, .null, .int 0, .int 0, .int 0])]) (hM : M.2 = a + 1) (hc : x_Stc Y0) {qk tk : Nat} (hZ : vk_R RX7 29 "drone honey deal moves gives gets begin crash wake queen when day done blocked waits of awake not and or min max" qk Y0.1) (hS : x_Str Y0 qk tk k_KT) : x_C l Y0 yX6_init cX6_init 3 none 6 9 1254 [.ref a, .ref tp, .ref dr] M (fun u M1 => u = none ∧ M1 = x_ov (x_nx M 9) a (teN a dr tp)) := by
  refine x_start hO (by decide +kernel) (Nat.le_of_ble_eq_true rfl) (fun K C E => ?_)
  refine x_to ((x_ov_self ha).symm.trans (show x_ov M a _ = x_ov (x_nx M 0) a _ from rfl)) ?_
  refine x_aload_n C dX6_init_0 rfl rfl ?_
  refine x_objInit C dX6_init_1 oX6_3 o_i o_c (by decide) (Nat.le_of_ble_eq_true rfl) ?_
  refine x_aload_n C dX6_init_4 rfl rfl ?_
  refine x_new C dX6_init_5 nX6_9 (Nat.le_of_ble_eq_true rfl) (Nat.le_of_ble_eq_true rfl) ?_
  refine x_to (x_nx_nw hM rfl) ?_
  refine x_topr (a + 1) (show M.2 + 0 = a + 1 by omega) ?_
  refine x_dup C dX6_init_8 rfl ?_
  refine x_bipush (v := 8) C dX6_init_9 (by decide) ?_
  refine x_callI (As := [.int (nI 8)]) C dX6_init_11 kX6_11 (c_X1_init (N := 8) hO (x_bk_sub x_ov_bk 1 rfl) (show M.2 + 1 = a + 1 + 1 by omega) (by decide)) rfl rfl (by decide) ⟨Nat.le_of_ble_eq_true rfl, Nat.le_of_ble_eq_true rfl⟩ (Nat.le_of_ble_eq_true rfl) ?_
  rintro _ _ ⟨rfl, rfl⟩
  refine x_to (x_nx_in (j := 1) ⟨rfl, rfl⟩ (Nat.le_of_ble_eq_true rfl)) ?_
  refine x_to (show _ = x_ov (x_nx M 2) a [.inr (6, [.null, .null, .null, .null, .int 0, .int 0, .int 0]), .inr (1, [.ref (a + 2), .int 0]), .inl (1, 8, .inr (.inl (fun _ => 0)))] from rfl) ?_
  refine x_putfinal C dX6_init_14 gfX6_14 rfl rfl (x_ovg 0 rfl) rfl rfl (Nat.le_of_ble_eq_true rfl) ?_
  refine x_to (x_st_ov 0 (Nat.le_of_ble_eq_true rfl)) ?_
  refine x_to (show _ = x_ov (x_nx M 2) a [.inr (6, [.null, .null, .ref (a + 1), .null, .int 0, .int 0, .int 0]), .inr (1, [.ref (a + 2), .int 0]), .inl (1, 8, .inr (.inl (fun _ => 0)))] from rfl) ?_
  refine x_aload_n C dX6_init_17 rfl rfl ?_
  refine x_new C dX6_init_18 nX6_9 (Nat.le_of_ble_eq_true rfl) (Nat.le_of_ble_eq_true rfl) ?_
  refine x_to (x_nx_nw hM rfl) ?_
  refine x_topr (a + 3) (show M.2 + 2 = a + 3 by omega) ?_
  refine x_dup C dX6_init_21 rfl ?_
  refine x_bipush (v := 6) C dX6_init_22 (by decide) ?_
  refine x_callI (As := [.int (nI 6)]) C dX6_init_24 kX6_11 (c_X1_init (N := 6) hO (x_bk_sub x_ov_bk 3 rfl) (show M.2 + 3 = a + 3 + 1 by omega) (by decide)) rfl rfl (by decide) ⟨Nat.le_of_ble_eq_true rfl, Nat.le_of_ble_eq_true rfl⟩ (Nat.le_of_ble_eq_true rfl) ?_
  rintro _ _ ⟨rfl, rfl⟩
  refine x_to (x_nx_in (j := 3) ⟨rfl, rfl⟩ (Nat.le_of_ble_eq_true rfl)) ?_
  refine x_to (show _ = x_ov (x_nx M 4) a [.inr (6, [.null, .null, .ref (a + 1), .null, .int 0, .int 0, .int 0]), .inr (1, [.ref (a + 2), .int 0]), .inl (1, 8, .inr (.inl (fun _ => 0))), .inr (1, [.ref (a + 4), .int 0]), .inl (1, 6, .inr (.inl (fun _ => 0)))] from rfl) ?_
  refine x_putfinal C dX6_init_27 gfX6_20 rfl rfl (x_ovg 0 rfl) rfl rfl (Nat.le_of_ble_eq_true rfl) ?_
  refine x_to (x_st_ov 0 (Nat.le_of_ble_eq_true rfl)) ?_
  refine x_to (show _ = x_ov (x_nx M 4) a [.inr (6, [.null, .null, .ref (a + 1), .ref (a + 3), .int 0, .int 0, .int 0]), .inr (1, [.ref (a + 2), .int 0]), .inl (1, 8, .inr (.inl (fun _ => 0))), .inr (1, [.ref (a + 4), .int 0]), .inl (1, 6, .inr (.inl (fun _ => 0)))] from rfl) ?_
  refine x_aload_n C dX6_init_30 rfl rfl ?_
  refine x_new C dX6_init_31 nX6_23 (Nat.le_of_ble_eq_true rfl) (Nat.le_of_ble_eq_true rfl) ?_
  refine x_to (x_nx_nw hM rfl) ?_
  refine x_topr (a + 5) (show M.2 + 4 = a + 5 by omega) ?_
  refine x_dup C dX6_init_34 rfl ?_
  refine x_aload_n C dX6_init_35 rfl rfl ?_
  refine x_callI (As := [.ref tp]) C dX6_init_36 kX6_25 (c_X7_init hO (x_bk_sub x_ov_bk 5 rfl) (show M.2 + 5 = a + 5 + 1 by omega) hc hZ hS) rfl rfl (by decide) ⟨Nat.le_of_ble_eq_true rfl, Nat.le_of_ble_eq_true rfl⟩ (Nat.le_of_ble_eq_true rfl) ?_
  rintro _ _ ⟨rfl, rfl⟩
  refine x_to (x_nx_in (j := 5) ⟨rfl, rfl⟩ (Nat.le_of_ble_eq_true rfl)) ?_
  refine x_to (show _ = x_ov (x_nx M 9) a [.inr (6, [.null, .null, .ref (a + 1), .ref (a + 3), .int 0, .int 0, .int 0]), .inr (1, [.ref (a + 2), .int 0]), .inl (1, 8, .inr (.inl (fun _ => 0))), .inr (1, [.ref (a + 4), .int 0]), .inl (1, 6, .inr (.inl (fun _ => 0))), .inr (7, [.ref tp, .ref (a + 6), .ref (a + 7), .ref (a + 8), .ref (a + 9), .int 0, .long 0, .int 0, .int 0, .int 0, .long 0]), .inl (1, 22, .inr (.inl k_KW)), .inl (0, 401, .inl (fun _ => 0)), .inl (0, 401, .inl (fun _ => 0)), .inl (1, 401, .inr (.inl (fun _ => 0)))] from rfl) ?_
  refine x_putfinal C dX6_init_39 gfX6_28 rfl rfl (x_ovg 0 rfl) rfl rfl (Nat.le_of_ble_eq_true rfl) ?_
  refine x_to (x_st_ov 0 (Nat.le_of_ble_eq_true rfl)) ?_
  refine x_to (show _ = x_ov (x_nx M 9) a [.inr (6, [.ref (a + 5), .null, .ref (a + 1), .ref (a + 3), .int 0, .int 0, .int 0]), .inr (1, [.ref (a + 2), .int 0]), .inl (1, 8, .inr (.inl (fun _ => 0))), .inr (1, [.ref (a + 4), .int 0]), .inl (1, 6, .inr (.inl (fun _ => 0))), .inr (7, [.ref tp, .ref (a + 6), .ref (a + 7), .ref (a + 8), .ref (a + 9), .int 0, .long 0, .int 0, .int 0, .int 0, .long 0]), .inl (1, 22, .inr (.inl k_KW)), .inl (0, 401, .inl (fun _ => 0)), .inl (0, 401, .inl (fun _ => 0)), .inl (1, 401, .inr (.inl (fun _ => 0)))] from rfl) ?_
  refine x_aload_n C dX6_init_42 rfl rfl ?_
  refine x_aload_n C dX6_init_43 rfl rfl ?_
  refine x_putfinal C dX6_init_44 gfX6_32 rfl rfl (x_ovg 0 rfl) rfl rfl (Nat.le_of_ble_eq_true rfl) ?_
  refine x_to (x_st_ov 0 (Nat.le_of_ble_eq_true rfl)) ?_
  refine x_to (show _ = x_ov (x_nx M 9) a [.inr (6, [.ref (a + 5), .ref dr, .ref (a + 1), .ref (a + 3), .int 0, .int 0, .int 0]), .inr (1, [.ref (a + 2), .int 0]), .inl (1, 8, .inr (.inl (fun _ => 0))), .inr (1, [.ref (a + 4), .int 0]), .inl (1, 6, .inr (.inl (fun _ => 0))), .inr (7, [.ref tp, .ref (a + 6), .ref (a + 7), .ref (a + 8), .ref (a + 9), .int 0, .long 0, .int 0, .int 0, .int 0, .long 0]), .inl (1, 22, .inr (.inl k_KW)), .inl (0, 401, .inl (fun _ => 0)), .inl (0, 401, .inl (fun _ => 0)), .inl (1, 401, .inr (.inl (fun _ => 0)))] from rfl) ?_
  refine x_vret C E dX6_init_47 ?_
  exact ⟨rfl, rfl⟩
