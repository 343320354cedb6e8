/-- the plan that stands in a Plan when it has been made -/
def P_z : PL := ((0, 0, 0), (fun _ => 0), (fun _ => 0), (fun _ => 0), (fun _ => 0), (fun _ => 0), (fun _ => []), fun _ => 0)
theorem q_zz : q_is h_zz P_z := by
  unfold q_is
  refine ⟨rfl, rfl, rfl, fun k hk => absurd hk (Nat.not_lt_zero _), fun k j hk => absurd hk (Nat.not_lt_zero _), fun o h => absurd h (Nat.not_lt_zero _), fun d h => absurd h (Nat.not_lt_zero _)⟩
set_option maxHeartbeats 4000000 in
set_option maxRecDepth 100000 in
theorem c_X8_init {l : Launch} {Y0 : x_Y} (hO : x_Ok Y0) {M : x_M} {c : Nat} (ha : x_bk M c [.inr (8, [.null, .null, .null, .null, .null, .null, .int 0])]) (hM : M.2 = c + 1) (hc : x_Stc Y0) {qk tk : Nat} (hZ : vk_R RX7 29 "drone honey deal moves gives gets begin crash wake queen when day done blocked waits of awake not and or min max" qk Y0.1) (hS : x_Str Y0 qk tk k_KT) : x_C l Y0 yX8_init cX8_init 1 none 7 95 6292 [.ref c] M (fun u M1 => u = none ∧ M1 = x_ov (x_nx M 95) c ([.inr (8, [.ref (c + 1), .ref (c + 4), .ref (c + 25), .ref (c + 46), .ref (c + 56), .ref (c + 76), .int (-1)])] ++ (tpT (c + 1) 0 (fun _ => 0) ++ (plT (c + 4) h_zz ++ (plT (c + 25) h_zz ++ (teN (c + 46) (c + 4) (c + 1) ++ (hvT (c + 56) (c + 25) P_z (h_new P_z) (h_zz 0) (fun _ => 0) 0 ++ hvT (c + 76) (c + 25) P_z (h_new P_z) (h_zz 0) (fun _ => 0) 0))))))) := by
  refine x_start hO (by decide +kernel) (Nat.le_of_ble_eq_true rfl) (fun K C E => ?_)
  refine x_to ((x_ov_self ha).symm.trans (show x_ov M c _ = x_ov (x_nx M 0) c _ from rfl)) ?_
  refine x_aload_n C dX8_init_0 rfl rfl ?_
  refine x_objInit C dX8_init_1 oX8_3 o_i o_c (by decide) (Nat.le_of_ble_eq_true rfl) ?_
  refine x_aload_n C dX8_init_4 rfl rfl ?_
  refine x_new C dX8_init_5 nX8_9 (Nat.le_of_ble_eq_true rfl) (Nat.le_of_ble_eq_true rfl) ?_
  refine x_to (x_nx_nw hM rfl) ?_
  refine x_topr (c + 1) (show M.2 + 0 = c + 1 by omega) ?_
  refine x_dup C dX8_init_8 rfl ?_
  refine x_callI (As := []) C dX8_init_9 kX8_11 (c_X5_init hO (x_bk_sub x_ov_bk 1 rfl) (show M.2 + 1 = c + 1 + 1 by omega)) rfl rfl (by decide) ⟨Nat.le_of_ble_eq_true rfl, Nat.le_of_ble_eq_true rfl⟩ (Nat.le_of_ble_eq_true rfl) ?_
  rintro _ _ ⟨rfl, rfl⟩
  refine x_to (x_nx_in (j := 1) ⟨rfl, rfl⟩ (Nat.le_of_ble_eq_true rfl)) ?_
  refine x_to (show _ = x_ov (x_nx M 3) c ([.inr (8, [.null, .null, .null, .null, .null, .null, .int 0])] ++ (tpT (c + 1) 0 (fun _ => 0))) from rfl) ?_
  refine x_putfinal C dX8_init_12 gfX8_12 rfl rfl (x_ovg 0 rfl) rfl rfl (Nat.le_of_ble_eq_true rfl) ?_
  refine x_to (x_st_ov 0 (Nat.le_of_ble_eq_true rfl)) ?_
  refine x_to (show _ = x_ov (x_nx M 3) c ([.inr (8, [.ref (c + 1), .null, .null, .null, .null, .null, .int 0])] ++ (tpT (c + 1) 0 (fun _ => 0))) from rfl) ?_
  refine x_aload_n C dX8_init_15 rfl rfl ?_
  refine x_new C dX8_init_16 nX8_16 (Nat.le_of_ble_eq_true rfl) (Nat.le_of_ble_eq_true rfl) ?_
  refine x_to (x_nx_nw hM rfl) ?_
  refine x_topr (c + 4) (show M.2 + 3 = c + 4 by omega) ?_
  refine x_dup C dX8_init_19 rfl ?_
  refine x_callI (As := []) C dX8_init_20 kX8_18 (c_X2_init hO (x_bk_sub x_ov_bk 4 rfl) (show M.2 + 4 = c + 4 + 1 by omega)) rfl rfl (by decide) ⟨Nat.le_of_ble_eq_true rfl, Nat.le_of_ble_eq_true rfl⟩ (Nat.le_of_ble_eq_true rfl) ?_
  rintro _ _ ⟨rfl, rfl⟩
  refine x_to (x_nx_in (j := 4) ⟨rfl, rfl⟩ (Nat.le_of_ble_eq_true rfl)) ?_
  refine x_to (show _ = x_ov (x_nx M 24) c ([.inr (8, [.ref (c + 1), .null, .null, .null, .null, .null, .int 0])] ++ (tpT (c + 1) 0 (fun _ => 0) ++ (plT (c + 4) h_zz))) from rfl) ?_
  refine x_putfinal C dX8_init_23 gfX8_19 rfl rfl (x_ovg 0 rfl) rfl rfl (Nat.le_of_ble_eq_true rfl) ?_
  refine x_to (x_st_ov 0 (Nat.le_of_ble_eq_true rfl)) ?_
  refine x_to (show _ = x_ov (x_nx M 24) c ([.inr (8, [.ref (c + 1), .ref (c + 4), .null, .null, .null, .null, .int 0])] ++ (tpT (c + 1) 0 (fun _ => 0) ++ (plT (c + 4) h_zz))) from rfl) ?_
  refine x_aload_n C dX8_init_26 rfl rfl ?_
  refine x_new C dX8_init_27 nX8_16 (Nat.le_of_ble_eq_true rfl) (Nat.le_of_ble_eq_true rfl) ?_
  refine x_to (x_nx_nw hM rfl) ?_
  refine x_topr (c + 25) (show M.2 + 24 = c + 25 by omega) ?_
  refine x_dup C dX8_init_30 rfl ?_
  refine x_callI (As := []) C dX8_init_31 kX8_18 (c_X2_init hO (x_bk_sub x_ov_bk 25 rfl) (show M.2 + 25 = c + 25 + 1 by omega)) rfl rfl (by decide) ⟨Nat.le_of_ble_eq_true rfl, Nat.le_of_ble_eq_true rfl⟩ (Nat.le_of_ble_eq_true rfl) ?_
  rintro _ _ ⟨rfl, rfl⟩
  refine x_to (x_nx_in (j := 25) ⟨rfl, rfl⟩ (Nat.le_of_ble_eq_true rfl)) ?_
  refine x_to (show _ = x_ov (x_nx M 45) c ([.inr (8, [.ref (c + 1), .ref (c + 4), .null, .null, .null, .null, .int 0])] ++ (tpT (c + 1) 0 (fun _ => 0) ++ (plT (c + 4) h_zz ++ (plT (c + 25) h_zz)))) from rfl) ?_
  refine x_putfinal C dX8_init_34 gfX8_23 rfl rfl (x_ovg 0 rfl) rfl rfl (Nat.le_of_ble_eq_true rfl) ?_
  refine x_to (x_st_ov 0 (Nat.le_of_ble_eq_true rfl)) ?_
  refine x_to (show _ = x_ov (x_nx M 45) c ([.inr (8, [.ref (c + 1), .ref (c + 4), .ref (c + 25), .null, .null, .null, .int 0])] ++ (tpT (c + 1) 0 (fun _ => 0) ++ (plT (c + 4) h_zz ++ (plT (c + 25) h_zz)))) from rfl) ?_
  refine x_aload_n C dX8_init_37 rfl rfl ?_
  refine x_new C dX8_init_38 nX8_26 (Nat.le_of_ble_eq_true rfl) (Nat.le_of_ble_eq_true rfl) ?_
  refine x_to (x_nx_nw hM rfl) ?_
  refine x_topr (c + 46) (show M.2 + 45 = c + 46 by omega) ?_
  refine x_dup C dX8_init_41 rfl ?_
  refine x_aload_n C dX8_init_42 rfl rfl ?_
  refine x_getfield C dX8_init_43 fX8_12 (x_ovg 0 rfl) rfl ?_
  refine x_aload_n C dX8_init_46 rfl rfl ?_
  refine x_getfield C dX8_init_47 fX8_19 (x_ovg 0 rfl) rfl ?_
  refine x_callI (As := [.ref (c + 1), .ref (c + 4)]) C dX8_init_50 kX8_28 (c_X6_init hO (x_bk_sub x_ov_bk 46 rfl) (show M.2 + 46 = c + 46 + 1 by omega) hc hZ hS) rfl rfl (by decide) ⟨Nat.le_of_ble_eq_true rfl, Nat.le_of_ble_eq_true rfl⟩ (Nat.le_of_ble_eq_true rfl) ?_
  rintro _ _ ⟨rfl, rfl⟩
  refine x_to (x_nx_in (j := 46) ⟨rfl, rfl⟩ (Nat.le_of_ble_eq_true rfl)) ?_
  refine x_to (show _ = x_ov (x_nx M 55) c ([.inr (8, [.ref (c + 1), .ref (c + 4), .ref (c + 25), .null, .null, .null, .int 0])] ++ (tpT (c + 1) 0 (fun _ => 0) ++ (plT (c + 4) h_zz ++ (plT (c + 25) h_zz ++ (teN (c + 46) (c + 4) (c + 1)))))) from rfl) ?_
  refine x_putfinal C dX8_init_53 gfX8_31 rfl rfl (x_ovg 0 rfl) rfl rfl (Nat.le_of_ble_eq_true rfl) ?_
  refine x_to (x_st_ov 0 (Nat.le_of_ble_eq_true rfl)) ?_
  refine x_to (show _ = x_ov (x_nx M 55) c ([.inr (8, [.ref (c + 1), .ref (c + 4), .ref (c + 25), .ref (c + 46), .null, .null, .int 0])] ++ (tpT (c + 1) 0 (fun _ => 0) ++ (plT (c + 4) h_zz ++ (plT (c + 25) h_zz ++ (teN (c + 46) (c + 4) (c + 1)))))) from rfl) ?_
  refine x_aload_n C dX8_init_56 rfl rfl ?_
  refine x_new C dX8_init_57 nX8_35 (Nat.le_of_ble_eq_true rfl) (Nat.le_of_ble_eq_true rfl) ?_
  refine x_to (x_nx_nw hM rfl) ?_
  refine x_topr (c + 56) (show M.2 + 55 = c + 56 by omega) ?_
  refine x_dup C dX8_init_60 rfl ?_
  refine x_aload_n C dX8_init_61 rfl rfl ?_
  refine x_getfield C dX8_init_62 fX8_23 (x_ovg 0 rfl) rfl ?_
  refine x_callI (As := [.ref (c + 25)]) C dX8_init_65 kX8_37 (c_X0_init hO q_zz (x_bk_sub (L' := plT (c + 25) h_zz) x_ov_bk 25 rfl) (show c + 25 + 21 ≤ c + 56 by omega) (x_bk_sub x_ov_bk 56 rfl) (show M.2 + 56 = c + 56 + 1 by omega)) rfl rfl (by decide) ⟨Nat.le_of_ble_eq_true rfl, Nat.le_of_ble_eq_true rfl⟩ (Nat.le_of_ble_eq_true rfl) ?_
  rintro _ _ ⟨rfl, rfl⟩
  refine x_to (x_nx_in (j := 56) ⟨rfl, rfl⟩ (Nat.le_of_ble_eq_true rfl)) ?_
  refine x_to (show _ = x_ov (x_nx M 75) c ([.inr (8, [.ref (c + 1), .ref (c + 4), .ref (c + 25), .ref (c + 46), .null, .null, .int 0])] ++ (tpT (c + 1) 0 (fun _ => 0) ++ (plT (c + 4) h_zz ++ (plT (c + 25) h_zz ++ (teN (c + 46) (c + 4) (c + 1) ++ (hvT (c + 56) (c + 25) P_z (h_new P_z) (h_zz 0) (fun _ => 0) 0)))))) from rfl) ?_
  refine x_putfinal C dX8_init_68 gfX8_40 rfl rfl (x_ovg 0 rfl) rfl rfl (Nat.le_of_ble_eq_true rfl) ?_
  refine x_to (x_st_ov 0 (Nat.le_of_ble_eq_true rfl)) ?_
  refine x_to (show _ = x_ov (x_nx M 75) c ([.inr (8, [.ref (c + 1), .ref (c + 4), .ref (c + 25), .ref (c + 46), .ref (c + 56), .null, .int 0])] ++ (tpT (c + 1) 0 (fun _ => 0) ++ (plT (c + 4) h_zz ++ (plT (c + 25) h_zz ++ (teN (c + 46) (c + 4) (c + 1) ++ (hvT (c + 56) (c + 25) P_z (h_new P_z) (h_zz 0) (fun _ => 0) 0)))))) from rfl) ?_
  refine x_aload_n C dX8_init_71 rfl rfl ?_
  refine x_new C dX8_init_72 nX8_35 (Nat.le_of_ble_eq_true rfl) (Nat.le_of_ble_eq_true rfl) ?_
  refine x_to (x_nx_nw hM rfl) ?_
  refine x_topr (c + 76) (show M.2 + 75 = c + 76 by omega) ?_
  refine x_dup C dX8_init_75 rfl ?_
  refine x_aload_n C dX8_init_76 rfl rfl ?_
  refine x_getfield C dX8_init_77 fX8_23 (x_ovg 0 rfl) rfl ?_
  refine x_callI (As := [.ref (c + 25)]) C dX8_init_80 kX8_37 (c_X0_init hO q_zz (x_bk_sub (L' := plT (c + 25) h_zz) x_ov_bk 25 rfl) (show c + 25 + 21 ≤ c + 76 by omega) (x_bk_sub x_ov_bk 76 rfl) (show M.2 + 76 = c + 76 + 1 by omega)) rfl rfl (by decide) ⟨Nat.le_of_ble_eq_true rfl, Nat.le_of_ble_eq_true rfl⟩ (Nat.le_of_ble_eq_true rfl) ?_
  rintro _ _ ⟨rfl, rfl⟩
  refine x_to (x_nx_in (j := 76) ⟨rfl, rfl⟩ (Nat.le_of_ble_eq_true rfl)) ?_
  refine x_to (show _ = x_ov (x_nx M 95) c ([.inr (8, [.ref (c + 1), .ref (c + 4), .ref (c + 25), .ref (c + 46), .ref (c + 56), .null, .int 0])] ++ (tpT (c + 1) 0 (fun _ => 0) ++ (plT (c + 4) h_zz ++ (plT (c + 25) h_zz ++ (teN (c + 46) (c + 4) (c + 1) ++ (hvT (c + 56) (c + 25) P_z (h_new P_z) (h_zz 0) (fun _ => 0) 0 ++ (hvT (c + 76) (c + 25) P_z (h_new P_z) (h_zz 0) (fun _ => 0) 0))))))) from rfl) ?_
  refine x_putfinal C dX8_init_83 gfX8_44 rfl rfl (x_ovg 0 rfl) rfl rfl (Nat.le_of_ble_eq_true rfl) ?_
  refine x_to (x_st_ov 0 (Nat.le_of_ble_eq_true rfl)) ?_
  refine x_to (show _ = x_ov (x_nx M 95) c ([.inr (8, [.ref (c + 1), .ref (c + 4), .ref (c + 25), .ref (c + 46), .ref (c + 56), .ref (c + 76), .int 0])] ++ (tpT (c + 1) 0 (fun _ => 0) ++ (plT (c + 4) h_zz ++ (plT (c + 25) h_zz ++ (teN (c + 46) (c + 4) (c + 1) ++ (hvT (c + 56) (c + 25) P_z (h_new P_z) (h_zz 0) (fun _ => 0) 0 ++ (hvT (c + 76) (c + 25) P_z (h_new P_z) (h_zz 0) (fun _ => 0) 0))))))) from rfl) ?_
  refine x_aload_n C dX8_init_86 rfl rfl ?_
  refine x_iconst (v := (-1)) C dX8_init_87 (by decide) ?_
  refine x_putfield C dX8_init_88 fX8_47 (x_ovg 0 rfl) rfl rfl (Nat.le_of_ble_eq_true rfl) ?_
  refine x_to (x_st_ov 0 (Nat.le_of_ble_eq_true rfl)) ?_
  refine x_vret C E dX8_init_91 ?_
  exact ⟨rfl, rfl⟩
