theorem g_zz : g_is h_zz P_z := by
  unfold g_is
  refine ⟨rfl, rfl, rfl, fun k hk => absurd hk (Nat.not_lt_zero _), fun k j hk => absurd hk (Nat.not_lt_zero _), fun o h => absurd h (Nat.not_lt_zero _), fun d h => absurd h (Nat.not_lt_zero _)⟩
theorem mo_bg {M : x_M} {o : Nat} {L B : List x_E} (hM : M.2 = o + 1) (hl : L.length = 37) : x_ov (x_ov (x_nx (x_ov (x_nx M 36) o L) 9) (x_ov (x_nx M 36) o L).2 (stT (x_ov (x_nx M 36) o L).2 o P_z h_zz (fun _ => 0) 0)) (o + 19) B = x_ov (x_ov (x_nx M 45) o (L ++ stT (o + 37) o P_z h_zz (fun _ => 0) 0)) (o + 19) B := by
  have e : (x_ov (x_nx M 36) o L).2 = o + 37 := by
    show M.2 + 36 = o + 37
    omega
  rw [e, x_nx_in (k := 36) (i := 9) (j := 37) (L2 := stT (o + 37) o P_z h_zz (fun _ => 0) 0) ⟨rfl, hl⟩ (Nat.le_of_ble_eq_true rfl), List.take_of_length_le (by omega)]
def E_z (o : Nat) : rE := (((0, 0, -1), (o + 7, o + 18, o + 19, o + 28)), h_zz)
def R_z : rS := ((0, 0), [], [], (fun _ => 0), [])
set_option maxHeartbeats 4000000 in
set_option maxRecDepth 100000 in
theorem c_X11_init {l : Launch} {Y0 : x_Y} (hO : x_Ok Y0) {M : x_M} {o : Nat} (ha : x_bk M o [.inr (11, [.int 0, .null, .int 0, .int 0, .null, .null, .null, .null, .null, .int 0, .int 0, .null, .null, .null, .null, .null])]) (hM : M.2 = o + 1) : x_C l Y0 yX11_init cX11_init 1 none 6 45 6160 [.ref o] M (fun u M1 => u = none ∧ M1 = x_ov (x_nx M 45) o (moT o (o + 7) (E_z o) R_z ++ (pmT (o + 7) h_zz ++ ([.inl (0, 400, .inl (fun _ => 0))] ++ (stT (o + 19) o P_z (h_new P_z) (s_fill 8 (fun _ => 0) (h_zz 0)) 0 ++ (stT (o + 28) o P_z h_zz (fun _ => 0) 0 ++ stT (o + 37) o P_z h_zz (fun _ => 0) 0)))))) := by
  refine x_start hO (by decide +kernel) (Nat.le_of_ble_eq_true rfl) (fun K C E => ?_)
  refine x_to ((x_ov_self ha).symm.trans (show x_ov M o _ = x_ov (x_nx M 0) o _ from rfl)) ?_
  refine x_aload_n C dX11_init_0 rfl rfl ?_
  refine x_objInit C dX11_init_1 oX11_1 o_i o_c (by decide) (Nat.le_of_ble_eq_true rfl) ?_
  refine x_aload_n C dX11_init_4 rfl rfl ?_
  refine x_sipush (v := 2000) C dX11_init_5 (by decide) ?_
  refine x_newarrI (N := 2000) C dX11_init_8 o_ai (by decide) rfl (by decide) (Nat.le_of_ble_eq_true rfl) (Nat.le_of_ble_eq_true rfl) ?_
  refine x_to (x_nx_nw hM rfl) ?_
  refine x_topr (o + 1) (show M.2 + 0 = o + 1 by omega) ?_
  refine x_putfinal C dX11_init_10 gfX11_9 rfl rfl (x_ovg 0 rfl) rfl rfl (Nat.le_of_ble_eq_true rfl) ?_
  refine x_to (x_st_ov 0 (Nat.le_of_ble_eq_true rfl)) ?_
  refine x_to (show _ = x_ov (x_nx M 1) o ([.inr (11, [.int 0, .ref (o + 1), .int 0, .int 0, .null, .null, .null, .null, .null, .int 0, .int 0, .null, .null, .null, .null, .null]), .inl (0, 2000, .inl (fun _ => 0))]) from rfl) ?_
  refine x_aload_n C dX11_init_13 rfl rfl ?_
  refine x_iconst (v := (-1)) C dX11_init_14 (by decide) ?_
  refine x_putfield C dX11_init_15 fX11_13 (x_ovg 0 rfl) rfl rfl (Nat.le_of_ble_eq_true rfl) ?_
  refine x_to (x_st_ov 0 (Nat.le_of_ble_eq_true rfl)) ?_
  refine x_to (show _ = x_ov (x_nx M 1) o ([.inr (11, [.int 0, .ref (o + 1), .int 0, .int (-1), .null, .null, .null, .null, .null, .int 0, .int 0, .null, .null, .null, .null, .null]), .inl (0, 2000, .inl (fun _ => 0))]) from rfl) ?_
  refine x_aload_n C dX11_init_18 rfl rfl ?_
  refine x_sipush (v := 401) C dX11_init_19 (by decide) ?_
  refine x_newarrI (N := 401) C dX11_init_22 o_ai (by decide) rfl (by decide) (Nat.le_of_ble_eq_true rfl) (Nat.le_of_ble_eq_true rfl) ?_
  refine x_to (x_nx_nw hM rfl) ?_
  refine x_topr (o + 2) (show M.2 + 1 = o + 2 by omega) ?_
  refine x_putfinal C dX11_init_24 gfX11_17 rfl rfl (x_ovg 0 rfl) rfl rfl (Nat.le_of_ble_eq_true rfl) ?_
  refine x_to (x_st_ov 0 (Nat.le_of_ble_eq_true rfl)) ?_
  refine x_to (show _ = x_ov (x_nx M 2) o ([.inr (11, [.int 0, .ref (o + 1), .int 0, .int (-1), .ref (o + 2), .null, .null, .null, .null, .int 0, .int 0, .null, .null, .null, .null, .null]), .inl (0, 2000, .inl (fun _ => 0)), .inl (0, 401, .inl (fun _ => 0))]) from rfl) ?_
  refine x_aload_n C dX11_init_27 rfl rfl ?_
  refine x_sipush (v := 401) C dX11_init_28 (by decide) ?_
  refine x_newarrI (N := 401) C dX11_init_31 o_ai (by decide) rfl (by decide) (Nat.le_of_ble_eq_true rfl) (Nat.le_of_ble_eq_true rfl) ?_
  refine x_to (x_nx_nw hM rfl) ?_
  refine x_topr (o + 3) (show M.2 + 2 = o + 3 by omega) ?_
  refine x_putfinal C dX11_init_33 gfX11_20 rfl rfl (x_ovg 0 rfl) rfl rfl (Nat.le_of_ble_eq_true rfl) ?_
  refine x_to (x_st_ov 0 (Nat.le_of_ble_eq_true rfl)) ?_
  refine x_to (show _ = x_ov (x_nx M 3) o ([.inr (11, [.int 0, .ref (o + 1), .int 0, .int (-1), .ref (o + 2), .ref (o + 3), .null, .null, .null, .int 0, .int 0, .null, .null, .null, .null, .null]), .inl (0, 2000, .inl (fun _ => 0)), .inl (0, 401, .inl (fun _ => 0)), .inl (0, 401, .inl (fun _ => 0))]) from rfl) ?_
  refine x_aload_n C dX11_init_36 rfl rfl ?_
  refine x_sipush (v := 401) C dX11_init_37 (by decide) ?_
  refine x_newarrI (N := 401) C dX11_init_40 o_ai (by decide) rfl (by decide) (Nat.le_of_ble_eq_true rfl) (Nat.le_of_ble_eq_true rfl) ?_
  refine x_to (x_nx_nw hM rfl) ?_
  refine x_topr (o + 4) (show M.2 + 3 = o + 4 by omega) ?_
  refine x_putfinal C dX11_init_42 gfX11_23 rfl rfl (x_ovg 0 rfl) rfl rfl (Nat.le_of_ble_eq_true rfl) ?_
  refine x_to (x_st_ov 0 (Nat.le_of_ble_eq_true rfl)) ?_
  refine x_to (show _ = x_ov (x_nx M 4) o ([.inr (11, [.int 0, .ref (o + 1), .int 0, .int (-1), .ref (o + 2), .ref (o + 3), .ref (o + 4), .null, .null, .int 0, .int 0, .null, .null, .null, .null, .null]), .inl (0, 2000, .inl (fun _ => 0)), .inl (0, 401, .inl (fun _ => 0)), .inl (0, 401, .inl (fun _ => 0)), .inl (0, 401, .inl (fun _ => 0))]) from rfl) ?_
  refine x_aload_n C dX11_init_45 rfl rfl ?_
  refine x_sipush (v := 401) C dX11_init_46 (by decide) ?_
  refine x_newarrI (N := 401) C dX11_init_49 o_ai (by decide) rfl (by decide) (Nat.le_of_ble_eq_true rfl) (Nat.le_of_ble_eq_true rfl) ?_
  refine x_to (x_nx_nw hM rfl) ?_
  refine x_topr (o + 5) (show M.2 + 4 = o + 5 by omega) ?_
  refine x_putfinal C dX11_init_51 gfX11_26 rfl rfl (x_ovg 0 rfl) rfl rfl (Nat.le_of_ble_eq_true rfl) ?_
  refine x_to (x_st_ov 0 (Nat.le_of_ble_eq_true rfl)) ?_
  refine x_to (show _ = x_ov (x_nx M 5) o ([.inr (11, [.int 0, .ref (o + 1), .int 0, .int (-1), .ref (o + 2), .ref (o + 3), .ref (o + 4), .ref (o + 5), .null, .int 0, .int 0, .null, .null, .null, .null, .null]), .inl (0, 2000, .inl (fun _ => 0)), .inl (0, 401, .inl (fun _ => 0)), .inl (0, 401, .inl (fun _ => 0)), .inl (0, 401, .inl (fun _ => 0)), .inl (0, 401, .inl (fun _ => 0))]) from rfl) ?_
  refine x_aload_n C dX11_init_54 rfl rfl ?_
  refine x_sipush (v := 401) C dX11_init_55 (by decide) ?_
  refine x_newarrI (N := 401) C dX11_init_58 o_ai (by decide) rfl (by decide) (Nat.le_of_ble_eq_true rfl) (Nat.le_of_ble_eq_true rfl) ?_
  refine x_to (x_nx_nw hM rfl) ?_
  refine x_topr (o + 6) (show M.2 + 5 = o + 6 by omega) ?_
  refine x_putfinal C dX11_init_60 gfX11_29 rfl rfl (x_ovg 0 rfl) rfl rfl (Nat.le_of_ble_eq_true rfl) ?_
  refine x_to (x_st_ov 0 (Nat.le_of_ble_eq_true rfl)) ?_
  refine x_to (show _ = x_ov (x_nx M 6) o ([.inr (11, [.int 0, .ref (o + 1), .int 0, .int (-1), .ref (o + 2), .ref (o + 3), .ref (o + 4), .ref (o + 5), .ref (o + 6), .int 0, .int 0, .null, .null, .null, .null, .null]), .inl (0, 2000, .inl (fun _ => 0)), .inl (0, 401, .inl (fun _ => 0)), .inl (0, 401, .inl (fun _ => 0)), .inl (0, 401, .inl (fun _ => 0)), .inl (0, 401, .inl (fun _ => 0)), .inl (0, 401, .inl (fun _ => 0))]) from rfl) ?_
  refine x_aload_n C dX11_init_63 rfl rfl ?_
  refine x_new C dX11_init_64 nX11_32 (Nat.le_of_ble_eq_true rfl) (Nat.le_of_ble_eq_true rfl) ?_
  refine x_to (x_nx_nw hM rfl) ?_
  refine x_topr (o + 7) (show M.2 + 6 = o + 7 by omega) ?_
  refine x_dup C dX11_init_67 rfl ?_
  refine x_callI (As := []) C dX11_init_68 kX11_34 (c_X9_init hO (x_bk_sub x_ov_bk 7 rfl) (show M.2 + 7 = o + 7 + 1 by omega)) rfl rfl (by decide) ⟨Nat.le_of_ble_eq_true rfl, Nat.le_of_ble_eq_true rfl⟩ (Nat.le_of_ble_eq_true rfl) ?_
  rintro _ _ ⟨rfl, rfl⟩
  refine x_to (x_nx_in (j := 7) ⟨rfl, rfl⟩ (Nat.le_of_ble_eq_true rfl)) ?_
  refine x_to (show _ = x_ov (x_nx M 17) o ([.inr (11, [.int 0, .ref (o + 1), .int 0, .int (-1), .ref (o + 2), .ref (o + 3), .ref (o + 4), .ref (o + 5), .ref (o + 6), .int 0, .int 0, .null, .null, .null, .null, .null]), .inl (0, 2000, .inl (fun _ => 0)), .inl (0, 401, .inl (fun _ => 0)), .inl (0, 401, .inl (fun _ => 0)), .inl (0, 401, .inl (fun _ => 0)), .inl (0, 401, .inl (fun _ => 0)), .inl (0, 401, .inl (fun _ => 0))] ++ (pmT (o + 7) h_zz)) from rfl) ?_
  refine x_putfield C dX11_init_71 fX11_35 (x_ovg 0 rfl) rfl rfl (Nat.le_of_ble_eq_true rfl) ?_
  refine x_to (x_st_ov 0 (Nat.le_of_ble_eq_true rfl)) ?_
  refine x_to (show _ = x_ov (x_nx M 17) o ([.inr (11, [.int 0, .ref (o + 1), .int 0, .int (-1), .ref (o + 2), .ref (o + 3), .ref (o + 4), .ref (o + 5), .ref (o + 6), .int 0, .int 0, .ref (o + 7), .null, .null, .null, .null]), .inl (0, 2000, .inl (fun _ => 0)), .inl (0, 401, .inl (fun _ => 0)), .inl (0, 401, .inl (fun _ => 0)), .inl (0, 401, .inl (fun _ => 0)), .inl (0, 401, .inl (fun _ => 0)), .inl (0, 401, .inl (fun _ => 0))] ++ (pmT (o + 7) h_zz)) from rfl) ?_
  refine x_aload_n C dX11_init_74 rfl rfl ?_
  refine x_aload_n C dX11_init_75 rfl rfl ?_
  refine x_getfield C dX11_init_76 fX11_35 (x_ovg 0 rfl) rfl ?_
  refine x_putfield C dX11_init_79 fX11_39 (x_ovg 0 rfl) rfl rfl (Nat.le_of_ble_eq_true rfl) ?_
  refine x_to (x_st_ov 0 (Nat.le_of_ble_eq_true rfl)) ?_
  refine x_to (show _ = x_ov (x_nx M 17) o ([.inr (11, [.int 0, .ref (o + 1), .int 0, .int (-1), .ref (o + 2), .ref (o + 3), .ref (o + 4), .ref (o + 5), .ref (o + 6), .int 0, .int 0, .ref (o + 7), .ref (o + 7), .null, .null, .null]), .inl (0, 2000, .inl (fun _ => 0)), .inl (0, 401, .inl (fun _ => 0)), .inl (0, 401, .inl (fun _ => 0)), .inl (0, 401, .inl (fun _ => 0)), .inl (0, 401, .inl (fun _ => 0)), .inl (0, 401, .inl (fun _ => 0))] ++ (pmT (o + 7) h_zz)) from rfl) ?_
  refine x_aload_n C dX11_init_82 rfl rfl ?_
  refine x_sipush (v := 400) C dX11_init_83 (by decide) ?_
  refine x_newarrI (N := 400) C dX11_init_86 o_ai (by decide) rfl (by decide) (Nat.le_of_ble_eq_true rfl) (Nat.le_of_ble_eq_true rfl) ?_
  refine x_to (x_nx_nw hM rfl) ?_
  refine x_topr (o + 18) (show M.2 + 17 = o + 18 by omega) ?_
  refine x_putfinal C dX11_init_88 gfX11_42 rfl rfl (x_ovg 0 rfl) rfl rfl (Nat.le_of_ble_eq_true rfl) ?_
  refine x_to (x_st_ov 0 (Nat.le_of_ble_eq_true rfl)) ?_
  refine x_to (show _ = x_ov (x_nx M 18) o ([.inr (11, [.int 0, .ref (o + 1), .int 0, .int (-1), .ref (o + 2), .ref (o + 3), .ref (o + 4), .ref (o + 5), .ref (o + 6), .int 0, .int 0, .ref (o + 7), .ref (o + 7), .ref (o + 18), .null, .null]), .inl (0, 2000, .inl (fun _ => 0)), .inl (0, 401, .inl (fun _ => 0)), .inl (0, 401, .inl (fun _ => 0)), .inl (0, 401, .inl (fun _ => 0)), .inl (0, 401, .inl (fun _ => 0)), .inl (0, 401, .inl (fun _ => 0))] ++ (pmT (o + 7) h_zz ++ ([.inl (0, 400, .inl (fun _ => 0))]))) from rfl) ?_
  refine x_aload_n C dX11_init_91 rfl rfl ?_
  refine x_new C dX11_init_92 nX11_45 (Nat.le_of_ble_eq_true rfl) (Nat.le_of_ble_eq_true rfl) ?_
  refine x_to (x_nx_nw hM rfl) ?_
  refine x_topr (o + 19) (show M.2 + 18 = o + 19 by omega) ?_
  refine x_dup C dX11_init_95 rfl ?_
  refine x_aload_n C dX11_init_96 rfl rfl ?_
  refine x_callI (As := [.ref o]) C dX11_init_97 kX11_47 (c_X10_init (P := P_z) hO (x_bk_sub x_ov_bk 19 rfl) (show M.2 + 19 = o + 19 + 1 by omega)) rfl rfl (by decide) ⟨Nat.le_of_ble_eq_true rfl, Nat.le_of_ble_eq_true rfl⟩ (Nat.le_of_ble_eq_true rfl) ?_
  rintro _ _ ⟨rfl, rfl⟩
  refine x_to (x_nx_in (j := 19) ⟨rfl, rfl⟩ (Nat.le_of_ble_eq_true rfl)) ?_
  refine x_to (show _ = x_ov (x_nx M 27) o ([.inr (11, [.int 0, .ref (o + 1), .int 0, .int (-1), .ref (o + 2), .ref (o + 3), .ref (o + 4), .ref (o + 5), .ref (o + 6), .int 0, .int 0, .ref (o + 7), .ref (o + 7), .ref (o + 18), .null, .null]), .inl (0, 2000, .inl (fun _ => 0)), .inl (0, 401, .inl (fun _ => 0)), .inl (0, 401, .inl (fun _ => 0)), .inl (0, 401, .inl (fun _ => 0)), .inl (0, 401, .inl (fun _ => 0)), .inl (0, 401, .inl (fun _ => 0))] ++ (pmT (o + 7) h_zz ++ ([.inl (0, 400, .inl (fun _ => 0))] ++ (stT (o + 19) o P_z h_zz (fun _ => 0) 0)))) from rfl) ?_
  refine x_putfinal C dX11_init_100 gfX11_50 rfl rfl (x_ovg 0 rfl) rfl rfl (Nat.le_of_ble_eq_true rfl) ?_
  refine x_to (x_st_ov 0 (Nat.le_of_ble_eq_true rfl)) ?_
  refine x_to (show _ = x_ov (x_nx M 27) o ([.inr (11, [.int 0, .ref (o + 1), .int 0, .int (-1), .ref (o + 2), .ref (o + 3), .ref (o + 4), .ref (o + 5), .ref (o + 6), .int 0, .int 0, .ref (o + 7), .ref (o + 7), .ref (o + 18), .ref (o + 19), .null]), .inl (0, 2000, .inl (fun _ => 0)), .inl (0, 401, .inl (fun _ => 0)), .inl (0, 401, .inl (fun _ => 0)), .inl (0, 401, .inl (fun _ => 0)), .inl (0, 401, .inl (fun _ => 0)), .inl (0, 401, .inl (fun _ => 0))] ++ (pmT (o + 7) h_zz ++ ([.inl (0, 400, .inl (fun _ => 0))] ++ (stT (o + 19) o P_z h_zz (fun _ => 0) 0)))) from rfl) ?_
  refine x_aload_n C dX11_init_103 rfl rfl ?_
  refine x_new C dX11_init_104 nX11_45 (Nat.le_of_ble_eq_true rfl) (Nat.le_of_ble_eq_true rfl) ?_
  refine x_to (x_nx_nw hM rfl) ?_
  refine x_topr (o + 28) (show M.2 + 27 = o + 28 by omega) ?_
  refine x_dup C dX11_init_107 rfl ?_
  refine x_aload_n C dX11_init_108 rfl rfl ?_
  refine x_callI (As := [.ref o]) C dX11_init_109 kX11_47 (c_X10_init (P := P_z) hO (x_bk_sub x_ov_bk 28 rfl) (show M.2 + 28 = o + 28 + 1 by omega)) rfl rfl (by decide) ⟨Nat.le_of_ble_eq_true rfl, Nat.le_of_ble_eq_true rfl⟩ (Nat.le_of_ble_eq_true rfl) ?_
  rintro _ _ ⟨rfl, rfl⟩
  refine x_to (x_nx_in (j := 28) ⟨rfl, rfl⟩ (Nat.le_of_ble_eq_true rfl)) ?_
  refine x_to (show _ = x_ov (x_nx M 36) o ([.inr (11, [.int 0, .ref (o + 1), .int 0, .int (-1), .ref (o + 2), .ref (o + 3), .ref (o + 4), .ref (o + 5), .ref (o + 6), .int 0, .int 0, .ref (o + 7), .ref (o + 7), .ref (o + 18), .ref (o + 19), .null]), .inl (0, 2000, .inl (fun _ => 0)), .inl (0, 401, .inl (fun _ => 0)), .inl (0, 401, .inl (fun _ => 0)), .inl (0, 401, .inl (fun _ => 0)), .inl (0, 401, .inl (fun _ => 0)), .inl (0, 401, .inl (fun _ => 0))] ++ (pmT (o + 7) h_zz ++ ([.inl (0, 400, .inl (fun _ => 0))] ++ (stT (o + 19) o P_z h_zz (fun _ => 0) 0 ++ (stT (o + 28) o P_z h_zz (fun _ => 0) 0))))) from rfl) ?_
  refine x_putfinal C dX11_init_112 gfX11_54 rfl rfl (x_ovg 0 rfl) rfl rfl (Nat.le_of_ble_eq_true rfl) ?_
  refine x_to (x_st_ov 0 (Nat.le_of_ble_eq_true rfl)) ?_
  refine x_to (show _ = x_ov (x_nx M 36) o ([.inr (11, [.int 0, .ref (o + 1), .int 0, .int (-1), .ref (o + 2), .ref (o + 3), .ref (o + 4), .ref (o + 5), .ref (o + 6), .int 0, .int 0, .ref (o + 7), .ref (o + 7), .ref (o + 18), .ref (o + 19), .ref (o + 28)]), .inl (0, 2000, .inl (fun _ => 0)), .inl (0, 401, .inl (fun _ => 0)), .inl (0, 401, .inl (fun _ => 0)), .inl (0, 401, .inl (fun _ => 0)), .inl (0, 401, .inl (fun _ => 0)), .inl (0, 401, .inl (fun _ => 0))] ++ (pmT (o + 7) h_zz ++ ([.inl (0, 400, .inl (fun _ => 0))] ++ (stT (o + 19) o P_z h_zz (fun _ => 0) 0 ++ (stT (o + 28) o P_z h_zz (fun _ => 0) 0))))) from rfl) ?_
  refine x_aload_n C dX11_init_115 rfl rfl ?_
  refine x_getfield C dX11_init_116 fX11_50 (x_ovg 0 rfl) rfl ?_
  refine x_callV (As := []) C dX11_init_119 kX11_57 (c_X10_begin (P := P_z) (G := h_zz) (P0 := P_z) (A := h_zz) (hx := fun _ => 0) (z := 0) (fs := [.int 0, .ref (o + 1), .int 0, .int (-1), .ref (o + 2), .ref (o + 3), .ref (o + 4), .ref (o + 5), .ref (o + 6), .int 0, .int 0, .ref (o + 7), .ref (o + 7), .ref (o + 18), .ref (o + 19), .ref (o + 28)]) hO g_zz (x_bk_sub x_ov_bk 19 rfl) (q := o + 7) (x_bk_sub x_ov_bk 7 rfl) (x_bk_sub (L' := [.inr (11, [.int 0, .ref (o + 1), .int 0, .int (-1), .ref (o + 2), .ref (o + 3), .ref (o + 4), .ref (o + 5), .ref (o + 6), .int 0, .int 0, .ref (o + 7), .ref (o + 7), .ref (o + 18), .ref (o + 19), .ref (o + 28)])]) x_ov_bk 0 rfl) rfl (Or.inl (show o + 7 + 11 ≤ o + 19 by omega)) (Or.inl (show o + 1 ≤ o + 19 by omega)) (show o + 19 + 9 ≤ M.2 + 36 by omega) (show o + 7 + 11 ≤ M.2 + 36 by omega) (show o + 1 ≤ M.2 + 36 by omega)) (x_ovg 19 rfl) rfl rfl rfl (by decide) ⟨Nat.le_of_ble_eq_true rfl, Nat.le_of_ble_eq_true rfl⟩ (Nat.le_of_ble_eq_true rfl) ?_
  rintro _ _ ⟨rfl, rfl⟩
  refine x_to (mo_bg hM rfl) ?_
  refine x_toQ (bg_eqv g_zz) ?_
  refine x_to (x_ov_in 19 (Nat.le_of_ble_eq_true rfl)) ?_
  refine x_vret C E dX11_init_122 ?_
  exact ⟨rfl, rfl⟩
