/-- how all stands in a Hive's cells before anything is put there -/
def h_zq : HS := fun k j => if k = 1 ∧ j = 8 then 1 else 0
theorem h_hv0 {a p : Nat} {P : PL} : [.inr (0, [.ref p, .ref (a + 1), .ref (a + 4), .ref (a + 6), .ref (a + 8), .ref (a + 10), .ref (a + 12), .ref (a + 14), .ref (a + 16), .ref (a + 18), .int 0, .int 0, .int 0]),
   .inr (3, [.ref (a + 2), .int 0]), .inr (4, [.ref (a + 3)]), .inl (0, 400, .inl (fun _ => 0)), .inr (4, [.ref (a + 5)]), .inl (0, 8, .inl (fun _ => 0)), .inr (4, [.ref (a + 7)]), .inl (0, 8, .inl (fun _ => 0)), .inr (4, [.ref (a + 9)]), .inl (0, 8, .inl (fun _ => 0)), .inr (4, [.ref (a + 11)]), .inl (0, 8, .inl (fun _ => 0)), .inr (4, [.ref (a + 13)]), .inl (0, 6, .inl (fun _ => 0)), .inr (4, [.ref (a + 15)]), .inl (0, 6, .inl (fun _ => 0)), .inr (4, [.ref (a + 17)]), .inl (0, 36, .inl (fun _ => 0)), .inr (4, [.ref (a + 19)]), .inl (0, 36, .inl (fun _ => 0))] = hvT a p P h_zq (fun _ => 0) (fun _ => 0) 0 := by
  have e0 : s_fill (p_nd P) (fun _ => 0) (h_zq 0) = fun _ => 0 := by
    funext j
    unfold s_fill
    split <;> rfl
  have e1 : s_fill 8 (fun _ => 0) (h_zq 1) = fun _ => 0 := by
    funext j
    unfold s_fill
    split
    · show (if 1 = 1 ∧ j = 8 then (1 : Int32) else 0) = 0
      rw [if_neg (by omega)]
    · rfl
  have e2 : (1 : Int32) - h_zq 1 8 = 0 := by decide
  have r : ∀ k, k ≠ 1 → h_zq k = fun _ => 0 := fun k hk => by
    funext j
    show (if k = 1 ∧ j = 8 then (1 : Int32) else 0) = 0
    rw [if_neg (by omega)]
  unfold hvT
  rw [e0, e1, e2, r 8 (by decide), r 2 (by decide), r 3 (by decide), r 4 (by decide), r 5 (by decide), r 6 (by decide), r 7 (by decide)]
set_option maxHeartbeats 4000000 in
set_option maxRecDepth 100000 in
theorem c_X0_init {l : Launch} {Y0 : x_Y} (hO : x_Ok Y0) {M : x_M} {a p : Nat} {P : PL} {Q : HS} (hQ : q_is Q P) (hp : x_bk M p (plT p Q)) (hpa : p + 21 ≤ a) (ha : x_bk M a [.inr (0, [.null, .null, .null, .null, .null, .null, .null, .null, .null, .null, .int 0, .int 0, .int 0])]) (hM : M.2 = a + 1) : x_C l Y0 yX0_init cX0_init 2 none 4 19 527 [.ref a, .ref p] M (fun u M1 => u = none ∧ M1 = x_ov (x_nx M 19) a (hvT a p P (h_new P) (Q 0) (fun _ => 0) 0)) := by
  refine x_start hO (by decide +kernel) (Nat.le_of_ble_eq_true rfl) (fun K C E => ?_)
  have hpN : ∀ L : List x_E, L.length = 20 → x_bk (x_ov (x_nx M 19) a L) p (plT p Q) := fun L h => x_ov_far 20 (show x_bk (x_nx M 19) p (plT p Q) from hp) h (Or.inl hpa)
  refine x_to ((x_ov_self ha).symm.trans (show x_ov M a _ = x_ov (x_nx M 0) a _ from rfl)) ?_
  refine x_aload_n C dX0_init_0 rfl rfl ?_
  refine x_objInit C dX0_init_1 oX0_3 o_i o_c (by decide) (Nat.le_of_ble_eq_true rfl) ?_
  refine x_aload_n C dX0_init_4 rfl rfl ?_
  refine x_new C dX0_init_5 nX0_9 (Nat.le_of_ble_eq_true rfl) (Nat.le_of_ble_eq_true rfl) ?_
  refine x_to (x_nx_nw hM rfl) ?_
  refine x_topr (a + 1) (show M.2 + 0 = a + 1 by omega) ?_
  refine x_dup C dX0_init_8 rfl ?_
  refine x_callI (As := []) C dX0_init_9 kX0_11 (c_X3_init hO (x_bk_sub x_ov_bk 1 rfl) (show M.2 + 1 = a + 1 + 1 by omega)) rfl rfl (by decide) ⟨Nat.le_of_ble_eq_true rfl, Nat.le_of_ble_eq_true rfl⟩ (Nat.le_of_ble_eq_true rfl) ?_
  rintro _ _ ⟨rfl, rfl⟩
  refine x_to (x_nx_in (j := 1) ⟨rfl, rfl⟩ (Nat.le_of_ble_eq_true rfl)) ?_
  refine x_to (show _ = x_ov (x_nx M 3) a [.inr (0, [.null, .null, .null, .null, .null, .null, .null, .null, .null, .null, .int 0, .int 0, .int 0]), .inr (3, [.ref (a + 2), .int 0]), .inr (4, [.ref (a + 3)]), .inl (0, 400, .inl (fun _ => 0))] from rfl) ?_
  refine x_putfinal C dX0_init_12 gfX0_12 rfl rfl (x_ovg 0 rfl) rfl rfl (Nat.le_of_ble_eq_true rfl) ?_
  refine x_to (x_st_ov 0 (Nat.le_of_ble_eq_true rfl)) ?_
  refine x_to (show _ = x_ov (x_nx M 3) a [.inr (0, [.null, .ref (a + 1), .null, .null, .null, .null, .null, .null, .null, .null, .int 0, .int 0, .int 0]), .inr (3, [.ref (a + 2), .int 0]), .inr (4, [.ref (a + 3)]), .inl (0, 400, .inl (fun _ => 0))] from rfl) ?_
  refine x_aload_n C dX0_init_15 rfl rfl ?_
  refine x_new C dX0_init_16 nX0_18 (Nat.le_of_ble_eq_true rfl) (Nat.le_of_ble_eq_true rfl) ?_
  refine x_to (x_nx_nw hM rfl) ?_
  refine x_topr (a + 4) (show M.2 + 3 = a + 4 by omega) ?_
  refine x_dup C dX0_init_19 rfl ?_
  refine x_bipush (v := 8) C dX0_init_20 (by decide) ?_
  refine x_callI (As := [.int (nI 8)]) C dX0_init_22 kX0_20 (c_X4_init (N := 8) hO (x_bk_sub x_ov_bk 4 rfl) (show M.2 + 4 = a + 4 + 1 by omega) (by decide)) rfl rfl (by decide) ⟨Nat.le_of_ble_eq_true rfl, Nat.le_of_ble_eq_true rfl⟩ (Nat.le_of_ble_eq_true rfl) ?_
  rintro _ _ ⟨rfl, rfl⟩
  refine x_to (x_nx_in (j := 4) ⟨rfl, rfl⟩ (Nat.le_of_ble_eq_true rfl)) ?_
  refine x_to (show _ = x_ov (x_nx M 5) a [.inr (0, [.null, .ref (a + 1), .null, .null, .null, .null, .null, .null, .null, .null, .int 0, .int 0, .int 0]), .inr (3, [.ref (a + 2), .int 0]), .inr (4, [.ref (a + 3)]), .inl (0, 400, .inl (fun _ => 0)), .inr (4, [.ref (a + 5)]), .inl (0, 8, .inl (fun _ => 0))] from rfl) ?_
  refine x_putfinal C dX0_init_25 gfX0_23 rfl rfl (x_ovg 0 rfl) rfl rfl (Nat.le_of_ble_eq_true rfl) ?_
  refine x_to (x_st_ov 0 (Nat.le_of_ble_eq_true rfl)) ?_
  refine x_to (show _ = x_ov (x_nx M 5) a [.inr (0, [.null, .ref (a + 1), .ref (a + 4), .null, .null, .null, .null, .null, .null, .null, .int 0, .int 0, .int 0]), .inr (3, [.ref (a + 2), .int 0]), .inr (4, [.ref (a + 3)]), .inl (0, 400, .inl (fun _ => 0)), .inr (4, [.ref (a + 5)]), .inl (0, 8, .inl (fun _ => 0))] from rfl) ?_
  refine x_aload_n C dX0_init_28 rfl rfl ?_
  refine x_new C dX0_init_29 nX0_18 (Nat.le_of_ble_eq_true rfl) (Nat.le_of_ble_eq_true rfl) ?_
  refine x_to (x_nx_nw hM rfl) ?_
  refine x_topr (a + 6) (show M.2 + 5 = a + 6 by omega) ?_
  refine x_dup C dX0_init_32 rfl ?_
  refine x_bipush (v := 8) C dX0_init_33 (by decide) ?_
  refine x_callI (As := [.int (nI 8)]) C dX0_init_35 kX0_20 (c_X4_init (N := 8) hO (x_bk_sub x_ov_bk 6 rfl) (show M.2 + 6 = a + 6 + 1 by omega) (by decide)) rfl rfl (by decide) ⟨Nat.le_of_ble_eq_true rfl, Nat.le_of_ble_eq_true rfl⟩ (Nat.le_of_ble_eq_true rfl) ?_
  rintro _ _ ⟨rfl, rfl⟩
  refine x_to (x_nx_in (j := 6) ⟨rfl, rfl⟩ (Nat.le_of_ble_eq_true rfl)) ?_
  refine x_to (show _ = x_ov (x_nx M 7) a [.inr (0, [.null, .ref (a + 1), .ref (a + 4), .null, .null, .null, .null, .null, .null, .null, .int 0, .int 0, .int 0]), .inr (3, [.ref (a + 2), .int 0]), .inr (4, [.ref (a + 3)]), .inl (0, 400, .inl (fun _ => 0)), .inr (4, [.ref (a + 5)]), .inl (0, 8, .inl (fun _ => 0)), .inr (4, [.ref (a + 7)]), .inl (0, 8, .inl (fun _ => 0))] from rfl) ?_
  refine x_putfinal C dX0_init_38 gfX0_27 rfl rfl (x_ovg 0 rfl) rfl rfl (Nat.le_of_ble_eq_true rfl) ?_
  refine x_to (x_st_ov 0 (Nat.le_of_ble_eq_true rfl)) ?_
  refine x_to (show _ = x_ov (x_nx M 7) a [.inr (0, [.null, .ref (a + 1), .ref (a + 4), .ref (a + 6), .null, .null, .null, .null, .null, .null, .int 0, .int 0, .int 0]), .inr (3, [.ref (a + 2), .int 0]), .inr (4, [.ref (a + 3)]), .inl (0, 400, .inl (fun _ => 0)), .inr (4, [.ref (a + 5)]), .inl (0, 8, .inl (fun _ => 0)), .inr (4, [.ref (a + 7)]), .inl (0, 8, .inl (fun _ => 0))] from rfl) ?_
  refine x_aload_n C dX0_init_41 rfl rfl ?_
  refine x_new C dX0_init_42 nX0_18 (Nat.le_of_ble_eq_true rfl) (Nat.le_of_ble_eq_true rfl) ?_
  refine x_to (x_nx_nw hM rfl) ?_
  refine x_topr (a + 8) (show M.2 + 7 = a + 8 by omega) ?_
  refine x_dup C dX0_init_45 rfl ?_
  refine x_bipush (v := 8) C dX0_init_46 (by decide) ?_
  refine x_callI (As := [.int (nI 8)]) C dX0_init_48 kX0_20 (c_X4_init (N := 8) hO (x_bk_sub x_ov_bk 8 rfl) (show M.2 + 8 = a + 8 + 1 by omega) (by decide)) rfl rfl (by decide) ⟨Nat.le_of_ble_eq_true rfl, Nat.le_of_ble_eq_true rfl⟩ (Nat.le_of_ble_eq_true rfl) ?_
  rintro _ _ ⟨rfl, rfl⟩
  refine x_to (x_nx_in (j := 8) ⟨rfl, rfl⟩ (Nat.le_of_ble_eq_true rfl)) ?_
  refine x_to (show _ = x_ov (x_nx M 9) a [.inr (0, [.null, .ref (a + 1), .ref (a + 4), .ref (a + 6), .null, .null, .null, .null, .null, .null, .int 0, .int 0, .int 0]), .inr (3, [.ref (a + 2), .int 0]), .inr (4, [.ref (a + 3)]), .inl (0, 400, .inl (fun _ => 0)), .inr (4, [.ref (a + 5)]), .inl (0, 8, .inl (fun _ => 0)), .inr (4, [.ref (a + 7)]), .inl (0, 8, .inl (fun _ => 0)), .inr (4, [.ref (a + 9)]), .inl (0, 8, .inl (fun _ => 0))] from rfl) ?_
  refine x_putfinal C dX0_init_51 gfX0_30 rfl rfl (x_ovg 0 rfl) rfl rfl (Nat.le_of_ble_eq_true rfl) ?_
  refine x_to (x_st_ov 0 (Nat.le_of_ble_eq_true rfl)) ?_
  refine x_to (show _ = x_ov (x_nx M 9) a [.inr (0, [.null, .ref (a + 1), .ref (a + 4), .ref (a + 6), .ref (a + 8), .null, .null, .null, .null, .null, .int 0, .int 0, .int 0]), .inr (3, [.ref (a + 2), .int 0]), .inr (4, [.ref (a + 3)]), .inl (0, 400, .inl (fun _ => 0)), .inr (4, [.ref (a + 5)]), .inl (0, 8, .inl (fun _ => 0)), .inr (4, [.ref (a + 7)]), .inl (0, 8, .inl (fun _ => 0)), .inr (4, [.ref (a + 9)]), .inl (0, 8, .inl (fun _ => 0))] from rfl) ?_
  refine x_aload_n C dX0_init_54 rfl rfl ?_
  refine x_new C dX0_init_55 nX0_18 (Nat.le_of_ble_eq_true rfl) (Nat.le_of_ble_eq_true rfl) ?_
  refine x_to (x_nx_nw hM rfl) ?_
  refine x_topr (a + 10) (show M.2 + 9 = a + 10 by omega) ?_
  refine x_dup C dX0_init_58 rfl ?_
  refine x_bipush (v := 8) C dX0_init_59 (by decide) ?_
  refine x_callI (As := [.int (nI 8)]) C dX0_init_61 kX0_20 (c_X4_init (N := 8) hO (x_bk_sub x_ov_bk 10 rfl) (show M.2 + 10 = a + 10 + 1 by omega) (by decide)) rfl rfl (by decide) ⟨Nat.le_of_ble_eq_true rfl, Nat.le_of_ble_eq_true rfl⟩ (Nat.le_of_ble_eq_true rfl) ?_
  rintro _ _ ⟨rfl, rfl⟩
  refine x_to (x_nx_in (j := 10) ⟨rfl, rfl⟩ (Nat.le_of_ble_eq_true rfl)) ?_
  refine x_to (show _ = x_ov (x_nx M 11) a [.inr (0, [.null, .ref (a + 1), .ref (a + 4), .ref (a + 6), .ref (a + 8), .null, .null, .null, .null, .null, .int 0, .int 0, .int 0]), .inr (3, [.ref (a + 2), .int 0]), .inr (4, [.ref (a + 3)]), .inl (0, 400, .inl (fun _ => 0)), .inr (4, [.ref (a + 5)]), .inl (0, 8, .inl (fun _ => 0)), .inr (4, [.ref (a + 7)]), .inl (0, 8, .inl (fun _ => 0)), .inr (4, [.ref (a + 9)]), .inl (0, 8, .inl (fun _ => 0)), .inr (4, [.ref (a + 11)]), .inl (0, 8, .inl (fun _ => 0))] from rfl) ?_
  refine x_putfinal C dX0_init_64 gfX0_33 rfl rfl (x_ovg 0 rfl) rfl rfl (Nat.le_of_ble_eq_true rfl) ?_
  refine x_to (x_st_ov 0 (Nat.le_of_ble_eq_true rfl)) ?_
  refine x_to (show _ = x_ov (x_nx M 11) a [.inr (0, [.null, .ref (a + 1), .ref (a + 4), .ref (a + 6), .ref (a + 8), .ref (a + 10), .null, .null, .null, .null, .int 0, .int 0, .int 0]), .inr (3, [.ref (a + 2), .int 0]), .inr (4, [.ref (a + 3)]), .inl (0, 400, .inl (fun _ => 0)), .inr (4, [.ref (a + 5)]), .inl (0, 8, .inl (fun _ => 0)), .inr (4, [.ref (a + 7)]), .inl (0, 8, .inl (fun _ => 0)), .inr (4, [.ref (a + 9)]), .inl (0, 8, .inl (fun _ => 0)), .inr (4, [.ref (a + 11)]), .inl (0, 8, .inl (fun _ => 0))] from rfl) ?_
  refine x_aload_n C dX0_init_67 rfl rfl ?_
  refine x_new C dX0_init_68 nX0_18 (Nat.le_of_ble_eq_true rfl) (Nat.le_of_ble_eq_true rfl) ?_
  refine x_to (x_nx_nw hM rfl) ?_
  refine x_topr (a + 12) (show M.2 + 11 = a + 12 by omega) ?_
  refine x_dup C dX0_init_71 rfl ?_
  refine x_bipush (v := 6) C dX0_init_72 (by decide) ?_
  refine x_callI (As := [.int (nI 6)]) C dX0_init_74 kX0_20 (c_X4_init (N := 6) hO (x_bk_sub x_ov_bk 12 rfl) (show M.2 + 12 = a + 12 + 1 by omega) (by decide)) rfl rfl (by decide) ⟨Nat.le_of_ble_eq_true rfl, Nat.le_of_ble_eq_true rfl⟩ (Nat.le_of_ble_eq_true rfl) ?_
  rintro _ _ ⟨rfl, rfl⟩
  refine x_to (x_nx_in (j := 12) ⟨rfl, rfl⟩ (Nat.le_of_ble_eq_true rfl)) ?_
  refine x_to (show _ = x_ov (x_nx M 13) a [.inr (0, [.null, .ref (a + 1), .ref (a + 4), .ref (a + 6), .ref (a + 8), .ref (a + 10), .null, .null, .null, .null, .int 0, .int 0, .int 0]), .inr (3, [.ref (a + 2), .int 0]), .inr (4, [.ref (a + 3)]), .inl (0, 400, .inl (fun _ => 0)), .inr (4, [.ref (a + 5)]), .inl (0, 8, .inl (fun _ => 0)), .inr (4, [.ref (a + 7)]), .inl (0, 8, .inl (fun _ => 0)), .inr (4, [.ref (a + 9)]), .inl (0, 8, .inl (fun _ => 0)), .inr (4, [.ref (a + 11)]), .inl (0, 8, .inl (fun _ => 0)), .inr (4, [.ref (a + 13)]), .inl (0, 6, .inl (fun _ => 0))] from rfl) ?_
  refine x_putfinal C dX0_init_77 gfX0_36 rfl rfl (x_ovg 0 rfl) rfl rfl (Nat.le_of_ble_eq_true rfl) ?_
  refine x_to (x_st_ov 0 (Nat.le_of_ble_eq_true rfl)) ?_
  refine x_to (show _ = x_ov (x_nx M 13) a [.inr (0, [.null, .ref (a + 1), .ref (a + 4), .ref (a + 6), .ref (a + 8), .ref (a + 10), .ref (a + 12), .null, .null, .null, .int 0, .int 0, .int 0]), .inr (3, [.ref (a + 2), .int 0]), .inr (4, [.ref (a + 3)]), .inl (0, 400, .inl (fun _ => 0)), .inr (4, [.ref (a + 5)]), .inl (0, 8, .inl (fun _ => 0)), .inr (4, [.ref (a + 7)]), .inl (0, 8, .inl (fun _ => 0)), .inr (4, [.ref (a + 9)]), .inl (0, 8, .inl (fun _ => 0)), .inr (4, [.ref (a + 11)]), .inl (0, 8, .inl (fun _ => 0)), .inr (4, [.ref (a + 13)]), .inl (0, 6, .inl (fun _ => 0))] from rfl) ?_
  refine x_aload_n C dX0_init_80 rfl rfl ?_
  refine x_new C dX0_init_81 nX0_18 (Nat.le_of_ble_eq_true rfl) (Nat.le_of_ble_eq_true rfl) ?_
  refine x_to (x_nx_nw hM rfl) ?_
  refine x_topr (a + 14) (show M.2 + 13 = a + 14 by omega) ?_
  refine x_dup C dX0_init_84 rfl ?_
  refine x_bipush (v := 6) C dX0_init_85 (by decide) ?_
  refine x_callI (As := [.int (nI 6)]) C dX0_init_87 kX0_20 (c_X4_init (N := 6) hO (x_bk_sub x_ov_bk 14 rfl) (show M.2 + 14 = a + 14 + 1 by omega) (by decide)) rfl rfl (by decide) ⟨Nat.le_of_ble_eq_true rfl, Nat.le_of_ble_eq_true rfl⟩ (Nat.le_of_ble_eq_true rfl) ?_
  rintro _ _ ⟨rfl, rfl⟩
  refine x_to (x_nx_in (j := 14) ⟨rfl, rfl⟩ (Nat.le_of_ble_eq_true rfl)) ?_
  refine x_to (show _ = x_ov (x_nx M 15) a [.inr (0, [.null, .ref (a + 1), .ref (a + 4), .ref (a + 6), .ref (a + 8), .ref (a + 10), .ref (a + 12), .null, .null, .null, .int 0, .int 0, .int 0]), .inr (3, [.ref (a + 2), .int 0]), .inr (4, [.ref (a + 3)]), .inl (0, 400, .inl (fun _ => 0)), .inr (4, [.ref (a + 5)]), .inl (0, 8, .inl (fun _ => 0)), .inr (4, [.ref (a + 7)]), .inl (0, 8, .inl (fun _ => 0)), .inr (4, [.ref (a + 9)]), .inl (0, 8, .inl (fun _ => 0)), .inr (4, [.ref (a + 11)]), .inl (0, 8, .inl (fun _ => 0)), .inr (4, [.ref (a + 13)]), .inl (0, 6, .inl (fun _ => 0)), .inr (4, [.ref (a + 15)]), .inl (0, 6, .inl (fun _ => 0))] from rfl) ?_
  refine x_putfinal C dX0_init_90 gfX0_39 rfl rfl (x_ovg 0 rfl) rfl rfl (Nat.le_of_ble_eq_true rfl) ?_
  refine x_to (x_st_ov 0 (Nat.le_of_ble_eq_true rfl)) ?_
  refine x_to (show _ = x_ov (x_nx M 15) a [.inr (0, [.null, .ref (a + 1), .ref (a + 4), .ref (a + 6), .ref (a + 8), .ref (a + 10), .ref (a + 12), .ref (a + 14), .null, .null, .int 0, .int 0, .int 0]), .inr (3, [.ref (a + 2), .int 0]), .inr (4, [.ref (a + 3)]), .inl (0, 400, .inl (fun _ => 0)), .inr (4, [.ref (a + 5)]), .inl (0, 8, .inl (fun _ => 0)), .inr (4, [.ref (a + 7)]), .inl (0, 8, .inl (fun _ => 0)), .inr (4, [.ref (a + 9)]), .inl (0, 8, .inl (fun _ => 0)), .inr (4, [.ref (a + 11)]), .inl (0, 8, .inl (fun _ => 0)), .inr (4, [.ref (a + 13)]), .inl (0, 6, .inl (fun _ => 0)), .inr (4, [.ref (a + 15)]), .inl (0, 6, .inl (fun _ => 0))] from rfl) ?_
  refine x_aload_n C dX0_init_93 rfl rfl ?_
  refine x_new C dX0_init_94 nX0_18 (Nat.le_of_ble_eq_true rfl) (Nat.le_of_ble_eq_true rfl) ?_
  refine x_to (x_nx_nw hM rfl) ?_
  refine x_topr (a + 16) (show M.2 + 15 = a + 16 by omega) ?_
  refine x_dup C dX0_init_97 rfl ?_
  refine x_bipush (v := 36) C dX0_init_98 (by decide) ?_
  refine x_callI (As := [.int (nI 36)]) C dX0_init_100 kX0_20 (c_X4_init (N := 36) hO (x_bk_sub x_ov_bk 16 rfl) (show M.2 + 16 = a + 16 + 1 by omega) (by decide)) rfl rfl (by decide) ⟨Nat.le_of_ble_eq_true rfl, Nat.le_of_ble_eq_true rfl⟩ (Nat.le_of_ble_eq_true rfl) ?_
  rintro _ _ ⟨rfl, rfl⟩
  refine x_to (x_nx_in (j := 16) ⟨rfl, rfl⟩ (Nat.le_of_ble_eq_true rfl)) ?_
  refine x_to (show _ = x_ov (x_nx M 17) a [.inr (0, [.null, .ref (a + 1), .ref (a + 4), .ref (a + 6), .ref (a + 8), .ref (a + 10), .ref (a + 12), .ref (a + 14), .null, .null, .int 0, .int 0, .int 0]), .inr (3, [.ref (a + 2), .int 0]), .inr (4, [.ref (a + 3)]), .inl (0, 400, .inl (fun _ => 0)), .inr (4, [.ref (a + 5)]), .inl (0, 8, .inl (fun _ => 0)), .inr (4, [.ref (a + 7)]), .inl (0, 8, .inl (fun _ => 0)), .inr (4, [.ref (a + 9)]), .inl (0, 8, .inl (fun _ => 0)), .inr (4, [.ref (a + 11)]), .inl (0, 8, .inl (fun _ => 0)), .inr (4, [.ref (a + 13)]), .inl (0, 6, .inl (fun _ => 0)), .inr (4, [.ref (a + 15)]), .inl (0, 6, .inl (fun _ => 0)), .inr (4, [.ref (a + 17)]), .inl (0, 36, .inl (fun _ => 0))] from rfl) ?_
  refine x_putfinal C dX0_init_103 gfX0_42 rfl rfl (x_ovg 0 rfl) rfl rfl (Nat.le_of_ble_eq_true rfl) ?_
  refine x_to (x_st_ov 0 (Nat.le_of_ble_eq_true rfl)) ?_
  refine x_to (show _ = x_ov (x_nx M 17) a [.inr (0, [.null, .ref (a + 1), .ref (a + 4), .ref (a + 6), .ref (a + 8), .ref (a + 10), .ref (a + 12), .ref (a + 14), .ref (a + 16), .null, .int 0, .int 0, .int 0]), .inr (3, [.ref (a + 2), .int 0]), .inr (4, [.ref (a + 3)]), .inl (0, 400, .inl (fun _ => 0)), .inr (4, [.ref (a + 5)]), .inl (0, 8, .inl (fun _ => 0)), .inr (4, [.ref (a + 7)]), .inl (0, 8, .inl (fun _ => 0)), .inr (4, [.ref (a + 9)]), .inl (0, 8, .inl (fun _ => 0)), .inr (4, [.ref (a + 11)]), .inl (0, 8, .inl (fun _ => 0)), .inr (4, [.ref (a + 13)]), .inl (0, 6, .inl (fun _ => 0)), .inr (4, [.ref (a + 15)]), .inl (0, 6, .inl (fun _ => 0)), .inr (4, [.ref (a + 17)]), .inl (0, 36, .inl (fun _ => 0))] from rfl) ?_
  refine x_aload_n C dX0_init_106 rfl rfl ?_
  refine x_new C dX0_init_107 nX0_18 (Nat.le_of_ble_eq_true rfl) (Nat.le_of_ble_eq_true rfl) ?_
  refine x_to (x_nx_nw hM rfl) ?_
  refine x_topr (a + 18) (show M.2 + 17 = a + 18 by omega) ?_
  refine x_dup C dX0_init_110 rfl ?_
  refine x_bipush (v := 36) C dX0_init_111 (by decide) ?_
  refine x_callI (As := [.int (nI 36)]) C dX0_init_113 kX0_20 (c_X4_init (N := 36) hO (x_bk_sub x_ov_bk 18 rfl) (show M.2 + 18 = a + 18 + 1 by omega) (by decide)) rfl rfl (by decide) ⟨Nat.le_of_ble_eq_true rfl, Nat.le_of_ble_eq_true rfl⟩ (Nat.le_of_ble_eq_true rfl) ?_
  rintro _ _ ⟨rfl, rfl⟩
  refine x_to (x_nx_in (j := 18) ⟨rfl, rfl⟩ (Nat.le_of_ble_eq_true rfl)) ?_
  refine x_to (show _ = x_ov (x_nx M 19) a [.inr (0, [.null, .ref (a + 1), .ref (a + 4), .ref (a + 6), .ref (a + 8), .ref (a + 10), .ref (a + 12), .ref (a + 14), .ref (a + 16), .null, .int 0, .int 0, .int 0]), .inr (3, [.ref (a + 2), .int 0]), .inr (4, [.ref (a + 3)]), .inl (0, 400, .inl (fun _ => 0)), .inr (4, [.ref (a + 5)]), .inl (0, 8, .inl (fun _ => 0)), .inr (4, [.ref (a + 7)]), .inl (0, 8, .inl (fun _ => 0)), .inr (4, [.ref (a + 9)]), .inl (0, 8, .inl (fun _ => 0)), .inr (4, [.ref (a + 11)]), .inl (0, 8, .inl (fun _ => 0)), .inr (4, [.ref (a + 13)]), .inl (0, 6, .inl (fun _ => 0)), .inr (4, [.ref (a + 15)]), .inl (0, 6, .inl (fun _ => 0)), .inr (4, [.ref (a + 17)]), .inl (0, 36, .inl (fun _ => 0)), .inr (4, [.ref (a + 19)]), .inl (0, 36, .inl (fun _ => 0))] from rfl) ?_
  refine x_putfinal C dX0_init_116 gfX0_45 rfl rfl (x_ovg 0 rfl) rfl rfl (Nat.le_of_ble_eq_true rfl) ?_
  refine x_to (x_st_ov 0 (Nat.le_of_ble_eq_true rfl)) ?_
  refine x_to (show _ = x_ov (x_nx M 19) a [.inr (0, [.null, .ref (a + 1), .ref (a + 4), .ref (a + 6), .ref (a + 8), .ref (a + 10), .ref (a + 12), .ref (a + 14), .ref (a + 16), .ref (a + 18), .int 0, .int 0, .int 0]), .inr (3, [.ref (a + 2), .int 0]), .inr (4, [.ref (a + 3)]), .inl (0, 400, .inl (fun _ => 0)), .inr (4, [.ref (a + 5)]), .inl (0, 8, .inl (fun _ => 0)), .inr (4, [.ref (a + 7)]), .inl (0, 8, .inl (fun _ => 0)), .inr (4, [.ref (a + 9)]), .inl (0, 8, .inl (fun _ => 0)), .inr (4, [.ref (a + 11)]), .inl (0, 8, .inl (fun _ => 0)), .inr (4, [.ref (a + 13)]), .inl (0, 6, .inl (fun _ => 0)), .inr (4, [.ref (a + 15)]), .inl (0, 6, .inl (fun _ => 0)), .inr (4, [.ref (a + 17)]), .inl (0, 36, .inl (fun _ => 0)), .inr (4, [.ref (a + 19)]), .inl (0, 36, .inl (fun _ => 0))] from rfl) ?_
  refine x_aload_n C dX0_init_119 rfl rfl ?_
  refine x_aload_n C dX0_init_120 rfl rfl ?_
  refine x_putfinal C dX0_init_121 gfX0_48 rfl rfl (x_ovg 0 rfl) rfl rfl (Nat.le_of_ble_eq_true rfl) ?_
  refine x_to (x_st_ov 0 (Nat.le_of_ble_eq_true rfl)) ?_
  refine x_to (show _ = x_ov (x_nx M 19) a [.inr (0, [.ref p, .ref (a + 1), .ref (a + 4), .ref (a + 6), .ref (a + 8), .ref (a + 10), .ref (a + 12), .ref (a + 14), .ref (a + 16), .ref (a + 18), .int 0, .int 0, .int 0]), .inr (3, [.ref (a + 2), .int 0]), .inr (4, [.ref (a + 3)]), .inl (0, 400, .inl (fun _ => 0)), .inr (4, [.ref (a + 5)]), .inl (0, 8, .inl (fun _ => 0)), .inr (4, [.ref (a + 7)]), .inl (0, 8, .inl (fun _ => 0)), .inr (4, [.ref (a + 9)]), .inl (0, 8, .inl (fun _ => 0)), .inr (4, [.ref (a + 11)]), .inl (0, 8, .inl (fun _ => 0)), .inr (4, [.ref (a + 13)]), .inl (0, 6, .inl (fun _ => 0)), .inr (4, [.ref (a + 15)]), .inl (0, 6, .inl (fun _ => 0)), .inr (4, [.ref (a + 17)]), .inl (0, 36, .inl (fun _ => 0)), .inr (4, [.ref (a + 19)]), .inl (0, 36, .inl (fun _ => 0))] from rfl) ?_
  refine x_aload_n C dX0_init_124 rfl rfl ?_
  refine x_to (congrArg (x_ov _ a) (h_hv0 (P := P))) ?_
  refine x_callV0 C dX0_init_125 kX0_52 (c_X0_startAnew hO hQ x_ov_bk (hpN _ rfl) (Or.inl hpa)) (x_ovg 0 rfl) rfl (by decide) ⟨Nat.le_of_ble_eq_true rfl, Nat.le_of_ble_eq_true rfl⟩ (Nat.le_of_ble_eq_true rfl) ?_
  rintro _ _ ⟨rfl, rfl⟩
  refine x_to (x_ov_ov rfl) ?_
  refine x_vret C E dX0_init_128 ?_
  exact ⟨rfl, rfl⟩
