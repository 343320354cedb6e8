/-- the heap with k more addresses taken -/
def x_nx (M : x_M) (k : Nat) : x_M := (M.1, M.2 + k)
theorem x_nx_nw {M : x_M} {a k : Nat} {L : List x_E} {c : x_E} (hM : M.2 = a + 1) (hl : L.length = k + 1) : x_nw (x_ov (x_nx M k) a L) c = x_ov (x_nx M (k + 1)) a (L ++ [c]) := by
  refine Prod.ext (funext fun q => ?_) rfl
  show (if q = M.2 + k then some c else (if a ≤ q ∧ q < a + L.length then L[q - a]? else M.1 q)) = (if a ≤ q ∧ q < a + (L ++ [c]).length then (L ++ [c])[q - a]? else M.1 q)
  have hn : (L ++ [c]).length = k + 2 := by simp [hl]
  rw [hn, hl]
  by_cases e : q = M.2 + k
  · rw [if_pos e, if_pos (by omega), List.getElem?_append_right (by omega), show q - a - L.length = 0 by omega]
    rfl
  · rw [if_neg e]
    by_cases h : a ≤ q ∧ q < a + (k + 1)
    · rw [if_pos h, if_pos (by omega), List.getElem?_append_left (by omega)]
    · rw [if_neg h, if_neg (by omega)]
theorem x_topr {K : x_K} {nL cells slots pc : Nat} {lv : List (Nat × Value)} {st : List Value} {M : x_M} {x : Nat} (x' : Nat) (h : x = x') (k : x_X K nL cells slots pc lv (.ref x' :: st) M) : x_X K nL cells slots pc lv (.ref x :: st) M := h ▸ k
def h_zz : HS := fun _ _ => 0
set_option maxHeartbeats 4000000 in
set_option maxRecDepth 100000 in
theorem c_X10_init {l : Launch} {Y0 : x_Y} (hO : x_Ok Y0) {M : x_M} {a o : Nat} {P : PL} (ha : x_bk M a [.inr (10, [.int 0, .int 0, .int 0, .null, .null, .null, .null, .null, .null, .null, .null, .null])]) (hM : M.2 = a + 1) : x_C l Y0 yX10_init cX10_init 2 none 2 8 117 [.ref a, .ref o] M (fun u M1 => u = none ∧ M1 = x_ov (x_nx M 8) a (stT a o P h_zz (fun _ => 0) 0)) := by
  refine x_start hO (by decide +kernel) (Nat.le_of_ble_eq_true rfl) (fun K C E => ?_)
  refine x_to ((x_ov_self ha).symm.trans (show x_ov M a _ = x_ov (x_nx M 0) a _ from rfl)) ?_
  refine x_aload_n C dX10_init_0 rfl rfl ?_
  refine x_aload_n C dX10_init_1 rfl rfl ?_
  refine x_putfinal C dX10_init_2 gfX10_3 rfl rfl (x_ovg 0 rfl) rfl rfl (Nat.le_of_ble_eq_true rfl) ?_
  refine x_to (x_st_ov 0 (Nat.le_of_ble_eq_true rfl)) ?_
  refine x_aload_n C dX10_init_5 rfl rfl ?_
  refine x_objInit C dX10_init_6 oX10_9 o_i o_c (by decide) (Nat.le_of_ble_eq_true rfl) ?_
  refine x_aload_n C dX10_init_9 rfl rfl ?_
  refine x_bipush (v := 8) C dX10_init_10 (by decide) ?_
  refine x_newarrI (N := 8) C dX10_init_12 o_ai (by decide) rfl (by decide) (Nat.le_of_ble_eq_true rfl) (Nat.le_of_ble_eq_true rfl) ?_
  refine x_to (x_nx_nw hM rfl) ?_
  refine x_topr (a + 1) (show M.2 + 0 = a + 1 by omega) ?_
  refine x_putfinal C dX10_init_14 gfX10_15 rfl rfl (x_ovg 0 rfl) rfl rfl (Nat.le_of_ble_eq_true rfl) ?_
  refine x_to (x_st_ov 0 (Nat.le_of_ble_eq_true rfl)) ?_
  refine x_aload_n C dX10_init_17 rfl rfl ?_
  refine x_bipush (v := 8) C dX10_init_18 (by decide) ?_
  refine x_newarrI (N := 8) C dX10_init_20 o_ai (by decide) rfl (by decide) (Nat.le_of_ble_eq_true rfl) (Nat.le_of_ble_eq_true rfl) ?_
  refine x_to (x_nx_nw hM rfl) ?_
  refine x_topr (a + 2) (show M.2 + 1 = a + 2 by omega) ?_
  refine x_putfinal C dX10_init_22 gfX10_19 rfl rfl (x_ovg 0 rfl) rfl rfl (Nat.le_of_ble_eq_true rfl) ?_
  refine x_to (x_st_ov 0 (Nat.le_of_ble_eq_true rfl)) ?_
  refine x_aload_n C dX10_init_25 rfl rfl ?_
  refine x_bipush (v := 8) C dX10_init_26 (by decide) ?_
  refine x_newarrI (N := 8) C dX10_init_28 o_ai (by decide) rfl (by decide) (Nat.le_of_ble_eq_true rfl) (Nat.le_of_ble_eq_true rfl) ?_
  refine x_to (x_nx_nw hM rfl) ?_
  refine x_topr (a + 3) (show M.2 + 2 = a + 3 by omega) ?_
  refine x_putfinal C dX10_init_30 gfX10_22 rfl rfl (x_ovg 0 rfl) rfl rfl (Nat.le_of_ble_eq_true rfl) ?_
  refine x_to (x_st_ov 0 (Nat.le_of_ble_eq_true rfl)) ?_
  refine x_aload_n C dX10_init_33 rfl rfl ?_
  refine x_bipush (v := 9) C dX10_init_34 (by decide) ?_
  refine x_newarrZ (N := 9) C dX10_init_36 o_ab (by decide) rfl (by decide) (Nat.le_of_ble_eq_true rfl) (Nat.le_of_ble_eq_true rfl) ?_
  refine x_to (x_nx_nw hM rfl) ?_
  refine x_topr (a + 4) (show M.2 + 3 = a + 4 by omega) ?_
  refine x_putfinal C dX10_init_38 gfX10_25 rfl rfl (x_ovg 0 rfl) rfl rfl (Nat.le_of_ble_eq_true rfl) ?_
  refine x_to (x_st_ov 0 (Nat.le_of_ble_eq_true rfl)) ?_
  refine x_aload_n C dX10_init_41 rfl rfl ?_
  refine x_bipush (v := 6) C dX10_init_42 (by decide) ?_
  refine x_newarrI (N := 6) C dX10_init_44 o_ai (by decide) rfl (by decide) (Nat.le_of_ble_eq_true rfl) (Nat.le_of_ble_eq_true rfl) ?_
  refine x_to (x_nx_nw hM rfl) ?_
  refine x_topr (a + 5) (show M.2 + 4 = a + 5 by omega) ?_
  refine x_putfinal C dX10_init_46 gfX10_29 rfl rfl (x_ovg 0 rfl) rfl rfl (Nat.le_of_ble_eq_true rfl) ?_
  refine x_to (x_st_ov 0 (Nat.le_of_ble_eq_true rfl)) ?_
  refine x_aload_n C dX10_init_49 rfl rfl ?_
  refine x_bipush (v := 6) C dX10_init_50 (by decide) ?_
  refine x_newarrI (N := 6) C dX10_init_52 o_ai (by decide) rfl (by decide) (Nat.le_of_ble_eq_true rfl) (Nat.le_of_ble_eq_true rfl) ?_
  refine x_to (x_nx_nw hM rfl) ?_
  refine x_topr (a + 6) (show M.2 + 5 = a + 6 by omega) ?_
  refine x_putfinal C dX10_init_54 gfX10_32 rfl rfl (x_ovg 0 rfl) rfl rfl (Nat.le_of_ble_eq_true rfl) ?_
  refine x_to (x_st_ov 0 (Nat.le_of_ble_eq_true rfl)) ?_
  refine x_aload_n C dX10_init_57 rfl rfl ?_
  refine x_bipush (v := 36) C dX10_init_58 (by decide) ?_
  refine x_newarrI (N := 36) C dX10_init_60 o_ai (by decide) rfl (by decide) (Nat.le_of_ble_eq_true rfl) (Nat.le_of_ble_eq_true rfl) ?_
  refine x_to (x_nx_nw hM rfl) ?_
  refine x_topr (a + 7) (show M.2 + 6 = a + 7 by omega) ?_
  refine x_putfinal C dX10_init_62 gfX10_35 rfl rfl (x_ovg 0 rfl) rfl rfl (Nat.le_of_ble_eq_true rfl) ?_
  refine x_to (x_st_ov 0 (Nat.le_of_ble_eq_true rfl)) ?_
  refine x_aload_n C dX10_init_65 rfl rfl ?_
  refine x_bipush (v := 36) C dX10_init_66 (by decide) ?_
  refine x_newarrZ (N := 36) C dX10_init_68 o_ab (by decide) rfl (by decide) (Nat.le_of_ble_eq_true rfl) (Nat.le_of_ble_eq_true rfl) ?_
  refine x_to (x_nx_nw hM rfl) ?_
  refine x_topr (a + 8) (show M.2 + 7 = a + 8 by omega) ?_
  refine x_putfinal C dX10_init_70 gfX10_38 rfl rfl (x_ovg 0 rfl) rfl rfl (Nat.le_of_ble_eq_true rfl) ?_
  refine x_to (x_st_ov 0 (Nat.le_of_ble_eq_true rfl)) ?_
  refine x_vret C E dX10_init_73 ?_
  refine ⟨rfl, ?_⟩
  have e : s_fill (p_nd P) (fun _ => 0) (h_zz 0) = fun _ => 0 := by
    funext j
    unfold s_fill h_zz
    split <;> rfl
  unfold stT
  rw [e]
  rfl
