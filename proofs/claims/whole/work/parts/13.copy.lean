theorem h_cell0 {a p : Nat} {P : PL} : (Sum.inr (0, [.ref p, .ref (a + 1), .ref (a + 4), .ref (a + 6), .ref (a + 8), .ref (a + 10), .ref (a + 12), .ref (a + 14), .ref (a + 16), .ref (a + 18), .int 0, .int 0, .int 1]) : x_E) = .inr (0, [.ref p, .ref (a + 1), .ref (a + 4), .ref (a + 6), .ref (a + 8), .ref (a + 10), .ref (a + 12), .ref (a + 14), .ref (a + 16), .ref (a + 18), .int (h_new P 8 0), .int (h_new P 8 1), .int (1 - h_new P 1 8)]) := by
  have hq : (1 : Int32) - h_new P 1 8 = 1 := by
    show (1 : Int32) - 0 = 1
    decide
  rw [hq]
  rfl
set_option maxHeartbeats 4000000 in
set_option maxRecDepth 100000 in
theorem c_X0_startAnew {l : Launch} {Y0 : x_Y} (hO : x_Ok Y0) {M : x_M} {a p : Nat} {P0 P : PL} {A : HS} {hx sk : Nat → Int32} {ht : Int32} {Q : HS} (hQ : q_is Q P) (hb : x_bk M a (hvT a p P0 A hx sk ht)) (hp : x_bk M p (plT p Q)) (hd : p + 21 ≤ a ∨ a + 20 ≤ p) : x_C l Y0 yX0_startAnew cX0_startAnew 1 none 3 0 0 [.ref a] M (fun u M1 => u = none ∧ M1 = x_ov M a (hvT a p P (h_new P) (Q 0) sk ht)) := by
  refine x_start hO (by decide +kernel) (Nat.le_of_ble_eq_true rfl) (fun K C E => ?_)
  have hpF : ∀ L : List x_E, L.length = 20 → x_bk (x_ov M a L) p (plT p Q) := fun L h => x_ov_far 20 hp h hd
  have hfst : ∀ (f : Nat → Int32) (j : Nat), j < 8 → s_fill 8 f (Q 0) j = s_fill (p_nd P) (Q 0) (h_new P 0) j := by
    intro f j hj
    rw [s_fill_in hj]
    by_cases h : j < p_nd P
    · rw [s_fill_in h]; exact hQ.2.2.2.2.2.2 j h
    · unfold s_fill; rw [if_neg h]
  refine x_to (x_ov_self hb).symm ?_
  refine x_aload_n C dX0_startAnew_0 rfl rfl ?_
  refine x_getfield C dX0_startAnew_1 fX0_23 (x_ovg 0 rfl) rfl ?_
  refine x_aload_n C dX0_startAnew_4 rfl rfl ?_
  refine x_getfield C dX0_startAnew_5 fX0_48 (x_ovg 0 rfl) rfl ?_
  refine x_getfield C dX0_startAnew_8 fX0_55 ((hpF _ rfl) 0 _ rfl) rfl ?_
  refine x_callV1 C dX0_startAnew_11 kX0_60 (c_X4_copyFrom hO (by decide) (x_bk_sub x_ov_bk 4 rfl) (x_bk_sub (hpF _ rfl) 1 rfl) (by omega)) (x_ovg 4 rfl) rfl (by decide) ⟨Nat.zero_le _, Nat.zero_le _⟩ (Nat.le_of_ble_eq_true rfl) ?_
  rintro _ _ ⟨rfl, rfl⟩
  refine x_to (x_st_ov 5 (Nat.le_of_ble_eq_true rfl)) ?_
  refine x_aload_n C dX0_startAnew_14 rfl rfl ?_
  refine x_getfield C dX0_startAnew_15 fX0_27 (x_ovg 0 rfl) rfl ?_
  refine x_iconst (v := 0) C dX0_startAnew_18 (by decide) ?_
  refine x_callV1 C dX0_startAnew_19 kX0_64 (c_X4_setAll hO (by decide) (x_bk_sub x_ov_bk 6 rfl)) (x_ovg 6 rfl) rfl (by decide) ⟨Nat.zero_le _, Nat.zero_le _⟩ (Nat.le_of_ble_eq_true rfl) ?_
  rintro _ _ ⟨rfl, rfl⟩
  refine x_to (x_st_ov 7 (Nat.le_of_ble_eq_true rfl)) ?_
  refine x_aload_n C dX0_startAnew_22 rfl rfl ?_
  refine x_getfield C dX0_startAnew_23 fX0_30 (x_ovg 0 rfl) rfl ?_
  refine x_iconst (v := (-1)) C dX0_startAnew_26 (by decide) ?_
  refine x_callV1 C dX0_startAnew_27 kX0_64 (c_X4_setAll hO (by decide) (x_bk_sub x_ov_bk 8 rfl)) (x_ovg 8 rfl) rfl (by decide) ⟨Nat.zero_le _, Nat.zero_le _⟩ (Nat.le_of_ble_eq_true rfl) ?_
  rintro _ _ ⟨rfl, rfl⟩
  refine x_to (x_st_ov 9 (Nat.le_of_ble_eq_true rfl)) ?_
  refine x_aload_n C dX0_startAnew_30 rfl rfl ?_
  refine x_getfield C dX0_startAnew_31 fX0_33 (x_ovg 0 rfl) rfl ?_
  refine x_iconst (v := 0) C dX0_startAnew_34 (by decide) ?_
  refine x_callV1 C dX0_startAnew_35 kX0_64 (c_X4_setAll hO (by decide) (x_bk_sub x_ov_bk 10 rfl)) (x_ovg 10 rfl) rfl (by decide) ⟨Nat.zero_le _, Nat.zero_le _⟩ (Nat.le_of_ble_eq_true rfl) ?_
  rintro _ _ ⟨rfl, rfl⟩
  refine x_to (x_st_ov 11 (Nat.le_of_ble_eq_true rfl)) ?_
  refine x_aload_n C dX0_startAnew_38 rfl rfl ?_
  refine x_getfield C dX0_startAnew_39 fX0_36 (x_ovg 0 rfl) rfl ?_
  refine x_iconst (v := 0) C dX0_startAnew_42 (by decide) ?_
  refine x_callV1 C dX0_startAnew_43 kX0_64 (c_X4_setAll hO (by decide) (x_bk_sub x_ov_bk 12 rfl)) (x_ovg 12 rfl) rfl (by decide) ⟨Nat.zero_le _, Nat.zero_le _⟩ (Nat.le_of_ble_eq_true rfl) ?_
  rintro _ _ ⟨rfl, rfl⟩
  refine x_to (x_st_ov 13 (Nat.le_of_ble_eq_true rfl)) ?_
  refine x_aload_n C dX0_startAnew_46 rfl rfl ?_
  refine x_getfield C dX0_startAnew_47 fX0_39 (x_ovg 0 rfl) rfl ?_
  refine x_iconst (v := 0) C dX0_startAnew_50 (by decide) ?_
  refine x_callV1 C dX0_startAnew_51 kX0_64 (c_X4_setAll hO (by decide) (x_bk_sub x_ov_bk 14 rfl)) (x_ovg 14 rfl) rfl (by decide) ⟨Nat.zero_le _, Nat.zero_le _⟩ (Nat.le_of_ble_eq_true rfl) ?_
  rintro _ _ ⟨rfl, rfl⟩
  refine x_to (x_st_ov 15 (Nat.le_of_ble_eq_true rfl)) ?_
  refine x_aload_n C dX0_startAnew_54 rfl rfl ?_
  refine x_getfield C dX0_startAnew_55 fX0_42 (x_ovg 0 rfl) rfl ?_
  refine x_iconst (v := 0) C dX0_startAnew_58 (by decide) ?_
  refine x_callV1 C dX0_startAnew_59 kX0_64 (c_X4_setAll hO (by decide) (x_bk_sub x_ov_bk 16 rfl)) (x_ovg 16 rfl) rfl (by decide) ⟨Nat.zero_le _, Nat.zero_le _⟩ (Nat.le_of_ble_eq_true rfl) ?_
  rintro _ _ ⟨rfl, rfl⟩
  refine x_to (x_st_ov 17 (Nat.le_of_ble_eq_true rfl)) ?_
  refine x_aload_n C dX0_startAnew_62 rfl rfl ?_
  refine x_getfield C dX0_startAnew_63 fX0_45 (x_ovg 0 rfl) rfl ?_
  refine x_iconst (v := 0) C dX0_startAnew_66 (by decide) ?_
  refine x_callV1 C dX0_startAnew_67 kX0_64 (c_X4_setAll hO (by decide) (x_bk_sub x_ov_bk 18 rfl)) (x_ovg 18 rfl) rfl (by decide) ⟨Nat.zero_le _, Nat.zero_le _⟩ (Nat.le_of_ble_eq_true rfl) ?_
  rintro _ _ ⟨rfl, rfl⟩
  refine x_to (x_st_ov 19 (Nat.le_of_ble_eq_true rfl)) ?_
  refine x_aload_n C dX0_startAnew_70 rfl rfl ?_
  refine x_iconst (v := 0) C dX0_startAnew_71 (by decide) ?_
  refine x_putfield C dX0_startAnew_72 fX0_67 (x_ovg 0 rfl) rfl rfl (Nat.le_of_ble_eq_true rfl) ?_
  refine x_to (x_st_ov 0 (Nat.le_of_ble_eq_true rfl)) ?_
  refine x_aload_n C dX0_startAnew_75 rfl rfl ?_
  refine x_iconst (v := 0) C dX0_startAnew_76 (by decide) ?_
  refine x_putfield C dX0_startAnew_77 fX0_71 (x_ovg 0 rfl) rfl rfl (Nat.le_of_ble_eq_true rfl) ?_
  refine x_to (x_st_ov 0 (Nat.le_of_ble_eq_true rfl)) ?_
  refine x_aload_n C dX0_startAnew_80 rfl rfl ?_
  refine x_iconst (v := 1) C dX0_startAnew_81 (by decide) ?_
  refine x_putfield C dX0_startAnew_82 fX0_74 (x_ovg 0 rfl) rfl rfl (Nat.le_of_ble_eq_true rfl) ?_
  refine x_to (x_st_ov 0 (Nat.le_of_ble_eq_true rfl)) ?_
  refine x_toE (hvT a p P (h_new P) (Q 0) sk ht) ⟨Or.inl h_cell0, Or.inl rfl, Or.inl rfl, Or.inl rfl, Or.inl rfl, x_cq (fun j hj => hfst _ j hj), Or.inl rfl, x_cq (fun j hj => (s_fill_in hj).trans (show (0 : Int32) = s_fill 8 (fun _ => 0) (h_new P 1) j by rw [s_fill_in hj]; rfl)), Or.inl rfl, x_cq (fun j hj => s_fill_in hj), Or.inl rfl, x_cq (fun j hj => s_fill_in hj), Or.inl rfl, x_cq (fun j hj => s_fill_in hj), Or.inl rfl, x_cq (fun j hj => s_fill_in hj), Or.inl rfl, x_cq (fun j hj => s_fill_in hj), Or.inl rfl, x_cq (fun j hj => s_fill_in hj), trivial⟩ ?_
  refine x_vret C E dX0_startAnew_85 ?_
  exact ⟨rfl, rfl⟩
set_option maxHeartbeats 4000000 in
set_option maxRecDepth 100000 in
theorem c_X0_copyFrom {l : Launch} {Y0 : x_Y} (hO : x_Ok Y0) {M : x_M} {a b p : Nat} {P : PL} {A B : HS} {hx sk hy sl : Nat → Int32} {ht hu : Int32} (hb : x_bk M a (hvT a p P A hx sk ht)) (ho : x_bk M b (hvT b p P B hy sl hu)) (hkB : h_ok P B) (hd : b + 20 ≤ a ∨ a + 20 ≤ b) : x_C l Y0 yX0_copyFrom cX0_copyFrom 2 none 3 0 0 [.ref a, .ref b] M (fun u M1 => u = none ∧ M1 = x_ov M a (hvT a p P B hy sk ht)) := by
  refine x_start hO (by decide +kernel) (Nat.le_of_ble_eq_true rfl) (fun K C E => ?_)
  have hbF : ∀ L : List x_E, L.length = 20 → x_bk (x_ov M a L) b (hvT b p P B hy sl hu) := fun L h => x_ov_far 20 ho h hd
  refine x_to (x_ov_self hb).symm ?_
  refine x_aload_n C dX0_copyFrom_0 rfl rfl ?_
  refine x_getfield C dX0_copyFrom_1 fX0_23 (x_ovg 0 rfl) rfl ?_
  refine x_aload_n C dX0_copyFrom_4 rfl rfl ?_
  refine x_getfield C dX0_copyFrom_5 fX0_23 ((hbF _ rfl) 0 _ rfl) rfl ?_
  refine x_callV1 C dX0_copyFrom_8 kX0_60 (c_X4_copyFrom hO (by decide) (x_bk_sub x_ov_bk 4 rfl) (x_bk_sub (hbF _ rfl) 4 rfl) (by omega)) (x_ovg 4 rfl) rfl (by decide) ⟨Nat.zero_le _, Nat.zero_le _⟩ (Nat.le_of_ble_eq_true rfl) ?_
  rintro _ _ ⟨rfl, rfl⟩
  refine x_to (x_st_ov 5 (Nat.le_of_ble_eq_true rfl)) ?_
  refine x_aload_n C dX0_copyFrom_11 rfl rfl ?_
  refine x_getfield C dX0_copyFrom_12 fX0_27 (x_ovg 0 rfl) rfl ?_
  refine x_aload_n C dX0_copyFrom_15 rfl rfl ?_
  refine x_getfield C dX0_copyFrom_16 fX0_27 ((hbF _ rfl) 0 _ rfl) rfl ?_
  refine x_callV1 C dX0_copyFrom_19 kX0_60 (c_X4_copyFrom hO (by decide) (x_bk_sub x_ov_bk 6 rfl) (x_bk_sub (hbF _ rfl) 6 rfl) (by omega)) (x_ovg 6 rfl) rfl (by decide) ⟨Nat.zero_le _, Nat.zero_le _⟩ (Nat.le_of_ble_eq_true rfl) ?_
  rintro _ _ ⟨rfl, rfl⟩
  refine x_to (x_st_ov 7 (Nat.le_of_ble_eq_true rfl)) ?_
  refine x_aload_n C dX0_copyFrom_22 rfl rfl ?_
  refine x_getfield C dX0_copyFrom_23 fX0_30 (x_ovg 0 rfl) rfl ?_
  refine x_aload_n C dX0_copyFrom_26 rfl rfl ?_
  refine x_getfield C dX0_copyFrom_27 fX0_30 ((hbF _ rfl) 0 _ rfl) rfl ?_
  refine x_callV1 C dX0_copyFrom_30 kX0_60 (c_X4_copyFrom hO (by decide) (x_bk_sub x_ov_bk 8 rfl) (x_bk_sub (hbF _ rfl) 8 rfl) (by omega)) (x_ovg 8 rfl) rfl (by decide) ⟨Nat.zero_le _, Nat.zero_le _⟩ (Nat.le_of_ble_eq_true rfl) ?_
  rintro _ _ ⟨rfl, rfl⟩
  refine x_to (x_st_ov 9 (Nat.le_of_ble_eq_true rfl)) ?_
  refine x_aload_n C dX0_copyFrom_33 rfl rfl ?_
  refine x_getfield C dX0_copyFrom_34 fX0_33 (x_ovg 0 rfl) rfl ?_
  refine x_aload_n C dX0_copyFrom_37 rfl rfl ?_
  refine x_getfield C dX0_copyFrom_38 fX0_33 ((hbF _ rfl) 0 _ rfl) rfl ?_
  refine x_callV1 C dX0_copyFrom_41 kX0_60 (c_X4_copyFrom hO (by decide) (x_bk_sub x_ov_bk 10 rfl) (x_bk_sub (hbF _ rfl) 10 rfl) (by omega)) (x_ovg 10 rfl) rfl (by decide) ⟨Nat.zero_le _, Nat.zero_le _⟩ (Nat.le_of_ble_eq_true rfl) ?_
  rintro _ _ ⟨rfl, rfl⟩
  refine x_to (x_st_ov 11 (Nat.le_of_ble_eq_true rfl)) ?_
  refine x_aload_n C dX0_copyFrom_44 rfl rfl ?_
  refine x_getfield C dX0_copyFrom_45 fX0_36 (x_ovg 0 rfl) rfl ?_
  refine x_aload_n C dX0_copyFrom_48 rfl rfl ?_
  refine x_getfield C dX0_copyFrom_49 fX0_36 ((hbF _ rfl) 0 _ rfl) rfl ?_
  refine x_callV1 C dX0_copyFrom_52 kX0_60 (c_X4_copyFrom hO (by decide) (x_bk_sub x_ov_bk 12 rfl) (x_bk_sub (hbF _ rfl) 12 rfl) (by omega)) (x_ovg 12 rfl) rfl (by decide) ⟨Nat.zero_le _, Nat.zero_le _⟩ (Nat.le_of_ble_eq_true rfl) ?_
  rintro _ _ ⟨rfl, rfl⟩
  refine x_to (x_st_ov 13 (Nat.le_of_ble_eq_true rfl)) ?_
  refine x_aload_n C dX0_copyFrom_55 rfl rfl ?_
  refine x_getfield C dX0_copyFrom_56 fX0_39 (x_ovg 0 rfl) rfl ?_
  refine x_aload_n C dX0_copyFrom_59 rfl rfl ?_
  refine x_getfield C dX0_copyFrom_60 fX0_39 ((hbF _ rfl) 0 _ rfl) rfl ?_
  refine x_callV1 C dX0_copyFrom_63 kX0_60 (c_X4_copyFrom hO (by decide) (x_bk_sub x_ov_bk 14 rfl) (x_bk_sub (hbF _ rfl) 14 rfl) (by omega)) (x_ovg 14 rfl) rfl (by decide) ⟨Nat.zero_le _, Nat.zero_le _⟩ (Nat.le_of_ble_eq_true rfl) ?_
  rintro _ _ ⟨rfl, rfl⟩
  refine x_to (x_st_ov 15 (Nat.le_of_ble_eq_true rfl)) ?_
  refine x_aload_n C dX0_copyFrom_66 rfl rfl ?_
  refine x_getfield C dX0_copyFrom_67 fX0_42 (x_ovg 0 rfl) rfl ?_
  refine x_aload_n C dX0_copyFrom_70 rfl rfl ?_
  refine x_getfield C dX0_copyFrom_71 fX0_42 ((hbF _ rfl) 0 _ rfl) rfl ?_
  refine x_callV1 C dX0_copyFrom_74 kX0_60 (c_X4_copyFrom hO (by decide) (x_bk_sub x_ov_bk 16 rfl) (x_bk_sub (hbF _ rfl) 16 rfl) (by omega)) (x_ovg 16 rfl) rfl (by decide) ⟨Nat.zero_le _, Nat.zero_le _⟩ (Nat.le_of_ble_eq_true rfl) ?_
  rintro _ _ ⟨rfl, rfl⟩
  refine x_to (x_st_ov 17 (Nat.le_of_ble_eq_true rfl)) ?_
  refine x_aload_n C dX0_copyFrom_77 rfl rfl ?_
  refine x_getfield C dX0_copyFrom_78 fX0_45 (x_ovg 0 rfl) rfl ?_
  refine x_aload_n C dX0_copyFrom_81 rfl rfl ?_
  refine x_getfield C dX0_copyFrom_82 fX0_45 ((hbF _ rfl) 0 _ rfl) rfl ?_
  refine x_callV1 C dX0_copyFrom_85 kX0_60 (c_X4_copyFrom hO (by decide) (x_bk_sub x_ov_bk 18 rfl) (x_bk_sub (hbF _ rfl) 18 rfl) (by omega)) (x_ovg 18 rfl) rfl (by decide) ⟨Nat.zero_le _, Nat.zero_le _⟩ (Nat.le_of_ble_eq_true rfl) ?_
  rintro _ _ ⟨rfl, rfl⟩
  refine x_to (x_st_ov 19 (Nat.le_of_ble_eq_true rfl)) ?_
  refine x_aload_n C dX0_copyFrom_88 rfl rfl ?_
  refine x_aload_n C dX0_copyFrom_89 rfl rfl ?_
  refine x_getfield C dX0_copyFrom_90 fX0_67 ((hbF _ rfl) 0 _ rfl) rfl ?_
  refine x_putfield C dX0_copyFrom_93 fX0_67 (x_ovg 0 rfl) rfl rfl (Nat.le_of_ble_eq_true rfl) ?_
  refine x_to (x_st_ov 0 (Nat.le_of_ble_eq_true rfl)) ?_
  refine x_aload_n C dX0_copyFrom_96 rfl rfl ?_
  refine x_aload_n C dX0_copyFrom_97 rfl rfl ?_
  refine x_getfield C dX0_copyFrom_98 fX0_71 ((hbF _ rfl) 0 _ rfl) rfl ?_
  refine x_putfield C dX0_copyFrom_101 fX0_71 (x_ovg 0 rfl) rfl rfl (Nat.le_of_ble_eq_true rfl) ?_
  refine x_to (x_st_ov 0 (Nat.le_of_ble_eq_true rfl)) ?_
  refine x_aload_n C dX0_copyFrom_104 rfl rfl ?_
  refine x_aload_n C dX0_copyFrom_105 rfl rfl ?_
  refine x_getfield C dX0_copyFrom_106 fX0_74 ((hbF _ rfl) 0 _ rfl) rfl ?_
  refine x_putfield C dX0_copyFrom_109 fX0_74 (x_ovg 0 rfl) (by rcases hkB.1 8 with q | q <;> rw [q] <;> rfl) (by rcases hkB.1 8 with q | q <;> rw [q] <;> rfl) (Nat.le_of_ble_eq_true rfl) ?_
  refine x_to (x_st_ov 0 (Nat.le_of_ble_eq_true rfl)) ?_
  refine x_toE (hvT a p P B hy sk ht) ⟨Or.inl rfl, Or.inl rfl, Or.inl rfl, Or.inl rfl, Or.inl rfl, x_cq (fun j hj => s_fill_in hj), Or.inl rfl, x_cq (fun j hj => s_fill_in hj), Or.inl rfl, x_cq (fun j hj => s_fill_in hj), Or.inl rfl, x_cq (fun j hj => s_fill_in hj), Or.inl rfl, x_cq (fun j hj => s_fill_in hj), Or.inl rfl, x_cq (fun j hj => s_fill_in hj), Or.inl rfl, x_cq (fun j hj => s_fill_in hj), Or.inl rfl, x_cq (fun j hj => s_fill_in hj), trivial⟩ ?_
  refine x_vret C E dX0_copyFrom_112 ?_
  exact ⟨rfl, rfl⟩
/-- a row put in the place of another -/
def q_r (Q : HS) (r : Nat) (f : Nat → Int32) : HS := fun q => if q = r then f else Q q
def q_clear (Q : HS) : HS := h_u (h_u (h_u (h_u Q 10 0 0) 10 1 0) 10 2 0) 10 3 0
def q_addCode (Q : HS) (k x : Int32) : HS := h_u (q_r (q_r Q 8 (rs 400 (Q 8) (Q 10 3) k)) 9 (rs 400 (Q 9) (Q 10 3) x)) 10 3 (Q 10 3 + 1)
def q_addOrder (Q : HS) (v t s : Int32) : HS := h_u (q_r (q_r (q_r (q_r Q 4 (rs 16 (Q 4) (Q 10 2) v)) 5 (rs 16 (Q 5) (Q 10 2) t)) 6 (rs 16 (Q 6) (Q 10 2) s)) 7 (rs 16 (Q 7) (Q 10 2) (Q 10 3))) 10 2 (Q 10 2 + 1)
set_option maxHeartbeats 4000000 in
set_option maxRecDepth 100000 in
theorem c_X2_clear {l : Launch} {Y0 : x_Y} (hO : x_Ok Y0) {M : x_M} {p : Nat} {Q : HS} (hp : x_bk M p (plT p Q)) : x_C l Y0 yX2_clear cX2_clear 1 none 1 0 0 [.ref p] M (fun u M1 => u = none ∧ M1 = x_ov M p (plT p (q_clear Q))) := by
  refine x_start hO (by decide +kernel) (Nat.le_of_ble_eq_true rfl) (fun K C E => ?_)
  refine x_to (x_ov_self hp).symm ?_
  refine x_aload_n C dX2_clear_0 rfl rfl ?_
  refine x_iconst (v := 0) C dX2_clear_1 (by decide) ?_
  refine x_putfield C dX2_clear_2 fX2_47 (x_ovg 0 rfl) rfl rfl (Nat.le_of_ble_eq_true rfl) ?_
  refine x_to (x_st_ov 0 (Nat.le_of_ble_eq_true rfl)) ?_
  refine x_aload_n C dX2_clear_5 rfl rfl ?_
  refine x_iconst (v := 0) C dX2_clear_6 (by decide) ?_
  refine x_putfield C dX2_clear_7 fX2_51 (x_ovg 0 rfl) rfl rfl (Nat.le_of_ble_eq_true rfl) ?_
  refine x_to (x_st_ov 0 (Nat.le_of_ble_eq_true rfl)) ?_
  refine x_aload_n C dX2_clear_10 rfl rfl ?_
  refine x_iconst (v := 0) C dX2_clear_11 (by decide) ?_
  refine x_putfield C dX2_clear_12 fX2_54 (x_ovg 0 rfl) rfl rfl (Nat.le_of_ble_eq_true rfl) ?_
  refine x_to (x_st_ov 0 (Nat.le_of_ble_eq_true rfl)) ?_
  refine x_aload_n C dX2_clear_15 rfl rfl ?_
  refine x_iconst (v := 0) C dX2_clear_16 (by decide) ?_
  refine x_putfield C dX2_clear_17 fX2_57 (x_ovg 0 rfl) rfl rfl (Nat.le_of_ble_eq_true rfl) ?_
  refine x_to (x_st_ov 0 (Nat.le_of_ble_eq_true rfl)) ?_
  refine x_vret C E dX2_clear_20 ?_
  exact ⟨rfl, rfl⟩
set_option maxHeartbeats 4000000 in
set_option maxRecDepth 100000 in
theorem c_X2_addCode {l : Launch} {Y0 : x_Y} (hO : x_Ok Y0) {M : x_M} {p : Nat} {Q : HS} (hp : x_bk M p (plT p Q)) {k x : Int32} : x_C l Y0 yX2_addCode cX2_addCode 3 none 2 0 0 [.ref p, .int k, .int x] M (fun u M1 => u = none ∧ M1 = x_ov M p (plT p (q_addCode Q k x))) := by
  refine x_start hO (by decide +kernel) (Nat.le_of_ble_eq_true rfl) (fun K C E => ?_)
  refine x_to (x_ov_self hp).symm ?_
  refine x_aload_n C dX2_addCode_0 rfl rfl ?_
  refine x_getfield C dX2_addCode_1 fX2_41 (x_ovg 0 rfl) rfl ?_
  refine x_aload_n C dX2_addCode_4 rfl rfl ?_
  refine x_getfield C dX2_addCode_5 fX2_57 (x_ovg 0 rfl) rfl ?_
  refine x_iload_n C dX2_addCode_8 rfl rfl ?_
  refine x_callV2 C dX2_addCode_9 kX2_60 (c_X4_set hO (by decide) (x_bk_sub x_ov_bk 17 rfl)) (x_ovg 17 rfl) rfl (by decide) ⟨Nat.zero_le _, Nat.zero_le _⟩ (Nat.le_of_ble_eq_true rfl) ?_
  rintro _ _ ⟨rfl, rfl⟩
  refine x_to (x_st_ov 18 (Nat.le_of_ble_eq_true rfl)) ?_
  refine x_aload_n C dX2_addCode_12 rfl rfl ?_
  refine x_getfield C dX2_addCode_13 fX2_44 (x_ovg 0 rfl) rfl ?_
  refine x_aload_n C dX2_addCode_16 rfl rfl ?_
  refine x_getfield C dX2_addCode_17 fX2_57 (x_ovg 0 rfl) rfl ?_
  refine x_iload_n C dX2_addCode_20 rfl rfl ?_
  refine x_callV2 C dX2_addCode_21 kX2_60 (c_X4_set hO (by decide) (x_bk_sub x_ov_bk 19 rfl)) (x_ovg 19 rfl) rfl (by decide) ⟨Nat.zero_le _, Nat.zero_le _⟩ (Nat.le_of_ble_eq_true rfl) ?_
  rintro _ _ ⟨rfl, rfl⟩
  refine x_to (x_st_ov 20 (Nat.le_of_ble_eq_true rfl)) ?_
  refine x_aload_n C dX2_addCode_24 rfl rfl ?_
  refine x_dup C dX2_addCode_25 rfl ?_
  refine x_getfield C dX2_addCode_26 fX2_57 (x_ovg 0 rfl) rfl ?_
  refine x_iconst (v := 1) C dX2_addCode_29 (by decide) ?_
  refine x_iadd C dX2_addCode_30 ?_
  refine x_putfield C dX2_addCode_31 fX2_57 (x_ovg 0 rfl) rfl rfl (Nat.le_of_ble_eq_true rfl) ?_
  refine x_to (x_st_ov 0 (Nat.le_of_ble_eq_true rfl)) ?_
  refine x_vret C E dX2_addCode_34 ?_
  exact ⟨rfl, rfl⟩
set_option maxHeartbeats 4000000 in
set_option maxRecDepth 100000 in
theorem c_X2_addOrder {l : Launch} {Y0 : x_Y} (hO : x_Ok Y0) {M : x_M} {p : Nat} {Q : HS} (hp : x_bk M p (plT p Q)) {v t s : Int32} : x_C l Y0 yX2_addOrder cX2_addOrder 4 none 2 0 0 [.ref p, .int v, .int t, .int s] M (fun u M1 => u = none ∧ M1 = x_ov M p (plT p (q_addOrder Q v t s))) := by
  refine x_start hO (by decide +kernel) (Nat.le_of_ble_eq_true rfl) (fun K C E => ?_)
  refine x_to (x_ov_self hp).symm ?_
  refine x_aload_n C dX2_addOrder_0 rfl rfl ?_
  refine x_getfield C dX2_addOrder_1 fX2_29 (x_ovg 0 rfl) rfl ?_
  refine x_aload_n C dX2_addOrder_4 rfl rfl ?_
  refine x_getfield C dX2_addOrder_5 fX2_54 (x_ovg 0 rfl) rfl ?_
  refine x_iload_n C dX2_addOrder_8 rfl rfl ?_
  refine x_callV2 C dX2_addOrder_9 kX2_60 (c_X4_set hO (by decide) (x_bk_sub x_ov_bk 9 rfl)) (x_ovg 9 rfl) rfl (by decide) ⟨Nat.zero_le _, Nat.zero_le _⟩ (Nat.le_of_ble_eq_true rfl) ?_
  rintro _ _ ⟨rfl, rfl⟩
  refine x_to (x_st_ov 10 (Nat.le_of_ble_eq_true rfl)) ?_
  refine x_aload_n C dX2_addOrder_12 rfl rfl ?_
  refine x_getfield C dX2_addOrder_13 fX2_32 (x_ovg 0 rfl) rfl ?_
  refine x_aload_n C dX2_addOrder_16 rfl rfl ?_
  refine x_getfield C dX2_addOrder_17 fX2_54 (x_ovg 0 rfl) rfl ?_
  refine x_iload_n C dX2_addOrder_20 rfl rfl ?_
  refine x_callV2 C dX2_addOrder_21 kX2_60 (c_X4_set hO (by decide) (x_bk_sub x_ov_bk 11 rfl)) (x_ovg 11 rfl) rfl (by decide) ⟨Nat.zero_le _, Nat.zero_le _⟩ (Nat.le_of_ble_eq_true rfl) ?_
  rintro _ _ ⟨rfl, rfl⟩
  refine x_to (x_st_ov 12 (Nat.le_of_ble_eq_true rfl)) ?_
  refine x_aload_n C dX2_addOrder_24 rfl rfl ?_
  refine x_getfield C dX2_addOrder_25 fX2_35 (x_ovg 0 rfl) rfl ?_
  refine x_aload_n C dX2_addOrder_28 rfl rfl ?_
  refine x_getfield C dX2_addOrder_29 fX2_54 (x_ovg 0 rfl) rfl ?_
  refine x_iload_n C dX2_addOrder_32 rfl rfl ?_
  refine x_callV2 C dX2_addOrder_33 kX2_60 (c_X4_set hO (by decide) (x_bk_sub x_ov_bk 13 rfl)) (x_ovg 13 rfl) rfl (by decide) ⟨Nat.zero_le _, Nat.zero_le _⟩ (Nat.le_of_ble_eq_true rfl) ?_
  rintro _ _ ⟨rfl, rfl⟩
  refine x_to (x_st_ov 14 (Nat.le_of_ble_eq_true rfl)) ?_
  refine x_aload_n C dX2_addOrder_36 rfl rfl ?_
  refine x_getfield C dX2_addOrder_37 fX2_38 (x_ovg 0 rfl) rfl ?_
  refine x_aload_n C dX2_addOrder_40 rfl rfl ?_
  refine x_getfield C dX2_addOrder_41 fX2_54 (x_ovg 0 rfl) rfl ?_
  refine x_aload_n C dX2_addOrder_44 rfl rfl ?_
  refine x_getfield C dX2_addOrder_45 fX2_57 (x_ovg 0 rfl) rfl ?_
  refine x_callV2 C dX2_addOrder_48 kX2_60 (c_X4_set hO (by decide) (x_bk_sub x_ov_bk 15 rfl)) (x_ovg 15 rfl) rfl (by decide) ⟨Nat.zero_le _, Nat.zero_le _⟩ (Nat.le_of_ble_eq_true rfl) ?_
  rintro _ _ ⟨rfl, rfl⟩
  refine x_to (x_st_ov 16 (Nat.le_of_ble_eq_true rfl)) ?_
  refine x_aload_n C dX2_addOrder_51 rfl rfl ?_
  refine x_dup C dX2_addOrder_52 rfl ?_
  refine x_getfield C dX2_addOrder_53 fX2_54 (x_ovg 0 rfl) rfl ?_
  refine x_iconst (v := 1) C dX2_addOrder_56 (by decide) ?_
  refine x_iadd C dX2_addOrder_57 ?_
  refine x_putfield C dX2_addOrder_58 fX2_54 (x_ovg 0 rfl) rfl rfl (Nat.le_of_ble_eq_true rfl) ?_
  refine x_to (x_st_ov 0 (Nat.le_of_ble_eq_true rfl)) ?_
  refine x_vret C E dX2_addOrder_61 ?_
  exact ⟨rfl, rfl⟩
set_option maxHeartbeats 4000000 in
set_option maxRecDepth 100000 in
theorem c_X2_copyFrom {l : Launch} {Y0 : x_Y} (hO : x_Ok Y0) {M : x_M} {p b : Nat} {Q R : HS} (hp : x_bk M p (plT p Q)) (ho : x_bk M b (plT b R)) (hd : b + 21 ≤ p ∨ p + 21 ≤ b) : x_C l Y0 yX2_copyFrom cX2_copyFrom 2 none 3 0 0 [.ref p, .ref b] M (fun u M1 => u = none ∧ M1 = x_ov M p (plT p R)) := by
  refine x_start hO (by decide +kernel) (Nat.le_of_ble_eq_true rfl) (fun K C E => ?_)
  have hbF : ∀ L : List x_E, L.length = 21 → x_bk (x_ov M p L) b (plT b R) := fun L h => x_ov_far 21 ho h hd
  refine x_to (x_ov_self hp).symm ?_
  refine x_aload_n C dX2_copyFrom_0 rfl rfl ?_
  refine x_aload_n C dX2_copyFrom_1 rfl rfl ?_
  refine x_getfield C dX2_copyFrom_2 fX2_47 ((hbF _ rfl) 0 _ rfl) rfl ?_
  refine x_putfield C dX2_copyFrom_5 fX2_47 (x_ovg 0 rfl) rfl rfl (Nat.le_of_ble_eq_true rfl) ?_
  refine x_to (x_st_ov 0 (Nat.le_of_ble_eq_true rfl)) ?_
  refine x_aload_n C dX2_copyFrom_8 rfl rfl ?_
  refine x_aload_n C dX2_copyFrom_9 rfl rfl ?_
  refine x_getfield C dX2_copyFrom_10 fX2_51 ((hbF _ rfl) 0 _ rfl) rfl ?_
  refine x_putfield C dX2_copyFrom_13 fX2_51 (x_ovg 0 rfl) rfl rfl (Nat.le_of_ble_eq_true rfl) ?_
  refine x_to (x_st_ov 0 (Nat.le_of_ble_eq_true rfl)) ?_
  refine x_aload_n C dX2_copyFrom_16 rfl rfl ?_
  refine x_aload_n C dX2_copyFrom_17 rfl rfl ?_
  refine x_getfield C dX2_copyFrom_18 fX2_54 ((hbF _ rfl) 0 _ rfl) rfl ?_
  refine x_putfield C dX2_copyFrom_21 fX2_54 (x_ovg 0 rfl) rfl rfl (Nat.le_of_ble_eq_true rfl) ?_
  refine x_to (x_st_ov 0 (Nat.le_of_ble_eq_true rfl)) ?_
  refine x_aload_n C dX2_copyFrom_24 rfl rfl ?_
  refine x_aload_n C dX2_copyFrom_25 rfl rfl ?_
  refine x_getfield C dX2_copyFrom_26 fX2_57 ((hbF _ rfl) 0 _ rfl) rfl ?_
  refine x_putfield C dX2_copyFrom_29 fX2_57 (x_ovg 0 rfl) rfl rfl (Nat.le_of_ble_eq_true rfl) ?_
  refine x_to (x_st_ov 0 (Nat.le_of_ble_eq_true rfl)) ?_
  refine x_aload_n C dX2_copyFrom_32 rfl rfl ?_
  refine x_getfield C dX2_copyFrom_33 fX2_14 (x_ovg 0 rfl) rfl ?_
  refine x_aload_n C dX2_copyFrom_36 rfl rfl ?_
  refine x_getfield C dX2_copyFrom_37 fX2_14 ((hbF _ rfl) 0 _ rfl) rfl ?_
  refine x_callV1 C dX2_copyFrom_40 kX2_64 (c_X4_copyFrom hO (by decide) (x_bk_sub x_ov_bk 1 rfl) (x_bk_sub (hbF _ rfl) 1 rfl) (by omega)) (x_ovg 1 rfl) rfl (by decide) ⟨Nat.zero_le _, Nat.zero_le _⟩ (Nat.le_of_ble_eq_true rfl) ?_
  rintro _ _ ⟨rfl, rfl⟩
  refine x_to (x_st_ov 2 (Nat.le_of_ble_eq_true rfl)) ?_
  refine x_aload_n C dX2_copyFrom_43 rfl rfl ?_
  refine x_getfield C dX2_copyFrom_44 fX2_20 (x_ovg 0 rfl) rfl ?_
  refine x_aload_n C dX2_copyFrom_47 rfl rfl ?_
  refine x_getfield C dX2_copyFrom_48 fX2_20 ((hbF _ rfl) 0 _ rfl) rfl ?_
  refine x_callV1 C dX2_copyFrom_51 kX2_64 (c_X4_copyFrom hO (by decide) (x_bk_sub x_ov_bk 3 rfl) (x_bk_sub (hbF _ rfl) 3 rfl) (by omega)) (x_ovg 3 rfl) rfl (by decide) ⟨Nat.zero_le _, Nat.zero_le _⟩ (Nat.le_of_ble_eq_true rfl) ?_
  rintro _ _ ⟨rfl, rfl⟩
  refine x_to (x_st_ov 4 (Nat.le_of_ble_eq_true rfl)) ?_
  refine x_aload_n C dX2_copyFrom_54 rfl rfl ?_
  refine x_getfield C dX2_copyFrom_55 fX2_23 (x_ovg 0 rfl) rfl ?_
  refine x_aload_n C dX2_copyFrom_58 rfl rfl ?_
  refine x_getfield C dX2_copyFrom_59 fX2_23 ((hbF _ rfl) 0 _ rfl) rfl ?_
  refine x_callV1 C dX2_copyFrom_62 kX2_64 (c_X4_copyFrom hO (by decide) (x_bk_sub x_ov_bk 5 rfl) (x_bk_sub (hbF _ rfl) 5 rfl) (by omega)) (x_ovg 5 rfl) rfl (by decide) ⟨Nat.zero_le _, Nat.zero_le _⟩ (Nat.le_of_ble_eq_true rfl) ?_
  rintro _ _ ⟨rfl, rfl⟩
  refine x_to (x_st_ov 6 (Nat.le_of_ble_eq_true rfl)) ?_
  refine x_aload_n C dX2_copyFrom_65 rfl rfl ?_
  refine x_getfield C dX2_copyFrom_66 fX2_26 (x_ovg 0 rfl) rfl ?_
  refine x_aload_n C dX2_copyFrom_69 rfl rfl ?_
  refine x_getfield C dX2_copyFrom_70 fX2_26 ((hbF _ rfl) 0 _ rfl) rfl ?_
  refine x_callV1 C dX2_copyFrom_73 kX2_64 (c_X4_copyFrom hO (by decide) (x_bk_sub x_ov_bk 7 rfl) (x_bk_sub (hbF _ rfl) 7 rfl) (by omega)) (x_ovg 7 rfl) rfl (by decide) ⟨Nat.zero_le _, Nat.zero_le _⟩ (Nat.le_of_ble_eq_true rfl) ?_
  rintro _ _ ⟨rfl, rfl⟩
  refine x_to (x_st_ov 8 (Nat.le_of_ble_eq_true rfl)) ?_
  refine x_aload_n C dX2_copyFrom_76 rfl rfl ?_
  refine x_getfield C dX2_copyFrom_77 fX2_29 (x_ovg 0 rfl) rfl ?_
  refine x_aload_n C dX2_copyFrom_80 rfl rfl ?_
  refine x_getfield C dX2_copyFrom_81 fX2_29 ((hbF _ rfl) 0 _ rfl) rfl ?_
  refine x_callV1 C dX2_copyFrom_84 kX2_64 (c_X4_copyFrom hO (by decide) (x_bk_sub x_ov_bk 9 rfl) (x_bk_sub (hbF _ rfl) 9 rfl) (by omega)) (x_ovg 9 rfl) rfl (by decide) ⟨Nat.zero_le _, Nat.zero_le _⟩ (Nat.le_of_ble_eq_true rfl) ?_
  rintro _ _ ⟨rfl, rfl⟩
  refine x_to (x_st_ov 10 (Nat.le_of_ble_eq_true rfl)) ?_
  refine x_aload_n C dX2_copyFrom_87 rfl rfl ?_
  refine x_getfield C dX2_copyFrom_88 fX2_32 (x_ovg 0 rfl) rfl ?_
  refine x_aload_n C dX2_copyFrom_91 rfl rfl ?_
  refine x_getfield C dX2_copyFrom_92 fX2_32 ((hbF _ rfl) 0 _ rfl) rfl ?_
  refine x_callV1 C dX2_copyFrom_95 kX2_64 (c_X4_copyFrom hO (by decide) (x_bk_sub x_ov_bk 11 rfl) (x_bk_sub (hbF _ rfl) 11 rfl) (by omega)) (x_ovg 11 rfl) rfl (by decide) ⟨Nat.zero_le _, Nat.zero_le _⟩ (Nat.le_of_ble_eq_true rfl) ?_
  rintro _ _ ⟨rfl, rfl⟩
  refine x_to (x_st_ov 12 (Nat.le_of_ble_eq_true rfl)) ?_
  refine x_aload_n C dX2_copyFrom_98 rfl rfl ?_
  refine x_getfield C dX2_copyFrom_99 fX2_35 (x_ovg 0 rfl) rfl ?_
  refine x_aload_n C dX2_copyFrom_102 rfl rfl ?_
  refine x_getfield C dX2_copyFrom_103 fX2_35 ((hbF _ rfl) 0 _ rfl) rfl ?_
  refine x_callV1 C dX2_copyFrom_106 kX2_64 (c_X4_copyFrom hO (by decide) (x_bk_sub x_ov_bk 13 rfl) (x_bk_sub (hbF _ rfl) 13 rfl) (by omega)) (x_ovg 13 rfl) rfl (by decide) ⟨Nat.zero_le _, Nat.zero_le _⟩ (Nat.le_of_ble_eq_true rfl) ?_
  rintro _ _ ⟨rfl, rfl⟩
  refine x_to (x_st_ov 14 (Nat.le_of_ble_eq_true rfl)) ?_
  refine x_aload_n C dX2_copyFrom_109 rfl rfl ?_
  refine x_getfield C dX2_copyFrom_110 fX2_38 (x_ovg 0 rfl) rfl ?_
  refine x_aload_n C dX2_copyFrom_113 rfl rfl ?_
  refine x_getfield C dX2_copyFrom_114 fX2_38 ((hbF _ rfl) 0 _ rfl) rfl ?_
  refine x_callV1 C dX2_copyFrom_117 kX2_64 (c_X4_copyFrom hO (by decide) (x_bk_sub x_ov_bk 15 rfl) (x_bk_sub (hbF _ rfl) 15 rfl) (by omega)) (x_ovg 15 rfl) rfl (by decide) ⟨Nat.zero_le _, Nat.zero_le _⟩ (Nat.le_of_ble_eq_true rfl) ?_
  rintro _ _ ⟨rfl, rfl⟩
  refine x_to (x_st_ov 16 (Nat.le_of_ble_eq_true rfl)) ?_
  refine x_aload_n C dX2_copyFrom_120 rfl rfl ?_
  refine x_getfield C dX2_copyFrom_121 fX2_41 (x_ovg 0 rfl) rfl ?_
  refine x_aload_n C dX2_copyFrom_124 rfl rfl ?_
  refine x_getfield C dX2_copyFrom_125 fX2_41 ((hbF _ rfl) 0 _ rfl) rfl ?_
  refine x_callV1 C dX2_copyFrom_128 kX2_64 (c_X4_copyFrom hO (by decide) (x_bk_sub x_ov_bk 17 rfl) (x_bk_sub (hbF _ rfl) 17 rfl) (by omega)) (x_ovg 17 rfl) rfl (by decide) ⟨Nat.zero_le _, Nat.zero_le _⟩ (Nat.le_of_ble_eq_true rfl) ?_
  rintro _ _ ⟨rfl, rfl⟩
  refine x_to (x_st_ov 18 (Nat.le_of_ble_eq_true rfl)) ?_
  refine x_aload_n C dX2_copyFrom_131 rfl rfl ?_
  refine x_getfield C dX2_copyFrom_132 fX2_44 (x_ovg 0 rfl) rfl ?_
  refine x_aload_n C dX2_copyFrom_135 rfl rfl ?_
  refine x_getfield C dX2_copyFrom_136 fX2_44 ((hbF _ rfl) 0 _ rfl) rfl ?_
  refine x_callV1 C dX2_copyFrom_139 kX2_64 (c_X4_copyFrom hO (by decide) (x_bk_sub x_ov_bk 19 rfl) (x_bk_sub (hbF _ rfl) 19 rfl) (by omega)) (x_ovg 19 rfl) rfl (by decide) ⟨Nat.zero_le _, Nat.zero_le _⟩ (Nat.le_of_ble_eq_true rfl) ?_
  rintro _ _ ⟨rfl, rfl⟩
  refine x_to (x_st_ov 20 (Nat.le_of_ble_eq_true rfl)) ?_
  refine x_toE (plT p R) ⟨Or.inl rfl, Or.inl rfl, x_cq (fun j hj => s_fill_in hj), Or.inl rfl, x_cq (fun j hj => s_fill_in hj), Or.inl rfl, x_cq (fun j hj => s_fill_in hj), Or.inl rfl, x_cq (fun j hj => s_fill_in hj), Or.inl rfl, x_cq (fun j hj => s_fill_in hj), Or.inl rfl, x_cq (fun j hj => s_fill_in hj), Or.inl rfl, x_cq (fun j hj => s_fill_in hj), Or.inl rfl, x_cq (fun j hj => s_fill_in hj), Or.inl rfl, x_cq (fun j hj => s_fill_in hj), Or.inl rfl, x_cq (fun j hj => s_fill_in hj), trivial⟩ ?_
  refine x_vret C E dX2_copyFrom_142 ?_
  exact ⟨rfl, rfl⟩
