/-- byte k of a word, as the reference takes it -/
def b_by (w : Int32) (k : Nat) : Int32 := (w >>> (nI (24 - 8 * k) &&& 31)) &&& 255
def b_w4 (f : Nat → Int32) (n : Nat) (w : Int32) : Nat → Int32 := upd (upd (upd (upd f n (b_by w 0)) (n + 1) (b_by w 1)) (n + 2) (b_by w 2)) (n + 3) (b_by w 3)
def b_feed (f : Nat → Int32) (n : Nat) (a b c d e : Int32) : Nat → Int32 := b_w4 (b_w4 (b_w4 (b_w4 (b_w4 f n a) (n + 4) b) (n + 8) c) (n + 12) d) (n + 16) e
theorem b_bv (x : BitVec 32) (s : Nat) (hs : s ≤ 24) : (x >>> s) &&& 255#32 = (x.sshiftRight s) &&& 255#32 := by
  apply BitVec.eq_of_getLsbD_eq
  intro i hi
  simp only [BitVec.getLsbD_and, BitVec.getLsbD_ushiftRight, BitVec.getLsbD_sshiftRight]
  by_cases h : i < 8
  · have h2 : s + i < 32 := by omega
    have h3 : ¬ 32 ≤ i := by omega
    simp [h2, h3]
  · have h2 : (255#32).getLsbD i = false := by
      rw [BitVec.getLsbD_ofNat, Nat.testBit_lt_two_pow (Nat.lt_of_lt_of_le (show 255 < 2 ^ 8 by decide) (Nat.pow_le_pow_right (by decide) (by omega)))]
      simp
    rw [h2]
    simp
theorem b_sh {w s : Int32} {k : Nat} (hs : s = nI (24 - 8 * k)) (hk : k = 0 ∨ k = 1 ∨ k = 2 ∨ k = 3) : ((w.toUInt32 >>> (s.toUInt32 &&& Int32.toUInt32 31)).toInt32 &&& 255) = b_by w k := by
  subst hs
  apply Int32.toBitVec_inj.mp
  rcases hk with rfl | rfl | rfl | rfl
  · exact b_bv w.toBitVec 24 (by decide)
  · exact b_bv w.toBitVec 16 (by decide)
  · exact b_bv w.toBitVec 8 (by decide)
  · exact b_bv w.toBitVec 0 (by decide)
/-- what a Tape's cells are -/
def tpT (b : Nat) (x : Int32) (f : Nat → Int32) : List x_E := [.inr (5, [.ref (b + 1), .int x]), .inr (4, [.ref (b + 1 + 1)]), .inl (0, 2000, .inl f)]
set_option maxHeartbeats 4000000 in
set_option maxRecDepth 100000 in
theorem c_X5_append {l : Launch} {Y0 : x_Y} (hO : x_Ok Y0) {M : x_M} {b n : Nat} {f : Nat → Int32} (hb : x_bk M b (tpT b (nI n) f)) {w : Int32} (hn : n + 4 ≤ 2000) : x_C l Y0 yX5_append cX5_append 3 none 2 0 0 [.ref b, .int w] M (fun u M1 => u = none ∧ M1 = x_ov M b (tpT b (nI (n + 4)) (b_w4 f n w))) := by
  refine x_start hO (by decide +kernel) (Nat.le_of_ble_eq_true rfl) (fun K C E => ?_)
  refine x_to (x_ov_self hb).symm ?_
  refine x_bipush (v := 24) C dX5_append_0 (by decide) ?_
  refine x_istore_n C dX5_append_2 rfl rfl (by decide) ?_
  refine x_iload_n C dX5_append_3 rfl rfl ?_
  refine x_if_lt (tgt := 41) C dX5_append_4 (by decide) (fun c4 => absurd c4 (by decide)) (fun c4 => ?_)
  refine x_aload_n C dX5_append_7 rfl rfl ?_
  refine x_getfield C dX5_append_8 fX5_14 (x_ovg 0 rfl) rfl ?_
  refine x_aload_n C dX5_append_11 rfl rfl ?_
  refine x_getfield C dX5_append_12 fX5_20 (x_ovg 0 rfl) rfl ?_
  refine x_iload_n C dX5_append_15 rfl rfl ?_
  refine x_iload_n C dX5_append_16 rfl rfl ?_
  refine x_iushr C dX5_append_17 rfl ?_
  refine x_sipush (v := 255) C dX5_append_18 (by decide) ?_
  refine x_iand C dX5_append_21 ?_
  refine x_topi (b_by w 0) (b_sh (by decide) (by decide)) ?_
  refine x_callV2 C dX5_append_22 kX5_24 (c_X4_set hO (by decide) (x_bk_sub x_ov_bk 1 rfl)) (x_ovg 1 rfl) rfl (by decide) ⟨Nat.zero_le _, Nat.zero_le _⟩ (Nat.le_of_ble_eq_true rfl) ?_
  rintro _ _ ⟨rfl, rfl⟩
  refine x_to (x_st_ov 2 (Nat.le_of_ble_eq_true rfl)) ?_
  rw [rs_nI (show n < 2000 by omega) (by decide)]
  refine x_aload_n C dX5_append_25 rfl rfl ?_
  refine x_dup C dX5_append_26 rfl ?_
  refine x_getfield C dX5_append_27 fX5_20 (x_ovg 0 rfl) rfl ?_
  refine x_iconst (v := 1) C dX5_append_30 (by decide) ?_
  refine x_iadd C dX5_append_31 ?_
  refine x_putfield C dX5_append_32 fX5_20 (x_ovg 0 rfl) rfl rfl (Nat.le_of_ble_eq_true rfl) ?_
  refine x_to (x_st_ov 0 (Nat.le_of_ble_eq_true rfl)) ?_
  rw [nI_1 (n)]
  refine x_iinc (v := (-8)) C dX5_append_35 rfl (by decide) rfl (by decide) ?_
  refine x_goto (tgt := 3) C dX5_append_38 (by decide) ?_
  refine x_iload_n C dX5_append_3 rfl rfl ?_
  refine x_if_lt (tgt := 41) C dX5_append_4 (by decide) (fun c4 => absurd c4 (by decide)) (fun c4 => ?_)
  refine x_aload_n C dX5_append_7 rfl rfl ?_
  refine x_getfield C dX5_append_8 fX5_14 (x_ovg 0 rfl) rfl ?_
  refine x_aload_n C dX5_append_11 rfl rfl ?_
  refine x_getfield C dX5_append_12 fX5_20 (x_ovg 0 rfl) rfl ?_
  refine x_iload_n C dX5_append_15 rfl rfl ?_
  refine x_iload_n C dX5_append_16 rfl rfl ?_
  refine x_iushr C dX5_append_17 rfl ?_
  refine x_sipush (v := 255) C dX5_append_18 (by decide) ?_
  refine x_iand C dX5_append_21 ?_
  refine x_topi (b_by w 1) (b_sh (by decide) (by decide)) ?_
  refine x_callV2 C dX5_append_22 kX5_24 (c_X4_set hO (by decide) (x_bk_sub x_ov_bk 1 rfl)) (x_ovg 1 rfl) rfl (by decide) ⟨Nat.zero_le _, Nat.zero_le _⟩ (Nat.le_of_ble_eq_true rfl) ?_
  rintro _ _ ⟨rfl, rfl⟩
  refine x_to (x_st_ov 2 (Nat.le_of_ble_eq_true rfl)) ?_
  rw [rs_nI (show n + 1 < 2000 by omega) (by decide)]
  refine x_aload_n C dX5_append_25 rfl rfl ?_
  refine x_dup C dX5_append_26 rfl ?_
  refine x_getfield C dX5_append_27 fX5_20 (x_ovg 0 rfl) rfl ?_
  refine x_iconst (v := 1) C dX5_append_30 (by decide) ?_
  refine x_iadd C dX5_append_31 ?_
  refine x_putfield C dX5_append_32 fX5_20 (x_ovg 0 rfl) rfl rfl (Nat.le_of_ble_eq_true rfl) ?_
  refine x_to (x_st_ov 0 (Nat.le_of_ble_eq_true rfl)) ?_
  rw [nI_1 (n + 1)]
  refine x_iinc (v := (-8)) C dX5_append_35 rfl (by decide) rfl (by decide) ?_
  refine x_goto (tgt := 3) C dX5_append_38 (by decide) ?_
  refine x_iload_n C dX5_append_3 rfl rfl ?_
  refine x_if_lt (tgt := 41) C dX5_append_4 (by decide) (fun c4 => absurd c4 (by decide)) (fun c4 => ?_)
  refine x_aload_n C dX5_append_7 rfl rfl ?_
  refine x_getfield C dX5_append_8 fX5_14 (x_ovg 0 rfl) rfl ?_
  refine x_aload_n C dX5_append_11 rfl rfl ?_
  refine x_getfield C dX5_append_12 fX5_20 (x_ovg 0 rfl) rfl ?_
  refine x_iload_n C dX5_append_15 rfl rfl ?_
  refine x_iload_n C dX5_append_16 rfl rfl ?_
  refine x_iushr C dX5_append_17 rfl ?_
  refine x_sipush (v := 255) C dX5_append_18 (by decide) ?_
  refine x_iand C dX5_append_21 ?_
  refine x_topi (b_by w 2) (b_sh (by decide) (by decide)) ?_
  refine x_callV2 C dX5_append_22 kX5_24 (c_X4_set hO (by decide) (x_bk_sub x_ov_bk 1 rfl)) (x_ovg 1 rfl) rfl (by decide) ⟨Nat.zero_le _, Nat.zero_le _⟩ (Nat.le_of_ble_eq_true rfl) ?_
  rintro _ _ ⟨rfl, rfl⟩
  refine x_to (x_st_ov 2 (Nat.le_of_ble_eq_true rfl)) ?_
  rw [rs_nI (show n + 2 < 2000 by omega) (by decide)]
  refine x_aload_n C dX5_append_25 rfl rfl ?_
  refine x_dup C dX5_append_26 rfl ?_
  refine x_getfield C dX5_append_27 fX5_20 (x_ovg 0 rfl) rfl ?_
  refine x_iconst (v := 1) C dX5_append_30 (by decide) ?_
  refine x_iadd C dX5_append_31 ?_
  refine x_putfield C dX5_append_32 fX5_20 (x_ovg 0 rfl) rfl rfl (Nat.le_of_ble_eq_true rfl) ?_
  refine x_to (x_st_ov 0 (Nat.le_of_ble_eq_true rfl)) ?_
  rw [nI_1 (n + 2)]
  refine x_iinc (v := (-8)) C dX5_append_35 rfl (by decide) rfl (by decide) ?_
  refine x_goto (tgt := 3) C dX5_append_38 (by decide) ?_
  refine x_iload_n C dX5_append_3 rfl rfl ?_
  refine x_if_lt (tgt := 41) C dX5_append_4 (by decide) (fun c4 => absurd c4 (by decide)) (fun c4 => ?_)
  refine x_aload_n C dX5_append_7 rfl rfl ?_
  refine x_getfield C dX5_append_8 fX5_14 (x_ovg 0 rfl) rfl ?_
  refine x_aload_n C dX5_append_11 rfl rfl ?_
  refine x_getfield C dX5_append_12 fX5_20 (x_ovg 0 rfl) rfl ?_
  refine x_iload_n C dX5_append_15 rfl rfl ?_
  refine x_iload_n C dX5_append_16 rfl rfl ?_
  refine x_iushr C dX5_append_17 rfl ?_
  refine x_sipush (v := 255) C dX5_append_18 (by decide) ?_
  refine x_iand C dX5_append_21 ?_
  refine x_topi (b_by w 3) (b_sh (by decide) (by decide)) ?_
  refine x_callV2 C dX5_append_22 kX5_24 (c_X4_set hO (by decide) (x_bk_sub x_ov_bk 1 rfl)) (x_ovg 1 rfl) rfl (by decide) ⟨Nat.zero_le _, Nat.zero_le _⟩ (Nat.le_of_ble_eq_true rfl) ?_
  rintro _ _ ⟨rfl, rfl⟩
  refine x_to (x_st_ov 2 (Nat.le_of_ble_eq_true rfl)) ?_
  rw [rs_nI (show n + 3 < 2000 by omega) (by decide)]
  refine x_aload_n C dX5_append_25 rfl rfl ?_
  refine x_dup C dX5_append_26 rfl ?_
  refine x_getfield C dX5_append_27 fX5_20 (x_ovg 0 rfl) rfl ?_
  refine x_iconst (v := 1) C dX5_append_30 (by decide) ?_
  refine x_iadd C dX5_append_31 ?_
  refine x_putfield C dX5_append_32 fX5_20 (x_ovg 0 rfl) rfl rfl (Nat.le_of_ble_eq_true rfl) ?_
  refine x_to (x_st_ov 0 (Nat.le_of_ble_eq_true rfl)) ?_
  rw [nI_1 (n + 3)]
  refine x_iinc (v := (-8)) C dX5_append_35 rfl (by decide) rfl (by decide) ?_
  refine x_goto (tgt := 3) C dX5_append_38 (by decide) ?_
  refine x_iload_n C dX5_append_3 rfl rfl ?_
  refine x_if_lt (tgt := 41) C dX5_append_4 (by decide) (fun c4 => ?_) (fun c4 => absurd (by decide) c4)
  refine x_vret C E dX5_append_41 ?_
  exact ⟨rfl, rfl⟩
