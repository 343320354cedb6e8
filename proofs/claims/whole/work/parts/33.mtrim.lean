set_option maxHeartbeats 4000000 in
set_option maxRecDepth 100000 in
theorem c_X11_trim {l : Launch} {Y0 : x_Y} (hO : x_Ok Y0) {M : x_M} {o q n : Nat} {th ea tk dp : Int32} {tp kd fr mn rl me rd t m m2 : Nat} (ho : x_bk M o [.inr (11, mdF th (nI n) ea tk dp tp kd fr mn rl me q rd t m m2)]) {k : Nat} (hk : k ≤ n) (hn : n ≤ 2000) : x_C l Y0 yX11_trim cX11_trim 2 (some .int) 2 0 0 [.ref o, .int (nI k)] M (fun u M1 => u = some (.int (nI k)) ∧ M1 = x_ov M o [.inr (11, mdF 0 (nI k) ea tk dp tp kd fr mn rl me q rd t m m2)]) := by
  refine x_start hO (by decide +kernel) (Nat.le_of_ble_eq_true rfl) (fun K C E => ?_)
  refine x_to (x_ov_self ho).symm ?_
  have hv30 : (!decide (nI k < 0) && !decide (nI n < nI k)) = true := by
    rw [decide_eq_false (nI_pos (show k < 2 ^ 31 by omega)), decide_eq_false (Int32.not_lt.mpr (nI_le hk (by omega)))]
    rfl
  refine x_aload_n C dX11_trim_0 rfl rfl ?_
  refine x_iconst (v := 0) C dX11_trim_1 (by decide) ?_
  refine x_putfield C dX11_trim_2 fX11_60 (x_ovg 0 rfl) rfl rfl (Nat.le_of_ble_eq_true rfl) ?_
  refine x_to (x_st_ov 0 (Nat.le_of_ble_eq_true rfl)) ?_
  refine x_iload_n C dX11_trim_5 rfl rfl ?_
  refine x_iconst (v := 0) C dX11_trim_6 (by decide) ?_
  refine x_aload_n C dX11_trim_7 rfl rfl ?_
  refine x_getfield C dX11_trim_8 fX11_93 (x_ovg 0 rfl) rfl ?_
  refine x_callS3 C dX11_trim_11 kX11_66 (c_X11_isIn hO) (by decide) ⟨Nat.zero_le _, Nat.zero_le _⟩ (Nat.le_of_ble_eq_true rfl) ?_
  rintro _ _ ⟨rfl, rfl⟩
  rw [hv30]
  refine x_if_ne (tgt := 23) C dX11_trim_14 (by decide) (fun c14 => ?_) (fun c14 => absurd c14 (show ¬ h_b true = 0 by decide))
  refine x_aload_n C dX11_trim_23 rfl rfl ?_
  refine x_iload_n C dX11_trim_24 rfl rfl ?_
  refine x_putfield C dX11_trim_25 fX11_93 (x_ovg 0 rfl) rfl rfl (Nat.le_of_ble_eq_true rfl) ?_
  refine x_to (x_st_ov 0 (Nat.le_of_ble_eq_true rfl)) ?_
  refine x_iload_n C dX11_trim_28 rfl rfl ?_
  refine x_iret C E dX11_trim_29 ?_
  exact ⟨rfl, rfl⟩
set_option maxHeartbeats 4000000 in
set_option maxRecDepth 100000 in
theorem c_X11_trimN {l : Launch} {Y0 : x_Y} (hO : x_Ok Y0) {M : x_M} {o q n : Nat} {th ea tk dp : Int32} {tp kd fr mn rl me rd t m m2 : Nat} (ho : x_bk M o [.inr (11, mdF th (nI n) ea tk dp tp kd fr mn rl me q rd t m m2)]) {x : Int32} (hv30 : (!decide (x < 0) && !decide (nI n < x)) = false) : x_C l Y0 yX11_trim cX11_trim 2 (some .int) 2 0 0 [.ref o, .int x] M (fun u M1 => u = some (.int 0) ∧ M1 = x_ov M o [.inr (11, mdF 1 (nI n) ea tk dp tp kd fr mn rl me q rd t m m2)]) := by
  refine x_start hO (by decide +kernel) (Nat.le_of_ble_eq_true rfl) (fun K C E => ?_)
  refine x_to (x_ov_self ho).symm ?_
  refine x_aload_n C dX11_trim_0 rfl rfl ?_
  refine x_iconst (v := 0) C dX11_trim_1 (by decide) ?_
  refine x_putfield C dX11_trim_2 fX11_60 (x_ovg 0 rfl) rfl rfl (Nat.le_of_ble_eq_true rfl) ?_
  refine x_to (x_st_ov 0 (Nat.le_of_ble_eq_true rfl)) ?_
  refine x_iload_n C dX11_trim_5 rfl rfl ?_
  refine x_iconst (v := 0) C dX11_trim_6 (by decide) ?_
  refine x_aload_n C dX11_trim_7 rfl rfl ?_
  refine x_getfield C dX11_trim_8 fX11_93 (x_ovg 0 rfl) rfl ?_
  refine x_callS3 C dX11_trim_11 kX11_66 (c_X11_isIn hO) (by decide) ⟨Nat.zero_le _, Nat.zero_le _⟩ (Nat.le_of_ble_eq_true rfl) ?_
  rintro _ _ ⟨rfl, rfl⟩
  rw [hv30]
  refine x_if_ne (tgt := 23) C dX11_trim_14 (by decide) (fun c14 => absurd c14 (show ¬ ¬ h_b false = 0 by decide)) (fun c14 => ?_)
  refine x_aload_n C dX11_trim_17 rfl rfl ?_
  refine x_iconst (v := 1) C dX11_trim_18 (by decide) ?_
  refine x_callV1 C dX11_trim_19 kX11_276 (c_X11_no hO x_ov_bk) (x_ovg 0 rfl) rfl (by decide) ⟨Nat.zero_le _, Nat.zero_le _⟩ (Nat.le_of_ble_eq_true rfl) ?_
  rintro _ _ ⟨rfl, rfl⟩
  refine x_to (x_ov_ov rfl) ?_
  refine x_iret C E dX11_trim_22 ?_
  exact ⟨rfl, rfl⟩
set_option maxHeartbeats 4000000 in
set_option maxRecDepth 100000 in
theorem c_X11_feedN {l : Launch} {Y0 : x_Y} (hO : x_Ok Y0) {M : x_M} {o q n : Nat} {th ea tk dp : Int32} {tp kd fr mn rl me rd t m m2 : Nat} (ho : x_bk M o [.inr (11, mdF th (nI n) ea tk dp tp kd fr mn rl me q rd t m m2)]) {w1 w2 w3 w4 w5 : Int32} (h80 : ¬ nI n ≤ (1980 : Int32)) : x_C l Y0 yX11_feed cX11_feed 8 (some .int) 2 0 0 [.ref o, .int w1, .int w2, .int w3, .int w4, .int w5] M (fun u M1 => u = some (.int 0) ∧ M1 = x_ov M o [.inr (11, mdF 1 (nI n) ea tk dp tp kd fr mn rl me q rd t m m2)]) := by
  refine x_start hO (by decide +kernel) (Nat.le_of_ble_eq_true rfl) (fun K C E => ?_)
  refine x_to (x_ov_self ho).symm ?_
  refine x_aload_n C dX11_feed_0 rfl rfl ?_
  refine x_iconst (v := 0) C dX11_feed_1 (by decide) ?_
  refine x_putfield C dX11_feed_2 fX11_60 (x_ovg 0 rfl) rfl rfl (Nat.le_of_ble_eq_true rfl) ?_
  refine x_to (x_st_ov 0 (Nat.le_of_ble_eq_true rfl)) ?_
  refine x_aload_n C dX11_feed_5 rfl rfl ?_
  refine x_getfield C dX11_feed_6 fX11_93 (x_ovg 0 rfl) rfl ?_
  refine x_sipush (v := 1980) C dX11_feed_9 (by decide) ?_
  refine x_icmp_le (tgt := 21) C dX11_feed_12 (by decide) (fun c12 => absurd c12 h80) (fun c12 => ?_)
  refine x_aload_n C dX11_feed_15 rfl rfl ?_
  refine x_iconst (v := 1) C dX11_feed_16 (by decide) ?_
  refine x_callV1 C dX11_feed_17 kX11_276 (c_X11_no hO x_ov_bk) (x_ovg 0 rfl) rfl (by decide) ⟨Nat.zero_le _, Nat.zero_le _⟩ (Nat.le_of_ble_eq_true rfl) ?_
  rintro _ _ ⟨rfl, rfl⟩
  refine x_to (x_ov_ov rfl) ?_
  refine x_iret C E dX11_feed_20 ?_
  exact ⟨rfl, rfl⟩
