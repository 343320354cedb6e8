theorem tp_len {b : Nat} {x y : Int32} {f g : Nat → Int32} : (tpT b x f).length = (tpT b y g).length := (show (tpT b x f).length = 3 from rfl).trans (show (tpT b y g).length = 3 from rfl).symm
set_option maxHeartbeats 4000000 in
set_option maxRecDepth 100000 in
theorem c_X5_at {l : Launch} {Y0 : x_Y} (hO : x_Ok Y0) {M : x_M} {b n : Nat} {f : Nat → Int32} (hb : x_bk M b (tpT b (nI n) f)) {i : Nat} (hn : n ≤ 2000) (hi : i < 2 ^ 31) : x_C l Y0 yX5_at cX5_at 2 (some .int) 2 0 0 [.ref b, .int (nI i)] M (fun u M1 => u = some (.int (if i < n then f i else 0)) ∧ M1 = M) := by
  refine x_start hO (by decide +kernel) (Nat.le_of_ble_eq_true rfl) (fun K C E => ?_)
  refine x_iload_n C dX5_at_0 rfl rfl ?_
  refine x_aload_n C dX5_at_1 rfl rfl ?_
  refine x_getfield C dX5_at_2 fX5_20 (hb 0 _ rfl) rfl ?_
  refine x_icmp_ge (tgt := 19) C dX5_at_5 (by decide) (fun c5 => ?_) (fun c5 => ?_)
  · have e9 : ¬ i < n := fun q => nI_ge q (by omega) c5
    refine x_iconst (v := 0) C dX5_at_19 (by decide) ?_
    refine x_iret C E dX5_at_20 ?_
    exact ⟨by first | rw [if_pos e9] | rw [if_neg e9] | fail, rfl⟩
  · have e9 : i < n := by
      rcases Nat.lt_or_ge i n with q | q
      · exact q
      · exact absurd (nI_le q hi) c5
    refine x_aload_n C dX5_at_8 rfl rfl ?_
    refine x_getfield C dX5_at_9 fX5_14 (hb 0 _ rfl) rfl ?_
    refine x_iload_n C dX5_at_12 rfl rfl ?_
    refine x_callV1 C dX5_at_13 kX5_28 (c_X4_get hO (by decide) (x_bk_sub hb 1 rfl)) (hb 1 _ rfl) rfl (by decide) ⟨Nat.zero_le _, Nat.zero_le _⟩ (Nat.le_of_ble_eq_true rfl) ?_
    rintro _ _ ⟨rfl, rfl⟩
    rw [rg_nI (show i < 2000 by omega) (by decide)]
    refine x_goto (tgt := 20) C dX5_at_16 (by decide) ?_
    refine x_iret C E dX5_at_20 ?_
    exact ⟨by first | rw [if_pos e9] | rw [if_neg e9] | fail, rfl⟩
set_option maxHeartbeats 4000000 in
set_option maxRecDepth 100000 in
theorem c_X8_feed {l : Launch} {Y0 : x_Y} (hO : x_Ok Y0) {M : x_M} {b n : Nat} {f : Nat → Int32} (hb : x_bk M b (tpT b (nI n) f)) {c : Nat} {fs : List Value} (hc : x_bk M c [.inr (8, fs)]) (hc0 : fs[0]? = some (.ref b)) (hdb : c + 1 ≤ b ∨ b + 3 ≤ c) {w1 w2 w3 w4 w5 : Int32} (hn : n ≤ 1980) : x_C l Y0 yX8_feed cX8_feed 6 (some .int) 3 0 0 [.ref c, .int w1, .int w2, .int w3, .int w4, .int w5] M (fun u M1 => u = some (.int (nI (n + 20))) ∧ M1 = x_ov M b (tpT b (nI (n + 20)) (b_feed f n w1 w2 w3 w4 w5))) := by
  refine x_start hO (by decide +kernel) (Nat.le_of_ble_eq_true rfl) (fun K C E => ?_)
  have hcF : ∀ L : List x_E, L.length = 3 → x_bk (x_ov M b L) c [.inr (8, fs)] := fun L h => x_ov_far 3 hc h hdb
  refine x_to (x_ov_self hb).symm ?_
  have h80 : nI n ≤ (1980 : Int32) := by
    have e : (1980 : Int32).toInt = 1980 := by decide
    rw [Int32.le_iff_toInt_le, nI_toInt (show n < 2 ^ 31 by omega), e]
    omega
  refine x_aload_n C dX8_feed_0 rfl rfl ?_
  refine x_getfield C dX8_feed_1 fX8_12 ((hcF _ rfl) 0 _ rfl) hc0 ?_
  refine x_getfield C dX8_feed_4 fX8_51 (x_ovg 0 rfl) rfl ?_
  refine x_sipush (v := 1980) C dX8_feed_7 (by decide) ?_
  refine x_icmp_le (tgt := 23) C dX8_feed_10 (by decide) (fun c10 => ?_) (fun c10 => absurd h80 c10)
  refine x_aload_n C dX8_feed_23 rfl rfl ?_
  refine x_getfield C dX8_feed_24 fX8_12 ((hcF _ rfl) 0 _ rfl) hc0 ?_
  refine x_iload_n C dX8_feed_27 rfl rfl ?_
  refine x_callV1 C dX8_feed_28 kX8_61 (c_X5_append hO x_ov_bk (by omega)) (x_ovg 0 rfl) rfl (by decide) ⟨Nat.zero_le _, Nat.zero_le _⟩ (Nat.le_of_ble_eq_true rfl) ?_
  rintro _ _ ⟨rfl, rfl⟩
  refine x_to (x_ov_ov tp_len) ?_
  refine x_aload_n C dX8_feed_31 rfl rfl ?_
  refine x_getfield C dX8_feed_32 fX8_12 ((hcF _ rfl) 0 _ rfl) hc0 ?_
  refine x_iload_n C dX8_feed_35 rfl rfl ?_
  refine x_callV1 C dX8_feed_36 kX8_61 (c_X5_append hO x_ov_bk (by omega)) (x_ovg 0 rfl) rfl (by decide) ⟨Nat.zero_le _, Nat.zero_le _⟩ (Nat.le_of_ble_eq_true rfl) ?_
  rintro _ _ ⟨rfl, rfl⟩
  refine x_to (x_ov_ov tp_len) ?_
  refine x_aload_n C dX8_feed_39 rfl rfl ?_
  refine x_getfield C dX8_feed_40 fX8_12 ((hcF _ rfl) 0 _ rfl) hc0 ?_
  refine x_iload_n C dX8_feed_43 rfl rfl ?_
  refine x_callV1 C dX8_feed_44 kX8_61 (c_X5_append hO x_ov_bk (by omega)) (x_ovg 0 rfl) rfl (by decide) ⟨Nat.zero_le _, Nat.zero_le _⟩ (Nat.le_of_ble_eq_true rfl) ?_
  rintro _ _ ⟨rfl, rfl⟩
  refine x_to (x_ov_ov tp_len) ?_
  refine x_aload_n C dX8_feed_47 rfl rfl ?_
  refine x_getfield C dX8_feed_48 fX8_12 ((hcF _ rfl) 0 _ rfl) hc0 ?_
  refine x_iload C dX8_feed_51 rfl ?_
  refine x_callV1 C dX8_feed_53 kX8_61 (c_X5_append hO x_ov_bk (by omega)) (x_ovg 0 rfl) rfl (by decide) ⟨Nat.zero_le _, Nat.zero_le _⟩ (Nat.le_of_ble_eq_true rfl) ?_
  rintro _ _ ⟨rfl, rfl⟩
  refine x_to (x_ov_ov tp_len) ?_
  refine x_aload_n C dX8_feed_56 rfl rfl ?_
  refine x_getfield C dX8_feed_57 fX8_12 ((hcF _ rfl) 0 _ rfl) hc0 ?_
  refine x_iload C dX8_feed_60 rfl ?_
  refine x_callV1 C dX8_feed_62 kX8_61 (c_X5_append hO x_ov_bk (by omega)) (x_ovg 0 rfl) rfl (by decide) ⟨Nat.zero_le _, Nat.zero_le _⟩ (Nat.le_of_ble_eq_true rfl) ?_
  rintro _ _ ⟨rfl, rfl⟩
  refine x_to (x_ov_ov tp_len) ?_
  refine x_aload_n C dX8_feed_65 rfl rfl ?_
  refine x_getfield C dX8_feed_66 fX8_12 ((hcF _ rfl) 0 _ rfl) hc0 ?_
  refine x_getfield C dX8_feed_69 fX8_51 (x_ovg 0 rfl) rfl ?_
  refine x_iret C E dX8_feed_72 ?_
  have e : n + 4 + 4 + 4 + 4 + 4 = n + 20 := by omega
  have e1 : n + 4 + 4 = n + 8 := by omega
  have e2 : n + 8 + 4 = n + 12 := by omega
  have e3 : n + 12 + 4 = n + 16 := by omega
  have e4 : n + 16 + 4 = n + 20 := by omega
  rw [e1, e2, e3, e4]
  exact ⟨rfl, rfl⟩
set_option maxHeartbeats 4000000 in
set_option maxRecDepth 100000 in
theorem c_X8_trim {l : Launch} {Y0 : x_Y} (hO : x_Ok Y0) {M : x_M} {b n : Nat} {f : Nat → Int32} (hb : x_bk M b (tpT b (nI n) f)) {c : Nat} {fs : List Value} (hc : x_bk M c [.inr (8, fs)]) (hc0 : fs[0]? = some (.ref b)) (hdb : c + 1 ≤ b ∨ b + 3 ≤ c) {k : Nat} (hk : k ≤ n) (hn : n ≤ 2000) : x_C l Y0 yX8_trim cX8_trim 2 (some .int) 1 0 0 [.ref c, .int (nI k)] M (fun u M1 => u = some (.int (nI k)) ∧ M1 = x_ov M b (tpT b (nI k) f)) := by
  refine x_start hO (by decide +kernel) (Nat.le_of_ble_eq_true rfl) (fun K C E => ?_)
  have hcF : ∀ L : List x_E, L.length = 3 → x_bk (x_ov M b L) c [.inr (8, fs)] := fun L h => x_ov_far 3 hc h hdb
  refine x_to (x_ov_self hb).symm ?_
  refine x_iload_n C dX8_trim_0 rfl rfl ?_
  refine x_if_lt (tgt := 15) C dX8_trim_1 (by decide) (fun c1 => absurd c1 (nI_pos (by omega))) (fun c1 => ?_)
  refine x_iload_n C dX8_trim_4 rfl rfl ?_
  refine x_aload_n C dX8_trim_5 rfl rfl ?_
  refine x_getfield C dX8_trim_6 fX8_12 ((hcF _ rfl) 0 _ rfl) hc0 ?_
  refine x_getfield C dX8_trim_9 fX8_51 (x_ovg 0 rfl) rfl ?_
  refine x_icmp_le (tgt := 25) C dX8_trim_12 (by decide) (fun c12 => ?_) (fun c12 => absurd (nI_le hk (by omega)) c12)
  refine x_aload_n C dX8_trim_25 rfl rfl ?_
  refine x_getfield C dX8_trim_26 fX8_12 ((hcF _ rfl) 0 _ rfl) hc0 ?_
  refine x_iload_n C dX8_trim_29 rfl rfl ?_
  refine x_putfield C dX8_trim_30 fX8_51 (x_ovg 0 rfl) rfl rfl (Nat.le_of_ble_eq_true rfl) ?_
  refine x_to (x_st_ov 0 (Nat.le_of_ble_eq_true rfl)) ?_
  refine x_iload_n C dX8_trim_33 rfl rfl ?_
  refine x_iret C E dX8_trim_34 ?_
  exact ⟨rfl, rfl⟩
