set_option maxHeartbeats 4000000 in
set_option maxRecDepth 100000 in
theorem c_X0_countBlocked {l : Launch} {Y0 : x_Y} (hO : x_Ok Y0) {M : x_M} {a p : Nat} {P : PL} {A : HS} {hx sk : Nat → Int32} {ht : Int32} {Q : HS} (hP : p_ok P) (hQ : q_is Q P) (hb : x_bk M a (hvT a p P A hx sk ht)) (hp : x_bk M p (plT p Q)) : x_C l Y0 yX0_countBlocked cX0_countBlocked 3 (some .int) 2 0 0 [.ref a] M (fun u M1 => u = some (.int (h_blocked P A)) ∧ M1 = M) := by
  refine x_start hO (by decide +kernel) (Nat.le_of_ble_eq_true rfl) (fun K C E => ?_)
  obtain ⟨h8, h6, h16, hnp, hwho, hvb, hts⟩ := hP
  obtain ⟨hq0, hq1, hq2, hq3, hq4, hq5, hq6⟩ := hQ
  have lp : ∀ (w i : Nat) (x : Int32) (z : Int32), i + w = p_nd P → x = nI i → z = h_cnt (fun d => A 2 d != -1) i → x_X K 3 0 0 4 [(0, .ref a), (1, .int z), (2, .int x)] [] M := by
    intro w
    induction w with
    | zero =>
      intro i x z hi hx hz
      subst hx
      have e : i = p_nd P := by omega
      subst e
      refine x_iload_n C dX0_countBlocked_4 rfl rfl ?_
      refine x_aload_n C dX0_countBlocked_5 rfl rfl ?_
      refine x_getfield C dX0_countBlocked_6 fX0_48 (hb 0 _ rfl) rfl ?_
      refine x_getfield C dX0_countBlocked_9 fX0_82 (hp 0 _ rfl) rfl ?_
      refine x_icmp_ge (tgt := 44) C dX0_countBlocked_12 (by decide) (fun c12 => ?_) (fun c12 => absurd (by rw [hq0]; exact nI_le (Nat.le_refl _) (by omega)) c12)
      refine x_iload_n C dX0_countBlocked_44 rfl rfl ?_
      refine x_iret C E dX0_countBlocked_45 ?_
      exact ⟨by rw [hz]; rfl, rfl⟩
    | succ w ih =>
      intro i x z hi hx hz
      subst hx
      refine x_iload_n C dX0_countBlocked_4 rfl rfl ?_
      refine x_aload_n C dX0_countBlocked_5 rfl rfl ?_
      refine x_getfield C dX0_countBlocked_6 fX0_48 (hb 0 _ rfl) rfl ?_
      refine x_getfield C dX0_countBlocked_9 fX0_82 (hp 0 _ rfl) rfl ?_
      refine x_icmp_ge (tgt := 44) C dX0_countBlocked_12 (by decide) (fun c12 => absurd c12 (by rw [hq0]; exact nI_ge (by omega) (by omega))) (fun c12 => ?_)
      refine x_iload_n C dX0_countBlocked_15 rfl rfl ?_
      refine x_aload_n C dX0_countBlocked_16 rfl rfl ?_
      refine x_getfield C dX0_countBlocked_17 fX0_30 (hb 0 _ rfl) rfl ?_
      refine x_iload_n C dX0_countBlocked_20 rfl rfl ?_
      refine x_callV1 C dX0_countBlocked_21 kX0_78 (c_X4_get hO (by decide) (x_bk_sub hb 8 rfl)) (hb 8 _ rfl) rfl (by decide) ⟨Nat.zero_le _, Nat.zero_le _⟩ (Nat.le_of_ble_eq_true rfl) ?_
      rintro _ _ ⟨rfl, rfl⟩
      rw [rg_nI (show i < 8 by omega) (by decide)]
      refine x_iconst (v := (-1)) C dX0_countBlocked_24 (by decide) ?_
      refine x_icmp_eq (tgt := 32) C dX0_countBlocked_25 (by decide) (fun c25 => ?_) (fun c25 => ?_)
      · refine x_iconst (v := 0) C dX0_countBlocked_32 (by decide) ?_
        refine x_callS1 C dX0_countBlocked_33 kX0_88 (c_X8_bit hO) (by decide) ⟨Nat.zero_le _, Nat.zero_le _⟩ (Nat.le_of_ble_eq_true rfl) ?_
        rintro _ _ ⟨rfl, rfl⟩
        refine x_iadd C dX0_countBlocked_36 ?_
        refine x_istore_n C dX0_countBlocked_37 rfl rfl (by decide) ?_
        refine x_iinc (v := 1) C dX0_countBlocked_38 rfl (by decide) rfl (by decide) ?_
        refine x_goto (tgt := 4) C dX0_countBlocked_41 (by decide) ?_
        exact ih (i + 1) _ _ (by omega) (nI_1 i) (by subst hz; simp [h_cnt, c25])
      · refine x_iconst (v := 1) C dX0_countBlocked_28 (by decide) ?_
        refine x_goto (tgt := 33) C dX0_countBlocked_29 (by decide) ?_
        refine x_callS1 C dX0_countBlocked_33 kX0_88 (c_X8_bit hO) (by decide) ⟨Nat.zero_le _, Nat.zero_le _⟩ (Nat.le_of_ble_eq_true rfl) ?_
        rintro _ _ ⟨rfl, rfl⟩
        refine x_iadd C dX0_countBlocked_36 ?_
        refine x_istore_n C dX0_countBlocked_37 rfl rfl (by decide) ?_
        refine x_iinc (v := 1) C dX0_countBlocked_38 rfl (by decide) rfl (by decide) ?_
        refine x_goto (tgt := 4) C dX0_countBlocked_41 (by decide) ?_
        exact ih (i + 1) _ _ (by omega) (nI_1 i) (by subst hz; simp [h_cnt, c25])
  refine x_iconst (v := 0) C dX0_countBlocked_0 (by decide) ?_
  refine x_istore_n C dX0_countBlocked_1 rfl rfl (by decide) ?_
  refine x_iconst (v := 0) C dX0_countBlocked_2 (by decide) ?_
  refine x_istore_n C dX0_countBlocked_3 rfl rfl (by decide) ?_
  exact lp (p_nd P) 0 0 0 (by omega) rfl rfl
set_option maxHeartbeats 4000000 in
set_option maxRecDepth 100000 in
theorem c_X0_countBegun {l : Launch} {Y0 : x_Y} (hO : x_Ok Y0) {M : x_M} {a p : Nat} {P : PL} {A : HS} {hx sk : Nat → Int32} {ht : Int32} {Q : HS} (hP : p_ok P) (hQ : q_is Q P) (hb : x_bk M a (hvT a p P A hx sk ht)) (hp : x_bk M p (plT p Q)) : x_C l Y0 yX0_countBegun cX0_countBegun 3 (some .int) 2 0 0 [.ref a] M (fun u M1 => u = some (.int (h_begun P A)) ∧ M1 = M) := by
  refine x_start hO (by decide +kernel) (Nat.le_of_ble_eq_true rfl) (fun K C E => ?_)
  obtain ⟨h8, h6, h16, hnp, hwho, hvb, hts⟩ := hP
  obtain ⟨hq0, hq1, hq2, hq3, hq4, hq5, hq6⟩ := hQ
  have lp : ∀ (w i : Nat) (x : Int32) (z : Int32), i + w = p_nk P → x = nI i → z = h_cnt (fun k => A 4 k == 1) i → x_X K 3 0 0 4 [(0, .ref a), (1, .int z), (2, .int x)] [] M := by
    intro w
    induction w with
    | zero =>
      intro i x z hi hx hz
      subst hx
      have e : i = p_nk P := by omega
      subst e
      refine x_iload_n C dX0_countBegun_4 rfl rfl ?_
      refine x_aload_n C dX0_countBegun_5 rfl rfl ?_
      refine x_getfield C dX0_countBegun_6 fX0_48 (hb 0 _ rfl) rfl ?_
      refine x_getfield C dX0_countBegun_9 fX0_92 (hp 0 _ rfl) rfl ?_
      refine x_icmp_ge (tgt := 44) C dX0_countBegun_12 (by decide) (fun c12 => ?_) (fun c12 => absurd (by rw [hq1]; exact nI_le (Nat.le_refl _) (by omega)) c12)
      refine x_iload_n C dX0_countBegun_44 rfl rfl ?_
      refine x_iret C E dX0_countBegun_45 ?_
      exact ⟨by rw [hz]; rfl, rfl⟩
    | succ w ih =>
      intro i x z hi hx hz
      subst hx
      refine x_iload_n C dX0_countBegun_4 rfl rfl ?_
      refine x_aload_n C dX0_countBegun_5 rfl rfl ?_
      refine x_getfield C dX0_countBegun_6 fX0_48 (hb 0 _ rfl) rfl ?_
      refine x_getfield C dX0_countBegun_9 fX0_92 (hp 0 _ rfl) rfl ?_
      refine x_icmp_ge (tgt := 44) C dX0_countBegun_12 (by decide) (fun c12 => absurd c12 (by rw [hq1]; exact nI_ge (by omega) (by omega))) (fun c12 => ?_)
      refine x_iload_n C dX0_countBegun_15 rfl rfl ?_
      refine x_aload_n C dX0_countBegun_16 rfl rfl ?_
      refine x_getfield C dX0_countBegun_17 fX0_36 (hb 0 _ rfl) rfl ?_
      refine x_iload_n C dX0_countBegun_20 rfl rfl ?_
      refine x_callV1 C dX0_countBegun_21 kX0_78 (c_X4_get hO (by decide) (x_bk_sub hb 12 rfl)) (hb 12 _ rfl) rfl (by decide) ⟨Nat.zero_le _, Nat.zero_le _⟩ (Nat.le_of_ble_eq_true rfl) ?_
      rintro _ _ ⟨rfl, rfl⟩
      rw [rg_nI (show i < 6 by omega) (by decide)]
      refine x_iconst (v := 1) C dX0_countBegun_24 (by decide) ?_
      refine x_icmp_ne (tgt := 32) C dX0_countBegun_25 (by decide) (fun c25 => ?_) (fun c25 => ?_)
      · refine x_iconst (v := 0) C dX0_countBegun_32 (by decide) ?_
        refine x_callS1 C dX0_countBegun_33 kX0_88 (c_X8_bit hO) (by decide) ⟨Nat.zero_le _, Nat.zero_le _⟩ (Nat.le_of_ble_eq_true rfl) ?_
        rintro _ _ ⟨rfl, rfl⟩
        refine x_iadd C dX0_countBegun_36 ?_
        refine x_istore_n C dX0_countBegun_37 rfl rfl (by decide) ?_
        refine x_iinc (v := 1) C dX0_countBegun_38 rfl (by decide) rfl (by decide) ?_
        refine x_goto (tgt := 4) C dX0_countBegun_41 (by decide) ?_
        exact ih (i + 1) _ _ (by omega) (nI_1 i) (by subst hz; simp [h_cnt, c25])
      · refine x_iconst (v := 1) C dX0_countBegun_28 (by decide) ?_
        refine x_goto (tgt := 33) C dX0_countBegun_29 (by decide) ?_
        refine x_callS1 C dX0_countBegun_33 kX0_88 (c_X8_bit hO) (by decide) ⟨Nat.zero_le _, Nat.zero_le _⟩ (Nat.le_of_ble_eq_true rfl) ?_
        rintro _ _ ⟨rfl, rfl⟩
        refine x_iadd C dX0_countBegun_36 ?_
        refine x_istore_n C dX0_countBegun_37 rfl rfl (by decide) ?_
        refine x_iinc (v := 1) C dX0_countBegun_38 rfl (by decide) rfl (by decide) ?_
        refine x_goto (tgt := 4) C dX0_countBegun_41 (by decide) ?_
        exact ih (i + 1) _ _ (by omega) (nI_1 i) (by subst hz; simp [h_cnt, c25])
  refine x_iconst (v := 0) C dX0_countBegun_0 (by decide) ?_
  refine x_istore_n C dX0_countBegun_1 rfl rfl (by decide) ?_
  refine x_iconst (v := 0) C dX0_countBegun_2 (by decide) ?_
  refine x_istore_n C dX0_countBegun_3 rfl rfl (by decide) ?_
  exact lp (p_nk P) 0 0 0 (by omega) rfl rfl
set_option maxHeartbeats 4000000 in
set_option maxRecDepth 100000 in
theorem c_X0_countVotes {l : Launch} {Y0 : x_Y} (hO : x_Ok Y0) {M : x_M} {a p : Nat} {P : PL} {A : HS} {hx sk : Nat → Int32} {ht : Int32} {Q : HS} (hP : p_ok P) (hQ : q_is Q P) (hb : x_bk M a (hvT a p P A hx sk ht)) (hp : x_bk M p (plT p Q)) {k : Nat} {v : Int32} (hk : k < p_nk P) : x_C l Y0 yX0_countVotes cX0_countVotes 5 (some .int) 2 0 0 [.ref a, .int (nI k), .int v] M (fun u M1 => u = some (.int (h_votes P A k v)) ∧ M1 = M) := by
  refine x_start hO (by decide +kernel) (Nat.le_of_ble_eq_true rfl) (fun K C E => ?_)
  obtain ⟨h8, h6, h16, hnp, hwho, hvb, hts⟩ := hP
  obtain ⟨hq0, hq1, hq2, hq3, hq4, hq5, hq6⟩ := hQ
  have hk1 := hnp k hk
  have lp : ∀ (w i : Nat) (x : Int32) (z : Int32), i + w = p_np P k → x = nI i → z = h_cnt (fun j => A 6 (6 * k + j) == v) i → x_X K 5 0 0 5 [(0, .ref a), (1, .int (nI k)), (2, .int v), (3, .int z), (4, .int x)] [] M := by
    intro w
    induction w with
    | zero =>
      intro i x z hi hx hz
      subst hx
      have e : i = p_np P k := by omega
      subst e
      refine x_iload C dX0_countVotes_5 rfl ?_
      refine x_aload_n C dX0_countVotes_7 rfl rfl ?_
      refine x_getfield C dX0_countVotes_8 fX0_48 (hb 0 _ rfl) rfl ?_
      refine x_getfield C dX0_countVotes_11 fX0_95 (hp 0 _ rfl) rfl ?_
      refine x_iload_n C dX0_countVotes_14 rfl rfl ?_
      refine x_callV1 C dX0_countVotes_15 kX0_78 (c_X4_get hO (by decide) (x_bk_sub hp 3 rfl)) (hp 3 _ rfl) rfl (by decide) ⟨Nat.zero_le _, Nat.zero_le _⟩ (Nat.le_of_ble_eq_true rfl) ?_
      rintro _ _ ⟨rfl, rfl⟩
      rw [rg_nI (show k < 6 by omega) (by decide), hq3 k (by omega)]
      refine x_icmp_ge (tgt := 55) C dX0_countVotes_18 (by decide) (fun c18 => ?_) (fun c18 => absurd (nI_le (Nat.le_refl _) (by omega)) c18)
      refine x_iload_n C dX0_countVotes_55 rfl rfl ?_
      refine x_iret C E dX0_countVotes_56 ?_
      exact ⟨by rw [hz]; rfl, rfl⟩
    | succ w ih =>
      intro i x z hi hx hz
      subst hx
      refine x_iload C dX0_countVotes_5 rfl ?_
      refine x_aload_n C dX0_countVotes_7 rfl rfl ?_
      refine x_getfield C dX0_countVotes_8 fX0_48 (hb 0 _ rfl) rfl ?_
      refine x_getfield C dX0_countVotes_11 fX0_95 (hp 0 _ rfl) rfl ?_
      refine x_iload_n C dX0_countVotes_14 rfl rfl ?_
      refine x_callV1 C dX0_countVotes_15 kX0_78 (c_X4_get hO (by decide) (x_bk_sub hp 3 rfl)) (hp 3 _ rfl) rfl (by decide) ⟨Nat.zero_le _, Nat.zero_le _⟩ (Nat.le_of_ble_eq_true rfl) ?_
      rintro _ _ ⟨rfl, rfl⟩
      rw [rg_nI (show k < 6 by omega) (by decide), hq3 k (by omega)]
      refine x_icmp_ge (tgt := 55) C dX0_countVotes_18 (by decide) (fun c18 => absurd c18 (nI_ge (by omega) (by omega))) (fun c18 => ?_)
      refine x_iload_n C dX0_countVotes_21 rfl rfl ?_
      refine x_aload_n C dX0_countVotes_22 rfl rfl ?_
      refine x_getfield C dX0_countVotes_23 fX0_42 (hb 0 _ rfl) rfl ?_
      refine x_iload_n C dX0_countVotes_26 rfl rfl ?_
      refine x_iload C dX0_countVotes_27 rfl ?_
      refine x_callS2 C dX0_countVotes_29 kX0_98 (c_X8_slot hO) (by decide) ⟨Nat.zero_le _, Nat.zero_le _⟩ (Nat.le_of_ble_eq_true rfl) ?_
      rintro _ _ ⟨rfl, rfl⟩
      rw [slot_nI]
      refine x_callV1 C dX0_countVotes_32 kX0_78 (c_X4_get hO (by decide) (x_bk_sub hb 16 rfl)) (hb 16 _ rfl) rfl (by decide) ⟨Nat.zero_le _, Nat.zero_le _⟩ (Nat.le_of_ble_eq_true rfl) ?_
      rintro _ _ ⟨rfl, rfl⟩
      rw [rg_nI (show 6 * k + i < 36 by omega) (by decide)]
      refine x_iload_n C dX0_countVotes_35 rfl rfl ?_
      refine x_icmp_ne (tgt := 43) C dX0_countVotes_36 (by decide) (fun c36 => ?_) (fun c36 => ?_)
      · refine x_iconst (v := 0) C dX0_countVotes_43 (by decide) ?_
        refine x_callS1 C dX0_countVotes_44 kX0_88 (c_X8_bit hO) (by decide) ⟨Nat.zero_le _, Nat.zero_le _⟩ (Nat.le_of_ble_eq_true rfl) ?_
        rintro _ _ ⟨rfl, rfl⟩
        refine x_iadd C dX0_countVotes_47 ?_
        refine x_istore_n C dX0_countVotes_48 rfl rfl (by decide) ?_
        refine x_iinc (v := 1) C dX0_countVotes_49 rfl (by decide) rfl (by decide) ?_
        refine x_goto (tgt := 5) C dX0_countVotes_52 (by decide) ?_
        exact ih (i + 1) _ _ (by omega) (nI_1 i) (by subst hz; simp [h_cnt, c36])
      · refine x_iconst (v := 1) C dX0_countVotes_39 (by decide) ?_
        refine x_goto (tgt := 44) C dX0_countVotes_40 (by decide) ?_
        refine x_callS1 C dX0_countVotes_44 kX0_88 (c_X8_bit hO) (by decide) ⟨Nat.zero_le _, Nat.zero_le _⟩ (Nat.le_of_ble_eq_true rfl) ?_
        rintro _ _ ⟨rfl, rfl⟩
        refine x_iadd C dX0_countVotes_47 ?_
        refine x_istore_n C dX0_countVotes_48 rfl rfl (by decide) ?_
        refine x_iinc (v := 1) C dX0_countVotes_49 rfl (by decide) rfl (by decide) ?_
        refine x_goto (tgt := 5) C dX0_countVotes_52 (by decide) ?_
        exact ih (i + 1) _ _ (by omega) (nI_1 i) (by subst hz; simp [h_cnt, c36])
  refine x_iconst (v := 0) C dX0_countVotes_0 (by decide) ?_
  refine x_istore_n C dX0_countVotes_1 rfl rfl (by decide) ?_
  refine x_iconst (v := 0) C dX0_countVotes_2 (by decide) ?_
  refine x_istore C dX0_countVotes_3 rfl (by decide) ?_
  exact lp (p_np P k) 0 0 0 (by omega) rfl rfl
set_option maxHeartbeats 4000000 in
set_option maxRecDepth 100000 in
theorem c_X0_daysWaited {l : Launch} {Y0 : x_Y} (hO : x_Ok Y0) {M : x_M} {a p : Nat} {P : PL} {A : HS} {hx sk : Nat → Int32} {ht : Int32} {Q : HS} (hP : p_ok P) (hQ : q_is Q P) (hb : x_bk M a (hvT a p P A hx sk ht)) (hp : x_bk M p (plT p Q)) {k : Nat} (hk : k < p_nk P) : x_C l Y0 yX0_daysWaited cX0_daysWaited 2 (some .int) 2 0 0 [.ref a, .int (nI k)] M (fun u M1 => u = some (.int (h_waits A k)) ∧ M1 = M) := by
  refine x_start hO (by decide +kernel) (Nat.le_of_ble_eq_true rfl) (fun K C E => ?_)
  obtain ⟨h8, h6, h16, hnp, hwho, hvb, hts⟩ := hP
  obtain ⟨hq0, hq1, hq2, hq3, hq4, hq5, hq6⟩ := hQ
  refine x_aload_n C dX0_daysWaited_0 rfl rfl ?_
  refine x_getfield C dX0_daysWaited_1 fX0_36 (hb 0 _ rfl) rfl ?_
  refine x_iload_n C dX0_daysWaited_4 rfl rfl ?_
  refine x_callV1 C dX0_daysWaited_5 kX0_78 (c_X4_get hO (by decide) (x_bk_sub hb 12 rfl)) (hb 12 _ rfl) rfl (by decide) ⟨Nat.zero_le _, Nat.zero_le _⟩ (Nat.le_of_ble_eq_true rfl) ?_
  rintro _ _ ⟨rfl, rfl⟩
  rw [rg_nI (show k < 6 by omega) (by decide)]
  refine x_iconst (v := 1) C dX0_daysWaited_8 (by decide) ?_
  refine x_icmp_ne (tgt := 28) C dX0_daysWaited_9 (by decide) (fun c9 => ?_) (fun c9 => ?_)
  · refine x_iconst (v := 0) C dX0_daysWaited_28 (by decide) ?_
    refine x_iret C E dX0_daysWaited_29 ?_
    exact ⟨by unfold h_waits; first | rw [if_pos c9] | rw [if_neg c9] | fail, rfl⟩
  · refine x_aload_n C dX0_daysWaited_12 rfl rfl ?_
    refine x_getfield C dX0_daysWaited_13 fX0_67 (hb 0 _ rfl) rfl ?_
    refine x_aload_n C dX0_daysWaited_16 rfl rfl ?_
    refine x_getfield C dX0_daysWaited_17 fX0_39 (hb 0 _ rfl) rfl ?_
    refine x_iload_n C dX0_daysWaited_20 rfl rfl ?_
    refine x_callV1 C dX0_daysWaited_21 kX0_78 (c_X4_get hO (by decide) (x_bk_sub hb 14 rfl)) (hb 14 _ rfl) rfl (by decide) ⟨Nat.zero_le _, Nat.zero_le _⟩ (Nat.le_of_ble_eq_true rfl) ?_
    rintro _ _ ⟨rfl, rfl⟩
    rw [rg_nI (show k < 6 by omega) (by decide)]
    refine x_isub C dX0_daysWaited_24 ?_
    refine x_goto (tgt := 29) C dX0_daysWaited_25 (by decide) ?_
    refine x_iret C E dX0_daysWaited_29 ?_
    exact ⟨by unfold h_waits; first | rw [if_pos c9] | rw [if_neg c9] | fail, rfl⟩
set_option maxHeartbeats 4000000 in
set_option maxRecDepth 100000 in
theorem c_X0_isUp {l : Launch} {Y0 : x_Y} (hO : x_Ok Y0) {M : x_M} {a p : Nat} {P : PL} {A : HS} {hx sk : Nat → Int32} {ht : Int32} {Q : HS} (hP : p_ok P) (hQ : q_is Q P) (hb : x_bk M a (hvT a p P A hx sk ht)) (hp : x_bk M p (plT p Q)) (hbq : A 1 8 = 0 ∨ A 1 8 = 1) {d : Nat} (hdr : d ≤ 8) : x_C l Y0 yX0_isUp cX0_isUp 2 (some .boolean) 2 0 0 [.ref a, .int (nI d)] M (fun u M1 => u = some (.int (h_upI A d)) ∧ M1 = M) := by
  refine x_start hO (by decide +kernel) (Nat.le_of_ble_eq_true rfl) (fun K C E => ?_)
  refine x_iload_n C dX0_isUp_0 rfl rfl ?_
  refine x_bipush (v := 8) C dX0_isUp_1 (by decide) ?_
  refine x_icmp_ne (tgt := 13) C dX0_isUp_3 (by decide) (fun c3 => ?_) (fun c3 => ?_)
  · have hd8 : d < 8 := by
      rcases Nat.lt_or_ge d 8 with q | q
      · exact q
      · exact absurd (show nI d = 8 by rw [show d = 8 by omega]; rfl) c3
    refine x_aload_n C dX0_isUp_13 rfl rfl ?_
    refine x_getfield C dX0_isUp_14 fX0_27 (hb 0 _ rfl) rfl ?_
    refine x_iload_n C dX0_isUp_17 rfl rfl ?_
    refine x_callV1 C dX0_isUp_18 kX0_78 (c_X4_get hO (by decide) (x_bk_sub hb 6 rfl)) (hb 6 _ rfl) rfl (by decide) ⟨Nat.zero_le _, Nat.zero_le _⟩ (Nat.le_of_ble_eq_true rfl) ?_
    rintro _ _ ⟨rfl, rfl⟩
    rw [rg_nI (show d < 8 by omega) (by decide)]
    rw [s_fill_in hd8]
    refine x_if_ne (tgt := 28) C dX0_isUp_21 (by decide) (fun c21 => ?_) (fun c21 => ?_)
    · refine x_iconst (v := 0) C dX0_isUp_28 (by decide) ?_
      refine x_zret C E dX0_isUp_29 ?_ ?_
      · first | rfl | (rcases hbq with q | q <;> rw [q] <;> rfl) | fail
      · exact ⟨by unfold h_upI; first | rw [if_pos c21] | rw [if_neg c21] | (rcases hbq with q | q <;> rw [q] <;> rfl) | fail, rfl⟩
    · refine x_iconst (v := 1) C dX0_isUp_24 (by decide) ?_
      refine x_goto (tgt := 29) C dX0_isUp_25 (by decide) ?_
      refine x_zret C E dX0_isUp_29 ?_ ?_
      · first | rfl | (rcases hbq with q | q <;> rw [q] <;> rfl) | fail
      · exact ⟨by unfold h_upI; first | rw [if_pos c21] | rw [if_neg c21] | (rcases hbq with q | q <;> rw [q] <;> rfl) | fail, rfl⟩
  · have hd8 : d = 8 := (nI_eq (by omega) (by omega)).mp (show nI d = nI 8 from c3)
    subst hd8
    refine x_aload_n C dX0_isUp_6 rfl rfl ?_
    refine x_getfield C dX0_isUp_7 fX0_74 (hb 0 _ rfl) rfl ?_
    refine x_goto (tgt := 29) C dX0_isUp_10 (by decide) ?_
    refine x_zret C E dX0_isUp_29 ?_ ?_
    · first | rfl | (rcases hbq with q | q <;> rw [q] <;> rfl) | fail
    · exact ⟨by unfold h_upI; first | rw [if_pos c21] | rw [if_neg c21] | (rcases hbq with q | q <;> rw [q] <;> rfl) | fail, rfl⟩
set_option maxHeartbeats 4000000 in
set_option maxRecDepth 100000 in
theorem c_X0_canAgree {l : Launch} {Y0 : x_Y} (hO : x_Ok Y0) {M : x_M} {a p : Nat} {P : PL} {A : HS} {hx sk : Nat → Int32} {ht : Int32} {Q : HS} (hP : p_ok P) (hQ : q_is Q P) (hb : x_bk M a (hvT a p P A hx sk ht)) (hp : x_bk M p (plT p Q)) {s : Nat} (hs : s < 36) (hw : p_who P s < p_nd P) (hqs : Q 2 s = nI (p_who P s) ∧ Q 3 s = p_mv P s) : x_C l Y0 yX0_canAgree cX0_canAgree 4 (some .boolean) 2 0 0 [.ref a, .int (nI s)] M (fun u M1 => u = some (.int (h_b (h_agr P A s))) ∧ M1 = M) := by
  refine x_start hO (by decide +kernel) (Nat.le_of_ble_eq_true rfl) (fun K C E => ?_)
  obtain ⟨h8, h6, h16, hnp, hwho, hvb, hts⟩ := hP
  obtain ⟨hq0, hq1, hq2, hq3, hq4, hq5, hq6⟩ := hQ
  refine x_aload_n C dX0_canAgree_0 rfl rfl ?_
  refine x_getfield C dX0_canAgree_1 fX0_48 (hb 0 _ rfl) rfl ?_
  refine x_getfield C dX0_canAgree_4 fX0_106 (hp 0 _ rfl) rfl ?_
  refine x_iload_n C dX0_canAgree_7 rfl rfl ?_
  refine x_callV1 C dX0_canAgree_8 kX0_78 (c_X4_get hO (by decide) (x_bk_sub hp 5 rfl)) (hp 5 _ rfl) rfl (by decide) ⟨Nat.zero_le _, Nat.zero_le _⟩ (Nat.le_of_ble_eq_true rfl) ?_
  rintro _ _ ⟨rfl, rfl⟩
  rw [rg_nI (show s < 36 by omega) (by decide)]; rw [hqs.1]
  refine x_istore_n C dX0_canAgree_11 rfl rfl (by decide) ?_
  refine x_aload_n C dX0_canAgree_12 rfl rfl ?_
  refine x_getfield C dX0_canAgree_13 fX0_23 (hb 0 _ rfl) rfl ?_
  refine x_iload_n C dX0_canAgree_16 rfl rfl ?_
  refine x_callV1 C dX0_canAgree_17 kX0_78 (c_X4_get hO (by decide) (x_bk_sub hb 4 rfl)) (hb 4 _ rfl) rfl (by decide) ⟨Nat.zero_le _, Nat.zero_le _⟩ (Nat.le_of_ble_eq_true rfl) ?_
  rintro _ _ ⟨rfl, rfl⟩
  rw [rg_nI (show p_who P s < 8 by omega) (by decide)]; rw [s_fill_in hw]
  refine x_aload_n C dX0_canAgree_20 rfl rfl ?_
  refine x_getfield C dX0_canAgree_21 fX0_48 (hb 0 _ rfl) rfl ?_
  refine x_getfield C dX0_canAgree_24 fX0_109 (hp 0 _ rfl) rfl ?_
  refine x_iload_n C dX0_canAgree_27 rfl rfl ?_
  refine x_callV1 C dX0_canAgree_28 kX0_78 (c_X4_get hO (by decide) (x_bk_sub hp 7 rfl)) (hp 7 _ rfl) rfl (by decide) ⟨Nat.zero_le _, Nat.zero_le _⟩ (Nat.le_of_ble_eq_true rfl) ?_
  rintro _ _ ⟨rfl, rfl⟩
  rw [rg_nI (show s < 36 by omega) (by decide)]; rw [hqs.2]
  refine x_iadd C dX0_canAgree_31 ?_
  refine x_istore_n C dX0_canAgree_32 rfl rfl (by decide) ?_
  refine x_aload_n C dX0_canAgree_33 rfl rfl ?_
  refine x_getfield C dX0_canAgree_34 fX0_30 (hb 0 _ rfl) rfl ?_
  refine x_iload_n C dX0_canAgree_37 rfl rfl ?_
  refine x_callV1 C dX0_canAgree_38 kX0_78 (c_X4_get hO (by decide) (x_bk_sub hb 8 rfl)) (hb 8 _ rfl) rfl (by decide) ⟨Nat.zero_le _, Nat.zero_le _⟩ (Nat.le_of_ble_eq_true rfl) ?_
  rintro _ _ ⟨rfl, rfl⟩
  rw [rg_nI (show p_who P s < 8 by omega) (by decide)]
  refine x_iconst (v := (-1)) C dX0_canAgree_41 (by decide) ?_
  refine x_icmp_ne (tgt := 59) C dX0_canAgree_42 (by decide) (fun c42 => ?_) (fun c42 => ?_)
  · refine x_iconst (v := 0) C dX0_canAgree_59 (by decide) ?_
    refine x_zret C E dX0_canAgree_60 rfl ?_
    exact ⟨by first | (simp [h_b, h_agr, c42, c46, c52]; done) | (simp [h_b, h_agr, c42, c46]; done) | (simp [h_b, h_agr, c42]; done) | fail, rfl⟩
  · refine x_iload_n C dX0_canAgree_45 rfl rfl ?_
    refine x_if_lt (tgt := 59) C dX0_canAgree_46 (by decide) (fun c46 => ?_) (fun c46 => ?_)
    · refine x_iconst (v := 0) C dX0_canAgree_59 (by decide) ?_
      refine x_zret C E dX0_canAgree_60 rfl ?_
      exact ⟨by first | (simp [h_b, h_agr, c42, c46, c52]; done) | (simp [h_b, h_agr, c42, c46]; done) | (simp [h_b, h_agr, c42]; done) | fail, rfl⟩
    · refine x_iload_n C dX0_canAgree_49 rfl rfl ?_
      refine x_bipush (v := 99) C dX0_canAgree_50 (by decide) ?_
      refine x_icmp_gt (tgt := 59) C dX0_canAgree_52 (by decide) (fun c52 => ?_) (fun c52 => ?_)
      · refine x_iconst (v := 0) C dX0_canAgree_59 (by decide) ?_
        refine x_zret C E dX0_canAgree_60 rfl ?_
        exact ⟨by first | (simp [h_b, h_agr, c42, c46, c52]; done) | (simp [h_b, h_agr, c42, c46]; done) | (simp [h_b, h_agr, c42]; done) | fail, rfl⟩
      · refine x_iconst (v := 1) C dX0_canAgree_55 (by decide) ?_
        refine x_goto (tgt := 60) C dX0_canAgree_56 (by decide) ?_
        refine x_zret C E dX0_canAgree_60 rfl ?_
        exact ⟨by first | (simp [h_b, h_agr, c42, c46, c52]; done) | (simp [h_b, h_agr, c42, c46]; done) | (simp [h_b, h_agr, c42]; done) | fail, rfl⟩
set_option maxHeartbeats 4000000 in
set_option maxRecDepth 100000 in
theorem c_X0_allCanAgree {l : Launch} {Y0 : x_Y} (hO : x_Ok Y0) {M : x_M} {a p : Nat} {P : PL} {A : HS} {hx sk : Nat → Int32} {ht : Int32} {Q : HS} (hP : p_ok P) (hQ : q_is Q P) (hb : x_bk M a (hvT a p P A hx sk ht)) (hp : x_bk M p (plT p Q)) {k : Nat} (hk : k < p_nk P) : x_C l Y0 yX0_allCanAgree cX0_allCanAgree 3 (some .boolean) 3 0 0 [.ref a, .int (nI k)] M (fun u M1 => u = some (.int (h_b (h_agrAll P A k))) ∧ M1 = M) := by
  refine x_start hO (by decide +kernel) (Nat.le_of_ble_eq_true rfl) (fun K C E => ?_)
  have hP0 := hP
  have hQ0 := hQ
  obtain ⟨h8, h6, h16, hnp, hwho, hvb, hts⟩ := hP
  obtain ⟨hq0, hq1, hq2, hq3, hq4, hq5, hq6⟩ := hQ
  have hk1 := hnp k hk
  have lp : ∀ (w i : Nat) (x : Int32), i + w = p_np P k → x = nI i → h_all (fun j => h_agr P A (6 * k + j)) i = true → x_X K 3 0 0 2 [(0, .ref a), (1, .int (nI k)), (2, .int x)] [] M := by
    intro w
    induction w with
    | zero =>
      intro i x hi hx hz
      subst hx
      have e : i = p_np P k := by omega
      subst e
      refine x_iload_n C dX0_allCanAgree_2 rfl rfl ?_
      refine x_aload_n C dX0_allCanAgree_3 rfl rfl ?_
      refine x_getfield C dX0_allCanAgree_4 fX0_48 (hb 0 _ rfl) rfl ?_
      refine x_getfield C dX0_allCanAgree_7 fX0_95 (hp 0 _ rfl) rfl ?_
      refine x_iload_n C dX0_allCanAgree_10 rfl rfl ?_
      refine x_callV1 C dX0_allCanAgree_11 kX0_78 (c_X4_get hO (by decide) (x_bk_sub hp 3 rfl)) (hp 3 _ rfl) rfl (by decide) ⟨Nat.zero_le _, Nat.zero_le _⟩ (Nat.le_of_ble_eq_true rfl) ?_
      rintro _ _ ⟨rfl, rfl⟩
      rw [rg_nI (show k < 6 by omega) (by decide), hq3 k (by omega)]
      refine x_icmp_ge (tgt := 37) C dX0_allCanAgree_14 (by decide) (fun c14 => ?_) (fun c14 => absurd (nI_le (Nat.le_refl _) (by omega)) c14)
      refine x_iconst (v := 1) C dX0_allCanAgree_37 (by decide) ?_
      refine x_zret C E dX0_allCanAgree_38 rfl ?_
      refine ⟨?_, rfl⟩
      unfold h_agrAll
      rw [hz]
      rfl
    | succ w ih =>
      intro i x hi hx hz
      subst hx
      have hw := hwho k i hk (by omega)
      have hqs := hq4 k i hk (by omega)
      refine x_iload_n C dX0_allCanAgree_2 rfl rfl ?_
      refine x_aload_n C dX0_allCanAgree_3 rfl rfl ?_
      refine x_getfield C dX0_allCanAgree_4 fX0_48 (hb 0 _ rfl) rfl ?_
      refine x_getfield C dX0_allCanAgree_7 fX0_95 (hp 0 _ rfl) rfl ?_
      refine x_iload_n C dX0_allCanAgree_10 rfl rfl ?_
      refine x_callV1 C dX0_allCanAgree_11 kX0_78 (c_X4_get hO (by decide) (x_bk_sub hp 3 rfl)) (hp 3 _ rfl) rfl (by decide) ⟨Nat.zero_le _, Nat.zero_le _⟩ (Nat.le_of_ble_eq_true rfl) ?_
      rintro _ _ ⟨rfl, rfl⟩
      rw [rg_nI (show k < 6 by omega) (by decide), hq3 k (by omega)]
      refine x_icmp_ge (tgt := 37) C dX0_allCanAgree_14 (by decide) (fun c14 => absurd c14 (nI_ge (by omega) (by omega))) (fun c14 => ?_)
      refine x_aload_n C dX0_allCanAgree_17 rfl rfl ?_
      refine x_iload_n C dX0_allCanAgree_18 rfl rfl ?_
      refine x_iload_n C dX0_allCanAgree_19 rfl rfl ?_
      refine x_callS2 C dX0_allCanAgree_20 kX0_98 (c_X8_slot hO) (by decide) ⟨Nat.zero_le _, Nat.zero_le _⟩ (Nat.le_of_ble_eq_true rfl) ?_
      rintro _ _ ⟨rfl, rfl⟩
      rw [slot_nI]
      refine x_callV1 C dX0_allCanAgree_23 kX0_102 (c_X0_canAgree hO hP0 hQ0 hb hp (show 6 * k + i < 36 by omega) hw hqs) (hb 0 _ rfl) rfl (by decide) ⟨Nat.zero_le _, Nat.zero_le _⟩ (Nat.le_of_ble_eq_true rfl) ?_
      rintro _ _ ⟨rfl, rfl⟩
      refine x_if_ne (tgt := 31) C dX0_allCanAgree_26 (by decide) (fun c26 => ?_) (fun c26 => ?_)
      · refine x_iinc (v := 1) C dX0_allCanAgree_31 rfl (by decide) rfl (by decide) ?_
        refine x_goto (tgt := 2) C dX0_allCanAgree_34 (by decide) ?_
        exact ih (i + 1) _ (by omega) (nI_1 i) (by unfold h_all; rw [hz]; simpa [h_b] using c26)
      · refine x_iconst (v := 0) C dX0_allCanAgree_29 (by decide) ?_
        refine x_zret C E dX0_allCanAgree_30 rfl ?_
        refine ⟨?_, rfl⟩
        have hq : h_agr P A (6 * k + i) = false := by simpa [h_b] using c26
        unfold h_agrAll
        rw [h_all_no (q := fun j => h_agr P A (6 * k + j)) (j := i) hq _ (by omega)]
        rfl
  refine x_iconst (v := 0) C dX0_allCanAgree_0 (by decide) ?_
  refine x_istore_n C dX0_allCanAgree_1 rfl rfl (by decide) ?_
  exact lp (p_np P k) 0 0 (by omega) rfl rfl
theorem h_lay1 {M : x_M} {a p : Nat} {P : PL} {A : HS} {hx sk : Nat → Int32} {ht : Int32} {d : Nat} {x : Int32} (hd : d < 8) : x_ov M a ((hvT a p P A hx sk ht).set 7 (.inl (0, 8, .inl (s_fill 8 (fun _ => 0) (upd (A 1) d x))))) = x_ov M a (hvT a p P (h_u A 1 d x) hx sk ht) := by
  refine congrArg (x_ov M a) ?_
  unfold hvT
  rw [show h_u A 1 d x 1 8 = A 1 8 from h_u_ne (by omega)]
  rfl
theorem h_lay8 {M : x_M} {a p : Nat} {P : PL} {A : HS} {hx sk : Nat → Int32} {ht : Int32} {x : Int32} : x_ov M a ((hvT a p P A hx sk ht).set 0 (.inr (0, [.ref p, .ref (a + 1), .ref (a + 4), .ref (a + 6), .ref (a + 8), .ref (a + 10), .ref (a + 12), .ref (a + 14), .ref (a + 16), .ref (a + 18), .int (A 8 0), .int (A 8 1), .int (1 - x)]))) = x_ov M a (hvT a p P (h_u A 1 8 x) hx sk ht) := by
  refine congrArg (x_ov M a) ?_
  unfold hvT
  rw [show s_fill 8 (fun _ => 0) (h_u A 1 8 x 1) = s_fill 8 (fun _ => 0) (A 1) from s_fill_b (Nat.le_refl 8), show h_u A 1 8 x 1 8 = x from h_u_eq]
  rfl
set_option maxHeartbeats 4000000 in
set_option maxRecDepth 100000 in
theorem c_X0_putToSleep {l : Launch} {Y0 : x_Y} (hO : x_Ok Y0) {M : x_M} {a p : Nat} {P : PL} {A : HS} {hx sk : Nat → Int32} {ht : Int32} {Q : HS} (hP : p_ok P) (hQ : q_is Q P) (hb : x_bk M a (hvT a p P A hx sk ht)) (hp : x_bk M p (plT p Q)) (hd : p + 21 ≤ a ∨ a + 20 ≤ p) (hk9 : h_ok P A) {d : Nat} (hdr : d ≤ 8) : x_C l Y0 yX0_putToSleep cX0_putToSleep 2 (some .boolean) 3 0 0 [.ref a, .int (nI d)] M (fun u M1 => u = some (.int (h_upI A d)) ∧ M1 = x_ov M a (hvT a p P (h_sleep A d) hx sk ht)) := by
  refine x_start hO (by decide +kernel) (Nat.le_of_ble_eq_true rfl) (fun K C E => ?_)
  have hP0 := hP
  have hQ0 := hQ
  obtain ⟨h8, h6, h16, hnp, hwho, hvb, hts⟩ := hP
  obtain ⟨hq0, hq1, hq2, hq3, hq4, hq5, hq6⟩ := hQ
  have hpF : ∀ L : List x_E, L.length = 20 → x_bk (x_ov M a L) p (plT p Q) := fun L h => x_ov_far 20 hp h hd
  refine x_to (x_ov_self hb).symm ?_
  refine x_aload_n C dX0_putToSleep_0 rfl rfl ?_
  refine x_iload_n C dX0_putToSleep_1 rfl rfl ?_
  refine x_callV1 C dX0_putToSleep_2 kX0_119 (c_X0_isUp hO hP0 hQ0 x_ov_bk (hpF _ rfl) (hk9.1 8) hdr) (x_ovg 0 rfl) rfl (by decide) ⟨Nat.zero_le _, Nat.zero_le _⟩ (Nat.le_of_ble_eq_true rfl) ?_
  rintro _ _ ⟨rfl, rfl⟩
  refine x_if_ne (tgt := 10) C dX0_putToSleep_5 (by decide) (fun c5 => ?_) (fun c5 => ?_)
  · have hu : A 1 d = 0 := by
      by_cases q : A 1 d = 0
      · exact q
      · unfold h_upI at c5; rw [if_neg q] at c5; exact absurd rfl c5
    refine x_iload_n C dX0_putToSleep_10 rfl rfl ?_
    refine x_bipush (v := 8) C dX0_putToSleep_11 (by decide) ?_
    refine x_icmp_ne (tgt := 24) C dX0_putToSleep_13 (by decide) (fun c13 => ?_) (fun c13 => ?_)
    · have hd8 : d < 8 := by
        rcases Nat.lt_or_ge d 8 with q | q
        · exact q
        · exact absurd (show nI d = 8 by rw [show d = 8 by omega]; rfl) c13
      refine x_aload_n C dX0_putToSleep_24 rfl rfl ?_
      refine x_getfield C dX0_putToSleep_25 fX0_27 (x_ovg 0 rfl) rfl ?_
      refine x_iload_n C dX0_putToSleep_28 rfl rfl ?_
      refine x_iconst (v := 1) C dX0_putToSleep_29 (by decide) ?_
      refine x_callV2 C dX0_putToSleep_30 kX0_115 (c_X4_set hO (by decide) (x_bk_sub x_ov_bk 6 rfl)) (x_ovg 6 rfl) rfl (by decide) ⟨Nat.zero_le _, Nat.zero_le _⟩ (Nat.le_of_ble_eq_true rfl) ?_
      rintro _ _ ⟨rfl, rfl⟩
      refine x_to (x_st_ov 7 (Nat.le_of_ble_eq_true rfl)) ?_
      rw [rs_nI hd8 (by decide), s_fill_u hd8]
      refine x_iconst (v := 1) C dX0_putToSleep_33 (by decide) ?_
      refine x_zret C E dX0_putToSleep_34 rfl ?_
      refine ⟨by unfold h_upI; rw [if_pos hu], ?_⟩
      unfold h_sleep
      rw [if_pos hu]
      first | exact h_lay1 hd8 | exact h_lay8 (x := 1)
    · have hd8 : d = 8 := (nI_eq (by omega) (by omega)).mp (show nI d = nI 8 from c13)
      subst hd8
      refine x_aload_n C dX0_putToSleep_16 rfl rfl ?_
      refine x_iconst (v := 0) C dX0_putToSleep_17 (by decide) ?_
      refine x_putfield C dX0_putToSleep_18 fX0_74 (x_ovg 0 rfl) rfl rfl (Nat.le_of_ble_eq_true rfl) ?_
      refine x_to (x_st_ov 0 (Nat.le_of_ble_eq_true rfl)) ?_
      refine x_goto (tgt := 33) C dX0_putToSleep_21 (by decide) ?_
      refine x_iconst (v := 1) C dX0_putToSleep_33 (by decide) ?_
      refine x_zret C E dX0_putToSleep_34 rfl ?_
      refine ⟨by unfold h_upI; rw [if_pos hu], ?_⟩
      unfold h_sleep
      rw [if_pos hu]
      first | exact h_lay1 hd8 | exact h_lay8 (x := 1)
  · have hu : ¬ A 1 d = 0 := fun q => by unfold h_upI at c5; rw [if_pos q] at c5; exact absurd c5 (by decide)
    refine x_iconst (v := 0) C dX0_putToSleep_8 (by decide) ?_
    refine x_zret C E dX0_putToSleep_9 rfl ?_
    exact ⟨by unfold h_upI; rw [if_neg hu], by unfold h_sleep; rw [if_neg hu]⟩
set_option maxHeartbeats 4000000 in
set_option maxRecDepth 100000 in
theorem c_X0_refuseBegun {l : Launch} {Y0 : x_Y} (hO : x_Ok Y0) {M : x_M} {a p : Nat} {P : PL} {A : HS} {hx sk : Nat → Int32} {ht : Int32} {Q : HS} (hP : p_ok P) (hQ : q_is Q P) (hb : x_bk M a (hvT a p P A hx sk ht)) (hp : x_bk M p (plT p Q)) (hd : p + 21 ≤ a ∨ a + 20 ≤ p) : x_C l Y0 yX0_refuseBegun cX0_refuseBegun 2 none 2 0 0 [.ref a] M (fun u M1 => u = none ∧ M1 = x_ov M a (hvT a p P (h_refuse P A) hx sk ht)) := by
  refine x_start hO (by decide +kernel) (Nat.le_of_ble_eq_true rfl) (fun K C E => ?_)
  have hP0 := hP
  have hQ0 := hQ
  obtain ⟨h8, h6, h16, hnp, hwho, hvb, hts⟩ := hP
  obtain ⟨hq0, hq1, hq2, hq3, hq4, hq5, hq6⟩ := hQ
  have hpF : ∀ L : List x_E, L.length = 20 → x_bk (x_ov M a L) p (plT p Q) := fun L h => x_ov_far 20 hp h hd
  refine x_to (x_ov_self hb).symm ?_
  have lp : ∀ (w i : Nat) (x : Int32) (B : HS), i + w = p_nk P → x = nI i → B = h_it (h_ref1) i (A) → x_X K 2 0 0 2 [(0, .ref a), (1, .int x)] [] (x_ov M a (hvT a p P B hx sk ht)) := by
    intro w
    induction w with
    | zero =>
      intro i x B hi hx hz
      subst hx
      have e : i = p_nk P := by omega
      subst e
      refine x_iload_n C dX0_refuseBegun_2 rfl rfl ?_
      refine x_aload_n C dX0_refuseBegun_3 rfl rfl ?_
      refine x_getfield C dX0_refuseBegun_4 fX0_48 (x_ovg 0 rfl) rfl ?_
      refine x_getfield C dX0_refuseBegun_7 fX0_92 ((hpF _ rfl) 0 _ rfl) rfl ?_
      refine x_icmp_ge (tgt := 40) C dX0_refuseBegun_10 (by decide) (fun c10 => ?_) (fun c10 => absurd (by rw [hq1]; exact nI_le (Nat.le_refl _) (by omega)) c10)
      refine x_vret C E dX0_refuseBegun_40 ?_
      exact ⟨rfl, by unfold h_refuse; rw [← hz]⟩
    | succ w ih =>
      intro i x B hi hx hz
      subst hx
      refine x_iload_n C dX0_refuseBegun_2 rfl rfl ?_
      refine x_aload_n C dX0_refuseBegun_3 rfl rfl ?_
      refine x_getfield C dX0_refuseBegun_4 fX0_48 (x_ovg 0 rfl) rfl ?_
      refine x_getfield C dX0_refuseBegun_7 fX0_92 ((hpF _ rfl) 0 _ rfl) rfl ?_
      refine x_icmp_ge (tgt := 40) C dX0_refuseBegun_10 (by decide) (fun c10 => absurd c10 (by rw [hq1]; exact nI_ge (by omega) (by omega))) (fun c10 => ?_)
      refine x_aload_n C dX0_refuseBegun_13 rfl rfl ?_
      refine x_getfield C dX0_refuseBegun_14 fX0_36 (x_ovg 0 rfl) rfl ?_
      refine x_iload_n C dX0_refuseBegun_17 rfl rfl ?_
      refine x_callV1 C dX0_refuseBegun_18 kX0_78 (c_X4_get hO (by decide) (x_bk_sub x_ov_bk 12 rfl)) (x_ovg 12 rfl) rfl (by decide) ⟨Nat.zero_le _, Nat.zero_le _⟩ (Nat.le_of_ble_eq_true rfl) ?_
      rintro _ _ ⟨rfl, rfl⟩
      rw [rg_nI (show i < 6 by omega) (by decide)]
      refine x_iconst (v := 1) C dX0_refuseBegun_21 (by decide) ?_
      refine x_icmp_ne (tgt := 34) C dX0_refuseBegun_22 (by decide) (fun c22 => ?_) (fun c22 => ?_)
      · refine x_iinc (v := 1) C dX0_refuseBegun_34 rfl (by decide) rfl (by decide) ?_
        refine x_goto (tgt := 2) C dX0_refuseBegun_37 (by decide) ?_
        first
          | exact ih (i + 1) _ (h_u B 4 i 3) (by omega) (nI_1 i) (by show _ = h_ref1 (h_it h_ref1 i A) i; rw [← hz]; unfold h_ref1; rw [if_pos c22])
          | exact ih (i + 1) _ B (by omega) (nI_1 i) (by show _ = h_ref1 (h_it h_ref1 i A) i; rw [← hz]; unfold h_ref1; rw [if_neg c22])
          | fail
      · refine x_aload_n C dX0_refuseBegun_25 rfl rfl ?_
        refine x_getfield C dX0_refuseBegun_26 fX0_36 (x_ovg 0 rfl) rfl ?_
        refine x_iload_n C dX0_refuseBegun_29 rfl rfl ?_
        refine x_iconst (v := 3) C dX0_refuseBegun_30 (by decide) ?_
        refine x_callV2 C dX0_refuseBegun_31 kX0_115 (c_X4_set hO (by decide) (x_bk_sub x_ov_bk 12 rfl)) (x_ovg 12 rfl) rfl (by decide) ⟨Nat.zero_le _, Nat.zero_le _⟩ (Nat.le_of_ble_eq_true rfl) ?_
        rintro _ _ ⟨rfl, rfl⟩
        refine x_to (x_st_ov 13 (Nat.le_of_ble_eq_true rfl)) ?_
        rw [rs_nI (show i < 6 by omega) (by decide)]
        refine x_iinc (v := 1) C dX0_refuseBegun_34 rfl (by decide) rfl (by decide) ?_
        refine x_goto (tgt := 2) C dX0_refuseBegun_37 (by decide) ?_
        first
          | exact ih (i + 1) _ (h_u B 4 i 3) (by omega) (nI_1 i) (by show _ = h_ref1 (h_it h_ref1 i A) i; rw [← hz]; unfold h_ref1; rw [if_pos c22])
          | exact ih (i + 1) _ B (by omega) (nI_1 i) (by show _ = h_ref1 (h_it h_ref1 i A) i; rw [← hz]; unfold h_ref1; rw [if_neg c22])
          | fail
  refine x_iconst (v := 0) C dX0_refuseBegun_0 (by decide) ?_
  refine x_istore_n C dX0_refuseBegun_1 rfl rfl (by decide) ?_
  exact lp (p_nk P) 0 0 A (by omega) rfl rfl
set_option maxHeartbeats 4000000 in
set_option maxRecDepth 100000 in
theorem c_X0_rouse {l : Launch} {Y0 : x_Y} (hO : x_Ok Y0) {M : x_M} {a p : Nat} {P : PL} {A : HS} {hx sk : Nat → Int32} {ht : Int32} {Q : HS} (hP : p_ok P) (hQ : q_is Q P) (hb : x_bk M a (hvT a p P A hx sk ht)) (hp : x_bk M p (plT p Q)) (hd : p + 21 ≤ a ∨ a + 20 ≤ p) (hk9 : h_ok P A) {d : Nat} (hdr : d ≤ 8) : x_C l Y0 yX0_rouse cX0_rouse 2 (some .boolean) 3 0 0 [.ref a, .int (nI d)] M (fun u M1 => u = some (.int (1 - h_upI A d)) ∧ M1 = x_ov M a (hvT a p P (h_rouse P A d) hx sk ht)) := by
  refine x_start hO (by decide +kernel) (Nat.le_of_ble_eq_true rfl) (fun K C E => ?_)
  have hP0 := hP
  have hQ0 := hQ
  obtain ⟨h8, h6, h16, hnp, hwho, hvb, hts⟩ := hP
  obtain ⟨hq0, hq1, hq2, hq3, hq4, hq5, hq6⟩ := hQ
  have hpF : ∀ L : List x_E, L.length = 20 → x_bk (x_ov M a L) p (plT p Q) := fun L h => x_ov_far 20 hp h hd
  refine x_to (x_ov_self hb).symm ?_
  refine x_aload_n C dX0_rouse_0 rfl rfl ?_
  refine x_iload_n C dX0_rouse_1 rfl rfl ?_
  refine x_callV1 C dX0_rouse_2 kX0_119 (c_X0_isUp hO hP0 hQ0 x_ov_bk (hpF _ rfl) (hk9.1 8) hdr) (x_ovg 0 rfl) rfl (by decide) ⟨Nat.zero_le _, Nat.zero_le _⟩ (Nat.le_of_ble_eq_true rfl) ?_
  rintro _ _ ⟨rfl, rfl⟩
  refine x_if_eq (tgt := 10) C dX0_rouse_5 (by decide) (fun c5 => ?_) (fun c5 => ?_)
  · have hu : ¬ A 1 d = 0 := fun q => by unfold h_upI at c5; rw [if_pos q] at c5; exact absurd c5 (by decide)
    refine x_iload_n C dX0_rouse_10 rfl rfl ?_
    refine x_bipush (v := 8) C dX0_rouse_11 (by decide) ?_
    refine x_icmp_ne (tgt := 28) C dX0_rouse_13 (by decide) (fun c13 => ?_) (fun c13 => ?_)
    · have hd8 : d < 8 := by
        rcases Nat.lt_or_ge d 8 with q | q
        · exact q
        · exact absurd (show nI d = 8 by rw [show d = 8 by omega]; rfl) c13
      refine x_aload_n C dX0_rouse_28 rfl rfl ?_
      refine x_getfield C dX0_rouse_29 fX0_27 (x_ovg 0 rfl) rfl ?_
      refine x_iload_n C dX0_rouse_32 rfl rfl ?_
      refine x_iconst (v := 0) C dX0_rouse_33 (by decide) ?_
      refine x_callV2 C dX0_rouse_34 kX0_115 (c_X4_set hO (by decide) (x_bk_sub x_ov_bk 6 rfl)) (x_ovg 6 rfl) rfl (by decide) ⟨Nat.zero_le _, Nat.zero_le _⟩ (Nat.le_of_ble_eq_true rfl) ?_
      rintro _ _ ⟨rfl, rfl⟩
      refine x_to (x_st_ov 7 (Nat.le_of_ble_eq_true rfl)) ?_
      rw [rs_nI hd8 (by decide), s_fill_u hd8]
      refine x_to (h_lay1 hd8) ?_
      refine x_iconst (v := 1) C dX0_rouse_37 (by decide) ?_
      refine x_zret C E dX0_rouse_38 rfl ?_
      refine ⟨by unfold h_upI; rw [if_neg hu]; rfl, ?_⟩
      unfold h_rouse h_wake
      rw [if_neg hu]
      first | rw [if_pos rfl] | rw [if_neg (show ¬ d = 8 by omega)]
    · have hd8 : d = 8 := (nI_eq (by omega) (by omega)).mp (show nI d = nI 8 from c13)
      subst hd8
      refine x_aload_n C dX0_rouse_16 rfl rfl ?_
      refine x_iconst (v := 1) C dX0_rouse_17 (by decide) ?_
      refine x_putfield C dX0_rouse_18 fX0_74 (x_ovg 0 rfl) rfl rfl (Nat.le_of_ble_eq_true rfl) ?_
      refine x_to (x_st_ov 0 (Nat.le_of_ble_eq_true rfl)) ?_
      refine x_to (h_lay8 (x := 0)) ?_
      refine x_aload_n C dX0_rouse_21 rfl rfl ?_
      refine x_callV0 C dX0_rouse_22 kX0_122 (c_X0_refuseBegun (A := h_u A 1 8 0) hO hP0 hQ0 x_ov_bk (hpF _ rfl) hd) (x_ovg 0 rfl) rfl (by decide) ⟨Nat.zero_le _, Nat.zero_le _⟩ (Nat.le_of_ble_eq_true rfl) ?_
      rintro _ _ ⟨rfl, rfl⟩
      refine x_to (x_ov_ov rfl) ?_
      refine x_goto (tgt := 37) C dX0_rouse_25 (by decide) ?_
      refine x_iconst (v := 1) C dX0_rouse_37 (by decide) ?_
      refine x_zret C E dX0_rouse_38 rfl ?_
      refine ⟨by unfold h_upI; rw [if_neg hu]; rfl, ?_⟩
      unfold h_rouse h_wake
      rw [if_neg hu]
      first | rw [if_pos rfl] | rw [if_neg (show ¬ d = 8 by omega)]
  · have hu : A 1 d = 0 := by
      by_cases q : A 1 d = 0
      · exact q
      · unfold h_upI at c5; rw [if_neg q] at c5; exact absurd rfl c5
    refine x_iconst (v := 0) C dX0_rouse_8 (by decide) ?_
    refine x_zret C E dX0_rouse_9 rfl ?_
    exact ⟨by unfold h_upI; rw [if_pos hu]; rfl, by unfold h_rouse; rw [if_pos hu]⟩
set_option maxHeartbeats 4000000 in
set_option maxRecDepth 100000 in
theorem c_X0_isOver {l : Launch} {Y0 : x_Y} (hO : x_Ok Y0) {M : x_M} {a p : Nat} {P : PL} {A : HS} {hx sk : Nat → Int32} {ht : Int32} {Q : HS} (hP : p_ok P) (hQ : q_is Q P) (hb : x_bk M a (hvT a p P A hx sk ht)) (hp : x_bk M p (plT p Q)) {k : Nat} (hk : k < p_nk P) : x_C l Y0 yX0_isOver cX0_isOver 4 (some .boolean) 2 0 0 [.ref a, .int (nI k)] M (fun u M1 => u = some (.int (h_b (h_over P A k))) ∧ M1 = M) := by
  refine x_start hO (by decide +kernel) (Nat.le_of_ble_eq_true rfl) (fun K C E => ?_)
  obtain ⟨h8, h6, h16, hnp, hwho, hvb, hts⟩ := hP
  obtain ⟨hq0, hq1, hq2, hq3, hq4, hq5, hq6⟩ := hQ
  have hk1 := hnp k hk
  have lp : ∀ (w i : Nat) (x : Int32), i + w = p_np P k → x = nI i → h_all (fun j => A 7 (6 * k + j) != 0) i = true → ¬ A 4 k = 0 → ¬ A 4 k = 1 → x_X K 4 0 0 30 [(0, .ref a), (1, .int (nI k)), (2, .int (A 4 k)), (3, .int x)] [] M := by
    intro w
    induction w with
    | zero =>
      intro i x hi hx hz g0 g1
      subst hx
      have e : i = p_np P k := by omega
      subst e
      refine x_iload_n C dX0_isOver_30 rfl rfl ?_
      refine x_aload_n C dX0_isOver_31 rfl rfl ?_
      refine x_getfield C dX0_isOver_32 fX0_48 (hb 0 _ rfl) rfl ?_
      refine x_getfield C dX0_isOver_35 fX0_95 (hp 0 _ rfl) rfl ?_
      refine x_iload_n C dX0_isOver_38 rfl rfl ?_
      refine x_callV1 C dX0_isOver_39 kX0_78 (c_X4_get hO (by decide) (x_bk_sub hp 3 rfl)) (hp 3 _ rfl) rfl (by decide) ⟨Nat.zero_le _, Nat.zero_le _⟩ (Nat.le_of_ble_eq_true rfl) ?_
      rintro _ _ ⟨rfl, rfl⟩
      rw [rg_nI (show k < 6 by omega) (by decide), hq3 k (by omega)]
      refine x_icmp_ge (tgt := 68) C dX0_isOver_42 (by decide) (fun c42 => ?_) (fun c42 => absurd (nI_le (Nat.le_refl _) (by omega)) c42)
      refine x_iconst (v := 1) C dX0_isOver_68 (by decide) ?_
      refine x_zret C E dX0_isOver_69 rfl ?_
      refine ⟨?_, rfl⟩
      have hq : h_heardAll P A k = true := hz
      simp [h_b, h_over, hq, g0, g1]
    | succ w ih =>
      intro i x hi hx hz g0 g1
      subst hx
      refine x_iload_n C dX0_isOver_30 rfl rfl ?_
      refine x_aload_n C dX0_isOver_31 rfl rfl ?_
      refine x_getfield C dX0_isOver_32 fX0_48 (hb 0 _ rfl) rfl ?_
      refine x_getfield C dX0_isOver_35 fX0_95 (hp 0 _ rfl) rfl ?_
      refine x_iload_n C dX0_isOver_38 rfl rfl ?_
      refine x_callV1 C dX0_isOver_39 kX0_78 (c_X4_get hO (by decide) (x_bk_sub hp 3 rfl)) (hp 3 _ rfl) rfl (by decide) ⟨Nat.zero_le _, Nat.zero_le _⟩ (Nat.le_of_ble_eq_true rfl) ?_
      rintro _ _ ⟨rfl, rfl⟩
      rw [rg_nI (show k < 6 by omega) (by decide), hq3 k (by omega)]
      refine x_icmp_ge (tgt := 68) C dX0_isOver_42 (by decide) (fun c42 => absurd c42 (nI_ge (by omega) (by omega))) (fun c42 => ?_)
      refine x_aload_n C dX0_isOver_45 rfl rfl ?_
      refine x_getfield C dX0_isOver_46 fX0_45 (hb 0 _ rfl) rfl ?_
      refine x_iload_n C dX0_isOver_49 rfl rfl ?_
      refine x_iload_n C dX0_isOver_50 rfl rfl ?_
      refine x_callS2 C dX0_isOver_51 kX0_98 (c_X8_slot hO) (by decide) ⟨Nat.zero_le _, Nat.zero_le _⟩ (Nat.le_of_ble_eq_true rfl) ?_
      rintro _ _ ⟨rfl, rfl⟩
      rw [slot_nI]
      refine x_callV1 C dX0_isOver_54 kX0_78 (c_X4_get hO (by decide) (x_bk_sub hb 18 rfl)) (hb 18 _ rfl) rfl (by decide) ⟨Nat.zero_le _, Nat.zero_le _⟩ (Nat.le_of_ble_eq_true rfl) ?_
      rintro _ _ ⟨rfl, rfl⟩
      rw [rg_nI (show 6 * k + i < 36 by omega) (by decide)]
      refine x_if_ne (tgt := 62) C dX0_isOver_57 (by decide) (fun c57 => ?_) (fun c57 => ?_)
      · refine x_iinc (v := 1) C dX0_isOver_62 rfl (by decide) rfl (by decide) ?_
        refine x_goto (tgt := 30) C dX0_isOver_65 (by decide) ?_
        exact ih (i + 1) _ (by omega) (nI_1 i) (by unfold h_all; rw [hz]; simp [c57]) g0 g1
      · refine x_iconst (v := 0) C dX0_isOver_60 (by decide) ?_
        refine x_zret C E dX0_isOver_61 rfl ?_
        refine ⟨?_, rfl⟩
        have hq : h_heardAll P A k = false := h_all_no (q := fun j => A 7 (6 * k + j) != 0) (j := i) (by simp [c57]) _ (by omega)
        simp [h_b, h_over, hq, g0]
  refine x_aload_n C dX0_isOver_0 rfl rfl ?_
  refine x_getfield C dX0_isOver_1 fX0_36 (hb 0 _ rfl) rfl ?_
  refine x_iload_n C dX0_isOver_4 rfl rfl ?_
  refine x_callV1 C dX0_isOver_5 kX0_78 (c_X4_get hO (by decide) (x_bk_sub hb 12 rfl)) (hb 12 _ rfl) rfl (by decide) ⟨Nat.zero_le _, Nat.zero_le _⟩ (Nat.le_of_ble_eq_true rfl) ?_
  rintro _ _ ⟨rfl, rfl⟩
  rw [rg_nI (show k < 6 by omega) (by decide)]
  refine x_istore_n C dX0_isOver_8 rfl rfl (by decide) ?_
  refine x_iload_n C dX0_isOver_9 rfl rfl ?_
  refine x_if_eq (tgt := 18) C dX0_isOver_10 (by decide) (fun c10 => ?_) (fun c10 => ?_)
  · refine x_iload_n C dX0_isOver_18 rfl rfl ?_
    refine x_if_ne (tgt := 26) C dX0_isOver_19 (by decide) (fun c19 => ?_) (fun c19 => ?_)
    · refine x_iconst (v := 0) C dX0_isOver_26 (by decide) ?_
      refine x_zret C E dX0_isOver_27 rfl ?_
      refine ⟨?_, rfl⟩
      first | exact absurd c10 c19 | exact absurd c19 c10 | (simp [h_b, h_over, c10]; done) | (simp [h_b, h_over, c10, c15]; done) | fail
    · refine x_iconst (v := 1) C dX0_isOver_22 (by decide) ?_
      refine x_goto (tgt := 27) C dX0_isOver_23 (by decide) ?_
      refine x_zret C E dX0_isOver_27 rfl ?_
      refine ⟨?_, rfl⟩
      first | exact absurd c10 c19 | exact absurd c19 c10 | (simp [h_b, h_over, c10]; done) | (simp [h_b, h_over, c10, c15]; done) | fail
  · refine x_iload_n C dX0_isOver_13 rfl rfl ?_
    refine x_iconst (v := 1) C dX0_isOver_14 (by decide) ?_
    refine x_icmp_ne (tgt := 28) C dX0_isOver_15 (by decide) (fun c15 => ?_) (fun c15 => ?_)
    · refine x_iconst (v := 0) C dX0_isOver_28 (by decide) ?_
      refine x_istore_n C dX0_isOver_29 rfl rfl (by decide) ?_
      exact lp (p_np P k) 0 0 (by omega) rfl rfl c10 c15
    · refine x_iload_n C dX0_isOver_18 rfl rfl ?_
      refine x_if_ne (tgt := 26) C dX0_isOver_19 (by decide) (fun c19 => ?_) (fun c19 => ?_)
      · refine x_iconst (v := 0) C dX0_isOver_26 (by decide) ?_
        refine x_zret C E dX0_isOver_27 rfl ?_
        refine ⟨?_, rfl⟩
        first | exact absurd c10 c19 | exact absurd c19 c10 | (simp [h_b, h_over, c10]; done) | (simp [h_b, h_over, c10, c15]; done) | fail
      · refine x_iconst (v := 1) C dX0_isOver_22 (by decide) ?_
        refine x_goto (tgt := 27) C dX0_isOver_23 (by decide) ?_
        refine x_zret C E dX0_isOver_27 rfl ?_
        refine ⟨?_, rfl⟩
        first | exact absurd c10 c19 | exact absurd c19 c10 | (simp [h_b, h_over, c10]; done) | (simp [h_b, h_over, c10, c15]; done) | fail
set_option maxHeartbeats 4000000 in
set_option maxRecDepth 100000 in
theorem c_X0_startDeal {l : Launch} {Y0 : x_Y} (hO : x_Ok Y0) {M : x_M} {a p : Nat} {P : PL} {A : HS} {hx sk : Nat → Int32} {ht : Int32} {Q : HS} (hP : p_ok P) (hQ : q_is Q P) (hb : x_bk M a (hvT a p P A hx sk ht)) (hp : x_bk M p (plT p Q)) (hd : p + 21 ≤ a ∨ a + 20 ≤ p) (hk9 : h_ok P A) {k : Nat} (hk : k < p_nk P) : x_C l Y0 yX0_startDeal cX0_startDeal 3 (some .boolean) 3 0 0 [.ref a, .int (nI k)] M (fun u M1 => u = some (.int (h_b (h_can P A k))) ∧ M1 = x_ov M a (hvT a p P (if h_can P A k = true then h_begin P A k else A) hx sk ht)) := by
  refine x_start hO (by decide +kernel) (Nat.le_of_ble_eq_true rfl) (fun K C E => ?_)
  have hP0 := hP
  have hQ0 := hQ
  obtain ⟨h8, h6, h16, hnp, hwho, hvb, hts⟩ := hP
  obtain ⟨hq0, hq1, hq2, hq3, hq4, hq5, hq6⟩ := hQ
  have hpF : ∀ L : List x_E, L.length = 20 → x_bk (x_ov M a L) p (plT p Q) := fun L h => x_ov_far 20 hp h hd
  refine x_to (x_ov_self hb).symm ?_
  have hk1 := hnp k hk
  have lp : ∀ (w i : Nat) (x : Int32) (B : HS), i + w = p_np P k → x = nI i → B = h_it (h_clr k) i (h_u (h_u A 4 k 1) 5 k (A 8 0)) → ¬ h_b (h_over P A k) = 0 → A 1 8 = 0 → x_X K 3 0 0 40 [(0, .ref a), (1, .int (nI k)), (2, .int x)] [] (x_ov M a (hvT a p P B hx sk ht)) := by
    intro w
    induction w with
    | zero =>
      intro i x B hi hx hz g0 g1
      subst hx
      have e : i = p_np P k := by omega
      subst e
      refine x_iload_n C dX0_startDeal_40 rfl rfl ?_
      refine x_aload_n C dX0_startDeal_41 rfl rfl ?_
      refine x_getfield C dX0_startDeal_42 fX0_48 (x_ovg 0 rfl) rfl ?_
      refine x_getfield C dX0_startDeal_45 fX0_95 ((hpF _ rfl) 0 _ rfl) rfl ?_
      refine x_iload_n C dX0_startDeal_48 rfl rfl ?_
      refine x_callV1 C dX0_startDeal_49 kX0_78 (c_X4_get hO (by decide) (x_bk_sub (hpF _ rfl) 3 rfl)) ((hpF _ rfl) 3 _ rfl) rfl (by decide) ⟨Nat.zero_le _, Nat.zero_le _⟩ (Nat.le_of_ble_eq_true rfl) ?_
      rintro _ _ ⟨rfl, rfl⟩
      rw [rg_nI (show k < 6 by omega) (by decide), hq3 k (by omega)]
      refine x_icmp_ge (tgt := 87) C dX0_startDeal_52 (by decide) (fun c52 => ?_) (fun c52 => absurd (nI_le (Nat.le_refl _) (by omega)) c52)
      refine x_iconst (v := 1) C dX0_startDeal_87 (by decide) ?_
      refine x_zret C E dX0_startDeal_88 rfl ?_
      have hq : h_can P A k = true := by simp [h_can, g1]; simpa [h_b] using g0
      exact ⟨by rw [hq]; rfl, by rw [hq, if_pos rfl, hz]; rfl⟩
    | succ w ih =>
      intro i x B hi hx hz g0 g1
      subst hx
      refine x_iload_n C dX0_startDeal_40 rfl rfl ?_
      refine x_aload_n C dX0_startDeal_41 rfl rfl ?_
      refine x_getfield C dX0_startDeal_42 fX0_48 (x_ovg 0 rfl) rfl ?_
      refine x_getfield C dX0_startDeal_45 fX0_95 ((hpF _ rfl) 0 _ rfl) rfl ?_
      refine x_iload_n C dX0_startDeal_48 rfl rfl ?_
      refine x_callV1 C dX0_startDeal_49 kX0_78 (c_X4_get hO (by decide) (x_bk_sub (hpF _ rfl) 3 rfl)) ((hpF _ rfl) 3 _ rfl) rfl (by decide) ⟨Nat.zero_le _, Nat.zero_le _⟩ (Nat.le_of_ble_eq_true rfl) ?_
      rintro _ _ ⟨rfl, rfl⟩
      rw [rg_nI (show k < 6 by omega) (by decide), hq3 k (by omega)]
      refine x_icmp_ge (tgt := 87) C dX0_startDeal_52 (by decide) (fun c52 => absurd c52 (nI_ge (by omega) (by omega))) (fun c52 => ?_)
      refine x_aload_n C dX0_startDeal_55 rfl rfl ?_
      refine x_getfield C dX0_startDeal_56 fX0_42 (x_ovg 0 rfl) rfl ?_
      refine x_iload_n C dX0_startDeal_59 rfl rfl ?_
      refine x_iload_n C dX0_startDeal_60 rfl rfl ?_
      refine x_callS2 C dX0_startDeal_61 kX0_98 (c_X8_slot hO) (by decide) ⟨Nat.zero_le _, Nat.zero_le _⟩ (Nat.le_of_ble_eq_true rfl) ?_
      rintro _ _ ⟨rfl, rfl⟩
      rw [slot_nI]
      refine x_iconst (v := 0) C dX0_startDeal_64 (by decide) ?_
      refine x_callV2 C dX0_startDeal_65 kX0_115 (c_X4_set hO (by decide) (x_bk_sub x_ov_bk 16 rfl)) (x_ovg 16 rfl) rfl (by decide) ⟨Nat.zero_le _, Nat.zero_le _⟩ (Nat.le_of_ble_eq_true rfl) ?_
      rintro _ _ ⟨rfl, rfl⟩
      refine x_to (x_st_ov 17 (Nat.le_of_ble_eq_true rfl)) ?_
      rw [rs_nI (show 6 * k + i < 36 by omega) (by decide)]
      refine x_aload_n C dX0_startDeal_68 rfl rfl ?_
      refine x_getfield C dX0_startDeal_69 fX0_45 (x_ovg 0 rfl) rfl ?_
      refine x_iload_n C dX0_startDeal_72 rfl rfl ?_
      refine x_iload_n C dX0_startDeal_73 rfl rfl ?_
      refine x_callS2 C dX0_startDeal_74 kX0_98 (c_X8_slot hO) (by decide) ⟨Nat.zero_le _, Nat.zero_le _⟩ (Nat.le_of_ble_eq_true rfl) ?_
      rintro _ _ ⟨rfl, rfl⟩
      rw [slot_nI]
      refine x_iconst (v := 0) C dX0_startDeal_77 (by decide) ?_
      refine x_callV2 C dX0_startDeal_78 kX0_115 (c_X4_set hO (by decide) (x_bk_sub x_ov_bk 18 rfl)) (x_ovg 18 rfl) rfl (by decide) ⟨Nat.zero_le _, Nat.zero_le _⟩ (Nat.le_of_ble_eq_true rfl) ?_
      rintro _ _ ⟨rfl, rfl⟩
      refine x_to (x_st_ov 19 (Nat.le_of_ble_eq_true rfl)) ?_
      rw [rs_nI (show 6 * k + i < 36 by omega) (by decide)]
      refine x_iinc (v := 1) C dX0_startDeal_81 rfl (by decide) rfl (by decide) ?_
      refine x_goto (tgt := 40) C dX0_startDeal_84 (by decide) ?_
      exact ih (i + 1) _ (h_clr k B i) (by omega) (nI_1 i) (by rw [hz]; rfl) g0 g1
  refine x_aload_n C dX0_startDeal_0 rfl rfl ?_
  refine x_getfield C dX0_startDeal_1 fX0_74 (x_ovg 0 rfl) rfl ?_
  refine x_if_eq (tgt := 15) C dX0_startDeal_4 (by decide) (fun c4 => ?_) (fun c4 => ?_)
  · have hq8 : A 1 8 = 1 := (hk9.1 8).resolve_left (fun q => by rw [q] at c4; exact absurd c4 (by decide))
    refine x_iconst (v := 0) C dX0_startDeal_15 (by decide) ?_
    refine x_zret C E dX0_startDeal_16 rfl ?_
    first
      | (have hq : h_can P A k = false := by simp [h_can, hq8]
         exact ⟨by rw [hq]; rfl, by rw [hq]; rfl⟩)
      | (have hq : h_can P A k = false := by simp [h_can, hq8]; simpa [h_b] using c12
         exact ⟨by rw [hq]; rfl, by rw [hq]; rfl⟩)
      | fail
  · have hq8 : A 1 8 = 0 := (hk9.1 8).resolve_right (fun q => by rw [q] at c4; exact absurd c4 (by decide))
    refine x_aload_n C dX0_startDeal_7 rfl rfl ?_
    refine x_iload_n C dX0_startDeal_8 rfl rfl ?_
    refine x_callV1 C dX0_startDeal_9 kX0_112 (c_X0_isOver hO hP0 hQ0 x_ov_bk (hpF _ rfl) hk) (x_ovg 0 rfl) rfl (by decide) ⟨Nat.zero_le _, Nat.zero_le _⟩ (Nat.le_of_ble_eq_true rfl) ?_
    rintro _ _ ⟨rfl, rfl⟩
    refine x_if_ne (tgt := 17) C dX0_startDeal_12 (by decide) (fun c12 => ?_) (fun c12 => ?_)
    · refine x_aload_n C dX0_startDeal_17 rfl rfl ?_
      refine x_getfield C dX0_startDeal_18 fX0_36 (x_ovg 0 rfl) rfl ?_
      refine x_iload_n C dX0_startDeal_21 rfl rfl ?_
      refine x_iconst (v := 1) C dX0_startDeal_22 (by decide) ?_
      refine x_callV2 C dX0_startDeal_23 kX0_115 (c_X4_set hO (by decide) (x_bk_sub x_ov_bk 12 rfl)) (x_ovg 12 rfl) rfl (by decide) ⟨Nat.zero_le _, Nat.zero_le _⟩ (Nat.le_of_ble_eq_true rfl) ?_
      rintro _ _ ⟨rfl, rfl⟩
      refine x_to (x_st_ov 13 (Nat.le_of_ble_eq_true rfl)) ?_
      rw [rs_nI (show k < 6 by omega) (by decide)]
      refine x_aload_n C dX0_startDeal_26 rfl rfl ?_
      refine x_getfield C dX0_startDeal_27 fX0_39 (x_ovg 0 rfl) rfl ?_
      refine x_iload_n C dX0_startDeal_30 rfl rfl ?_
      refine x_aload_n C dX0_startDeal_31 rfl rfl ?_
      refine x_getfield C dX0_startDeal_32 fX0_67 (x_ovg 0 rfl) rfl ?_
      refine x_callV2 C dX0_startDeal_35 kX0_115 (c_X4_set hO (by decide) (x_bk_sub x_ov_bk 14 rfl)) (x_ovg 14 rfl) rfl (by decide) ⟨Nat.zero_le _, Nat.zero_le _⟩ (Nat.le_of_ble_eq_true rfl) ?_
      rintro _ _ ⟨rfl, rfl⟩
      refine x_to (x_st_ov 15 (Nat.le_of_ble_eq_true rfl)) ?_
      rw [rs_nI (show k < 6 by omega) (by decide)]
      refine x_iconst (v := 0) C dX0_startDeal_38 (by decide) ?_
      refine x_istore_n C dX0_startDeal_39 rfl rfl (by decide) ?_
      exact lp (p_np P k) 0 0 (h_u (h_u A 4 k 1) 5 k (A 8 0)) (by omega) rfl rfl c12 hq8
    · refine x_iconst (v := 0) C dX0_startDeal_15 (by decide) ?_
      refine x_zret C E dX0_startDeal_16 rfl ?_
      first
        | (have hq : h_can P A k = false := by simp [h_can, hq8]
           exact ⟨by rw [hq]; rfl, by rw [hq]; rfl⟩)
        | (have hq : h_can P A k = false := by simp [h_can, hq8]; simpa [h_b] using c12
           exact ⟨by rw [hq]; rfl, by rw [hq]; rfl⟩)
        | fail
set_option maxHeartbeats 4000000 in
set_option maxRecDepth 100000 in
theorem c_X0_askParts {l : Launch} {Y0 : x_Y} (hO : x_Ok Y0) {M : x_M} {a p : Nat} {P : PL} {A : HS} {hx sk : Nat → Int32} {ht : Int32} {Q : HS} (hP : p_ok P) (hQ : q_is Q P) (hb : x_bk M a (hvT a p P A hx sk ht)) (hp : x_bk M p (plT p Q)) (hd : p + 21 ≤ a ∨ a + 20 ≤ p) (hk9 : h_ok P A) {k : Nat} (hk : k < p_nk P) : x_C l Y0 yX0_askParts cX0_askParts 6 none 4 0 0 [.ref a, .int (nI k)] M (fun u M1 => u = none ∧ M1 = x_ov M a (hvT a p P (h_it (h_ask P k) (p_np P k) A) hx sk ht)) := by
  refine x_start hO (by decide +kernel) (Nat.le_of_ble_eq_true rfl) (fun K C E => ?_)
  have hP0 := hP
  have hQ0 := hQ
  obtain ⟨h8, h6, h16, hnp, hwho, hvb, hts⟩ := hP
  obtain ⟨hq0, hq1, hq2, hq3, hq4, hq5, hq6⟩ := hQ
  have hpF : ∀ L : List x_E, L.length = 20 → x_bk (x_ov M a L) p (plT p Q) := fun L h => x_ov_far 20 hp h hd
  refine x_to (x_ov_self hb).symm ?_
  have hk1 := hnp k hk
  have lp : ∀ (w i : Nat) (x : Int32) (B : HS), i + w = p_np P k → x = nI i → B = h_it (h_ask P k) i (A) → h_ok P B → x_X K 6 0 0 2 [(0, .ref a), (1, .int (nI k)), (2, .int x)] [] (x_ov M a (hvT a p P B hx sk ht)) := by
    intro w
    induction w with
    | zero =>
      intro i x B hi hx hz hkB
      subst hx
      have e : i = p_np P k := by omega
      subst e
      refine x_iload_n C dX0_askParts_2 rfl rfl ?_
      refine x_aload_n C dX0_askParts_3 rfl rfl ?_
      refine x_getfield C dX0_askParts_4 fX0_48 (x_ovg 0 rfl) rfl ?_
      refine x_getfield C dX0_askParts_7 fX0_95 ((hpF _ rfl) 0 _ rfl) rfl ?_
      refine x_iload_n C dX0_askParts_10 rfl rfl ?_
      refine x_callV1 C dX0_askParts_11 kX0_78 (c_X4_get hO (by decide) (x_bk_sub (hpF _ rfl) 3 rfl)) ((hpF _ rfl) 3 _ rfl) rfl (by decide) ⟨Nat.zero_le _, Nat.zero_le _⟩ (Nat.le_of_ble_eq_true rfl) ?_
      rintro _ _ ⟨rfl, rfl⟩
      rw [rg_nI (show k < 6 by omega) (by decide), hq3 k (by omega)]
      refine x_icmp_ge (tgt := 112) C dX0_askParts_14 (by decide) (fun c14 => ?_) (fun c14 => absurd (nI_le (Nat.le_refl _) (by omega)) c14)
      refine x_vret C E dX0_askParts_112 ?_
      exact ⟨rfl, by rw [← hz]⟩
    | succ w ih =>
      intro i x B hi hx hz hkB
      subst hx
      have hk9 := hkB
      have hw := hwho k i hk (by omega)
      have hqs := hq4 k i hk (by omega)
      have hs36 : 6 * k + i < 36 := by omega
      have hB1 : h_ok P (h_ask P k B i) := h_ok_ask (by omega) (by omega) hkB
      refine x_iload_n C dX0_askParts_2 rfl rfl ?_
      refine x_aload_n C dX0_askParts_3 rfl rfl ?_
      refine x_getfield C dX0_askParts_4 fX0_48 (x_ovg 0 rfl) rfl ?_
      refine x_getfield C dX0_askParts_7 fX0_95 ((hpF _ rfl) 0 _ rfl) rfl ?_
      refine x_iload_n C dX0_askParts_10 rfl rfl ?_
      refine x_callV1 C dX0_askParts_11 kX0_78 (c_X4_get hO (by decide) (x_bk_sub (hpF _ rfl) 3 rfl)) ((hpF _ rfl) 3 _ rfl) rfl (by decide) ⟨Nat.zero_le _, Nat.zero_le _⟩ (Nat.le_of_ble_eq_true rfl) ?_
      rintro _ _ ⟨rfl, rfl⟩
      rw [rg_nI (show k < 6 by omega) (by decide), hq3 k (by omega)]
      refine x_icmp_ge (tgt := 112) C dX0_askParts_14 (by decide) (fun c14 => absurd c14 (nI_ge (by omega) (by omega))) (fun c14 => ?_)
      refine x_iload_n C dX0_askParts_17 rfl rfl ?_
      refine x_iload_n C dX0_askParts_18 rfl rfl ?_
      refine x_callS2 C dX0_askParts_19 kX0_98 (c_X8_slot hO) (by decide) ⟨Nat.zero_le _, Nat.zero_le _⟩ (Nat.le_of_ble_eq_true rfl) ?_
      rintro _ _ ⟨rfl, rfl⟩
      rw [slot_nI]
      refine x_istore_n C dX0_askParts_22 rfl rfl (by decide) ?_
      refine x_aload_n C dX0_askParts_23 rfl rfl ?_
      refine x_getfield C dX0_askParts_24 fX0_48 (x_ovg 0 rfl) rfl ?_
      refine x_getfield C dX0_askParts_27 fX0_106 ((hpF _ rfl) 0 _ rfl) rfl ?_
      refine x_iload_n C dX0_askParts_30 rfl rfl ?_
      refine x_callV1 C dX0_askParts_31 kX0_78 (c_X4_get hO (by decide) (x_bk_sub (hpF _ rfl) 5 rfl)) ((hpF _ rfl) 5 _ rfl) rfl (by decide) ⟨Nat.zero_le _, Nat.zero_le _⟩ (Nat.le_of_ble_eq_true rfl) ?_
      rintro _ _ ⟨rfl, rfl⟩
      rw [rg_nI (show 6 * k + i < 36 by omega) (by decide)]
      rw [hqs.1]
      refine x_istore C dX0_askParts_34 rfl (by decide) ?_
      refine x_aload_n C dX0_askParts_36 rfl rfl ?_
      refine x_getfield C dX0_askParts_37 fX0_42 (x_ovg 0 rfl) rfl ?_
      refine x_iload_n C dX0_askParts_40 rfl rfl ?_
      refine x_callV1 C dX0_askParts_41 kX0_78 (c_X4_get hO (by decide) (x_bk_sub x_ov_bk 16 rfl)) (x_ovg 16 rfl) rfl (by decide) ⟨Nat.zero_le _, Nat.zero_le _⟩ (Nat.le_of_ble_eq_true rfl) ?_
      rintro _ _ ⟨rfl, rfl⟩
      rw [rg_nI (show 6 * k + i < 36 by omega) (by decide)]
      refine x_if_ne (tgt := 106) C dX0_askParts_44 (by decide) (fun c44 => ?_) (fun c44 => ?_)
      · refine x_iinc (v := 1) C dX0_askParts_106 rfl (by decide) rfl (by decide) ?_
        refine x_goto (tgt := 2) C dX0_askParts_109 (by decide) ?_
        refine x_take 3 ?_
        first
          | (have e9 : h_ask P k B i = h_u (h_u (h_u B 6 (6 * k + i) 1) 2 (p_who P (6 * k + i)) (nI k)) 3 (p_who P (6 * k + i)) (B 3 (p_who P (6 * k + i)) + 1) := by unfold h_ask; rw [if_pos c44, if_pos hu, if_pos hg]
             exact ih (i + 1) _ (h_u (h_u (h_u B 6 (6 * k + i) 1) 2 (p_who P (6 * k + i)) (nI k)) 3 (p_who P (6 * k + i)) (B 3 (p_who P (6 * k + i)) + 1)) (by omega) (nI_1 i) (show h_u (h_u (h_u B 6 (6 * k + i) 1) 2 (p_who P (6 * k + i)) (nI k)) 3 (p_who P (6 * k + i)) (B 3 (p_who P (6 * k + i)) + 1) = _ by rw [← e9]; show _ = h_ask P k (h_it (h_ask P k) i A) i; rw [← hz]) (by rw [← e9]; exact hB1))
          | (have e9 : h_ask P k B i = h_u B 6 (6 * k + i) 2 := by unfold h_ask; rw [if_pos c44, if_pos hu, if_neg hg]
             exact ih (i + 1) _ (h_u B 6 (6 * k + i) 2) (by omega) (nI_1 i) (show h_u B 6 (6 * k + i) 2 = _ by rw [← e9]; show _ = h_ask P k (h_it (h_ask P k) i A) i; rw [← hz]) (by rw [← e9]; exact hB1))
          | (have e9 : h_ask P k B i = B := by unfold h_ask; first | rw [if_neg c44] | rw [if_pos c44, if_neg hu]
             exact ih (i + 1) _ B (by omega) (nI_1 i) (by show B = h_ask P k (h_it (h_ask P k) i A) i; rw [← hz, e9]) hkB)
          | fail
      · refine x_aload_n C dX0_askParts_47 rfl rfl ?_
        refine x_iload C dX0_askParts_48 rfl ?_
        refine x_callV1 C dX0_askParts_50 kX0_119 (c_X0_isUp hO hP0 hQ0 x_ov_bk (hpF _ rfl) (hk9.1 8) (by omega)) (x_ovg 0 rfl) rfl (by decide) ⟨Nat.zero_le _, Nat.zero_le _⟩ (Nat.le_of_ble_eq_true rfl) ?_
        rintro _ _ ⟨rfl, rfl⟩
        refine x_if_eq (tgt := 106) C dX0_askParts_53 (by decide) (fun c53 => ?_) (fun c53 => ?_)
        · have hu : ¬ B 1 (p_who P (6 * k + i)) = 0 := fun q => by unfold h_upI at c53; rw [if_pos q] at c53; exact absurd c53 (by decide)
          refine x_iinc (v := 1) C dX0_askParts_106 rfl (by decide) rfl (by decide) ?_
          refine x_goto (tgt := 2) C dX0_askParts_109 (by decide) ?_
          refine x_take 3 ?_
          first
            | (have e9 : h_ask P k B i = h_u (h_u (h_u B 6 (6 * k + i) 1) 2 (p_who P (6 * k + i)) (nI k)) 3 (p_who P (6 * k + i)) (B 3 (p_who P (6 * k + i)) + 1) := by unfold h_ask; rw [if_pos c44, if_pos hu, if_pos hg]
               exact ih (i + 1) _ (h_u (h_u (h_u B 6 (6 * k + i) 1) 2 (p_who P (6 * k + i)) (nI k)) 3 (p_who P (6 * k + i)) (B 3 (p_who P (6 * k + i)) + 1)) (by omega) (nI_1 i) (show h_u (h_u (h_u B 6 (6 * k + i) 1) 2 (p_who P (6 * k + i)) (nI k)) 3 (p_who P (6 * k + i)) (B 3 (p_who P (6 * k + i)) + 1) = _ by rw [← e9]; show _ = h_ask P k (h_it (h_ask P k) i A) i; rw [← hz]) (by rw [← e9]; exact hB1))
            | (have e9 : h_ask P k B i = h_u B 6 (6 * k + i) 2 := by unfold h_ask; rw [if_pos c44, if_pos hu, if_neg hg]
               exact ih (i + 1) _ (h_u B 6 (6 * k + i) 2) (by omega) (nI_1 i) (show h_u B 6 (6 * k + i) 2 = _ by rw [← e9]; show _ = h_ask P k (h_it (h_ask P k) i A) i; rw [← hz]) (by rw [← e9]; exact hB1))
            | (have e9 : h_ask P k B i = B := by unfold h_ask; first | rw [if_neg c44] | rw [if_pos c44, if_neg hu]
               exact ih (i + 1) _ B (by omega) (nI_1 i) (by show B = h_ask P k (h_it (h_ask P k) i A) i; rw [← hz, e9]) hkB)
            | fail
        · have hu : B 1 (p_who P (6 * k + i)) = 0 := by
            by_cases q : B 1 (p_who P (6 * k + i)) = 0
            · exact q
            · unfold h_upI at c53; rw [if_neg q] at c53; exact absurd rfl c53
          refine x_aload_n C dX0_askParts_56 rfl rfl ?_
          refine x_iload_n C dX0_askParts_57 rfl rfl ?_
          refine x_callV1 C dX0_askParts_58 kX0_102 (c_X0_canAgree hO hP0 hQ0 x_ov_bk (hpF _ rfl) hs36 hw hqs) (x_ovg 0 rfl) rfl (by decide) ⟨Nat.zero_le _, Nat.zero_le _⟩ (Nat.le_of_ble_eq_true rfl) ?_
          rintro _ _ ⟨rfl, rfl⟩
          refine x_istore C dX0_askParts_61 rfl (by decide) ?_
          refine x_aload_n C dX0_askParts_63 rfl rfl ?_
          refine x_getfield C dX0_askParts_64 fX0_42 (x_ovg 0 rfl) rfl ?_
          refine x_iload_n C dX0_askParts_67 rfl rfl ?_
          refine x_iload C dX0_askParts_68 rfl ?_
          refine x_if_eq (tgt := 77) C dX0_askParts_70 (by decide) (fun c70 => ?_) (fun c70 => ?_)
          · have hg : ¬ h_agr P B (6 * k + i) = true := fun q => by unfold h_b at c70; rw [if_pos q] at c70; exact absurd c70 (by decide)
            refine x_iconst (v := 2) C dX0_askParts_77 (by decide) ?_
            refine x_callV2 C dX0_askParts_78 kX0_115 (c_X4_set hO (by decide) (x_bk_sub x_ov_bk 16 rfl)) (x_ovg 16 rfl) rfl (by decide) ⟨Nat.zero_le _, Nat.zero_le _⟩ (Nat.le_of_ble_eq_true rfl) ?_
            rintro _ _ ⟨rfl, rfl⟩
            refine x_to (x_st_ov 17 (Nat.le_of_ble_eq_true rfl)) ?_
            rw [rs_nI hs36 (by decide)]
            refine x_iload C dX0_askParts_81 rfl ?_
            refine x_if_eq (tgt := 106) C dX0_askParts_83 (by decide) (fun c83 => ?_) (fun c83 => ?_)
            · refine x_iinc (v := 1) C dX0_askParts_106 rfl (by decide) rfl (by decide) ?_
              refine x_goto (tgt := 2) C dX0_askParts_109 (by decide) ?_
              refine x_take 3 ?_
              first
                | (have e9 : h_ask P k B i = h_u (h_u (h_u B 6 (6 * k + i) 1) 2 (p_who P (6 * k + i)) (nI k)) 3 (p_who P (6 * k + i)) (B 3 (p_who P (6 * k + i)) + 1) := by unfold h_ask; rw [if_pos c44, if_pos hu, if_pos hg]
                   exact ih (i + 1) _ (h_u (h_u (h_u B 6 (6 * k + i) 1) 2 (p_who P (6 * k + i)) (nI k)) 3 (p_who P (6 * k + i)) (B 3 (p_who P (6 * k + i)) + 1)) (by omega) (nI_1 i) (show h_u (h_u (h_u B 6 (6 * k + i) 1) 2 (p_who P (6 * k + i)) (nI k)) 3 (p_who P (6 * k + i)) (B 3 (p_who P (6 * k + i)) + 1) = _ by rw [← e9]; show _ = h_ask P k (h_it (h_ask P k) i A) i; rw [← hz]) (by rw [← e9]; exact hB1))
                | (have e9 : h_ask P k B i = h_u B 6 (6 * k + i) 2 := by unfold h_ask; rw [if_pos c44, if_pos hu, if_neg hg]
                   exact ih (i + 1) _ (h_u B 6 (6 * k + i) 2) (by omega) (nI_1 i) (show h_u B 6 (6 * k + i) 2 = _ by rw [← e9]; show _ = h_ask P k (h_it (h_ask P k) i A) i; rw [← hz]) (by rw [← e9]; exact hB1))
                | (have e9 : h_ask P k B i = B := by unfold h_ask; first | rw [if_neg c44] | rw [if_pos c44, if_neg hu]
                   exact ih (i + 1) _ B (by omega) (nI_1 i) (by show B = h_ask P k (h_it (h_ask P k) i A) i; rw [← hz, e9]) hkB)
                | fail
            · exact absurd (show h_b (h_agr P B (6 * k + i)) = 0 from c70) c83
          · have hg : h_agr P B (6 * k + i) = true := by
              by_cases q : h_agr P B (6 * k + i) = true
              · exact q
              · unfold h_b at c70; rw [if_neg q] at c70; exact absurd rfl c70
            refine x_iconst (v := 1) C dX0_askParts_73 (by decide) ?_
            refine x_goto (tgt := 78) C dX0_askParts_74 (by decide) ?_
            refine x_callV2 C dX0_askParts_78 kX0_115 (c_X4_set hO (by decide) (x_bk_sub x_ov_bk 16 rfl)) (x_ovg 16 rfl) rfl (by decide) ⟨Nat.zero_le _, Nat.zero_le _⟩ (Nat.le_of_ble_eq_true rfl) ?_
            rintro _ _ ⟨rfl, rfl⟩
            refine x_to (x_st_ov 17 (Nat.le_of_ble_eq_true rfl)) ?_
            rw [rs_nI hs36 (by decide)]
            refine x_iload C dX0_askParts_81 rfl ?_
            refine x_if_eq (tgt := 106) C dX0_askParts_83 (by decide) (fun c83 => ?_) (fun c83 => ?_)
            · exact absurd (show h_b (h_agr P B (6 * k + i)) = 0 from c83) c70
            · refine x_aload_n C dX0_askParts_86 rfl rfl ?_
              refine x_getfield C dX0_askParts_87 fX0_30 (x_ovg 0 rfl) rfl ?_
              refine x_iload C dX0_askParts_90 rfl ?_
              refine x_iload_n C dX0_askParts_92 rfl rfl ?_
              refine x_callV2 C dX0_askParts_93 kX0_115 (c_X4_set hO (by decide) (x_bk_sub x_ov_bk 8 rfl)) (x_ovg 8 rfl) rfl (by decide) ⟨Nat.zero_le _, Nat.zero_le _⟩ (Nat.le_of_ble_eq_true rfl) ?_
              rintro _ _ ⟨rfl, rfl⟩
              refine x_to (x_st_ov 9 (Nat.le_of_ble_eq_true rfl)) ?_
              rw [rs_nI (show p_who P (6 * k + i) < 8 by omega) (by decide)]
              refine x_aload_n C dX0_askParts_96 rfl rfl ?_
              refine x_getfield C dX0_askParts_97 fX0_33 (x_ovg 0 rfl) rfl ?_
              refine x_iload C dX0_askParts_100 rfl ?_
              refine x_iconst (v := 1) C dX0_askParts_102 (by decide) ?_
              refine x_callV2 C dX0_askParts_103 kX0_167 (c_X4_add hO (by decide) (x_bk_sub x_ov_bk 10 rfl)) (x_ovg 10 rfl) rfl (by decide) ⟨Nat.zero_le _, Nat.zero_le _⟩ (Nat.le_of_ble_eq_true rfl) ?_
              rintro _ _ ⟨rfl, rfl⟩
              refine x_to (x_st_ov 11 (Nat.le_of_ble_eq_true rfl)) ?_
              rw [rs_nI (show p_who P (6 * k + i) < 8 by omega) (by decide), rg_nI (show p_who P (6 * k + i) < 8 by omega) (by decide)]
              refine x_iinc (v := 1) C dX0_askParts_106 rfl (by decide) rfl (by decide) ?_
              refine x_goto (tgt := 2) C dX0_askParts_109 (by decide) ?_
              refine x_take 3 ?_
              first
                | (have e9 : h_ask P k B i = h_u (h_u (h_u B 6 (6 * k + i) 1) 2 (p_who P (6 * k + i)) (nI k)) 3 (p_who P (6 * k + i)) (B 3 (p_who P (6 * k + i)) + 1) := by unfold h_ask; rw [if_pos c44, if_pos hu, if_pos hg]
                   exact ih (i + 1) _ (h_u (h_u (h_u B 6 (6 * k + i) 1) 2 (p_who P (6 * k + i)) (nI k)) 3 (p_who P (6 * k + i)) (B 3 (p_who P (6 * k + i)) + 1)) (by omega) (nI_1 i) (show h_u (h_u (h_u B 6 (6 * k + i) 1) 2 (p_who P (6 * k + i)) (nI k)) 3 (p_who P (6 * k + i)) (B 3 (p_who P (6 * k + i)) + 1) = _ by rw [← e9]; show _ = h_ask P k (h_it (h_ask P k) i A) i; rw [← hz]) (by rw [← e9]; exact hB1))
                | (have e9 : h_ask P k B i = h_u B 6 (6 * k + i) 2 := by unfold h_ask; rw [if_pos c44, if_pos hu, if_neg hg]
                   exact ih (i + 1) _ (h_u B 6 (6 * k + i) 2) (by omega) (nI_1 i) (show h_u B 6 (6 * k + i) 2 = _ by rw [← e9]; show _ = h_ask P k (h_it (h_ask P k) i A) i; rw [← hz]) (by rw [← e9]; exact hB1))
                | (have e9 : h_ask P k B i = B := by unfold h_ask; first | rw [if_neg c44] | rw [if_pos c44, if_neg hu]
                   exact ih (i + 1) _ B (by omega) (nI_1 i) (by show B = h_ask P k (h_it (h_ask P k) i A) i; rw [← hz, e9]) hkB)
                | fail
  refine x_iconst (v := 0) C dX0_askParts_0 (by decide) ?_
  refine x_istore_n C dX0_askParts_1 rfl rfl (by decide) ?_
  refine x_take 3 ?_
  exact lp (p_np P k) 0 0 A (by omega) rfl rfl hk9
