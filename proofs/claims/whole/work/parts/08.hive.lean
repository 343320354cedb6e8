set_option maxHeartbeats 4000000 in
set_option maxRecDepth 100000 in
theorem c_X0_countBlocked {l : Launch} {Y0 : x_Y} (hO : x_Ok Y0) {M : x_M} {a p : Nat} {P : PL} {A : HS} {hx sk : Nat → Int32} {ht : Int32} {Q : HS} (hP : p_ok P) (hQ : q_is Q P) (hb : x_bk M a (hvT a p P A hx sk ht)) (hp : x_bk M p (plT p Q)) : x_C l Y0 yX0_countBlocked cX0_countBlocked 3 (some .int) 2 0 0 [.ref a] M (fun u M1 => u = some (.int (h_blocked P A)) ∧ M1 = M) := by
  refine x_start hO (by decide +kernel) (Nat.le_of_ble_eq_true rfl) (fun K C E => ?_)
  obtain ⟨h8, h6, h16, hnp, hwho, hvb, hts⟩ := hP
  obtain ⟨hq0, hq1, hq2, hq3, hq4, hq5, hq6⟩ := hQ
  have lp : ∀ (w i : Nat) (x : Int32) (z : Int32), i + w = p_nd P → x = nI i → z = h_cnt (fun d => A 2 d != -1) i → x_X K 3 0 0 4 [(0, .ref a), (1, .int z), (2, .int x)] [] M := by
    intro w
    induction w with
    | zero =>
      intro i x z hi hx hz
      subst hx
      have e : i = p_nd P := by omega
      subst e
      refine x_iload_n C dX0_countBlocked_4 rfl rfl ?_
      refine x_aload_n C dX0_countBlocked_5 rfl rfl ?_
      refine x_getfield C dX0_countBlocked_6 fX0_48 (hb 0 _ rfl) rfl ?_
      refine x_getfield C dX0_countBlocked_9 fX0_82 (hp 0 _ rfl) rfl ?_
      refine x_icmp_ge (tgt := 44) C dX0_countBlocked_12 (by decide) (fun c12 => ?_) (fun c12 => absurd (by rw [hq0]; exact nI_le (Nat.le_refl _) (by omega)) c12)
      refine x_iload_n C dX0_countBlocked_44 rfl rfl ?_
      refine x_iret C E dX0_countBlocked_45 ?_
      exact ⟨by rw [hz]; rfl, rfl⟩
    | succ w ih =>
      intro i x z hi hx hz
      subst hx
      refine x_iload_n C dX0_countBlocked_4 rfl rfl ?_
      refine x_aload_n C dX0_countBlocked_5 rfl rfl ?_
      refine x_getfield C dX0_countBlocked_6 fX0_48 (hb 0 _ rfl) rfl ?_
      refine x_getfield C dX0_countBlocked_9 fX0_82 (hp 0 _ rfl) rfl ?_
      refine x_icmp_ge (tgt := 44) C dX0_countBlocked_12 (by decide) (fun c12 => absurd c12 (by rw [hq0]; exact nI_ge (by omega) (by omega))) (fun c12 => ?_)
      refine x_iload_n C dX0_countBlocked_15 rfl rfl ?_
      refine x_aload_n C dX0_countBlocked_16 rfl rfl ?_
      refine x_getfield C dX0_countBlocked_17 fX0_30 (hb 0 _ rfl) rfl ?_
      refine x_iload_n C dX0_countBlocked_20 rfl rfl ?_
      refine x_callV1 C dX0_countBlocked_21 kX0_78 (c_X4_get hO (by decide) (x_bk_sub hb 8 rfl)) (hb 8 _ rfl) rfl (by decide) ⟨Nat.zero_le _, Nat.zero_le _⟩ (Nat.le_of_ble_eq_true rfl) ?_
      rintro _ _ ⟨rfl, rfl⟩
      rw [rg_nI (show i < 8 by omega) (by decide)]
      refine x_iconst (v := (-1)) C dX0_countBlocked_24 (by decide) ?_
      refine x_icmp_eq (tgt := 32) C dX0_countBlocked_25 (by decide) (fun c25 => ?_) (fun c25 => ?_)
      · refine x_iconst (v := 0) C dX0_countBlocked_32 (by decide) ?_
        refine x_callS1 C dX0_countBlocked_33 kX0_88 (c_X8_bit hO) (by decide) ⟨Nat.zero_le _, Nat.zero_le _⟩ (Nat.le_of_ble_eq_true rfl) ?_
        rintro _ _ ⟨rfl, rfl⟩
        refine x_iadd C dX0_countBlocked_36 ?_
        refine x_istore_n C dX0_countBlocked_37 rfl rfl (by decide) ?_
        refine x_iinc (v := 1) C dX0_countBlocked_38 rfl (by decide) rfl (by decide) ?_
        refine x_goto (tgt := 4) C dX0_countBlocked_41 (by decide) ?_
        exact ih (i + 1) _ _ (by omega) (nI_1 i) (by subst hz; simp [h_cnt, c25])
      · refine x_iconst (v := 1) C dX0_countBlocked_28 (by decide) ?_
        refine x_goto (tgt := 33) C dX0_countBlocked_29 (by decide) ?_
        refine x_callS1 C dX0_countBlocked_33 kX0_88 (c_X8_bit hO) (by decide) ⟨Nat.zero_le _, Nat.zero_le _⟩ (Nat.le_of_ble_eq_true rfl) ?_
        rintro _ _ ⟨rfl, rfl⟩
        refine x_iadd C dX0_countBlocked_36 ?_
        refine x_istore_n C dX0_countBlocked_37 rfl rfl (by decide) ?_
        refine x_iinc (v := 1) C dX0_countBlocked_38 rfl (by decide) rfl (by decide) ?_
        refine x_goto (tgt := 4) C dX0_countBlocked_41 (by decide) ?_
        exact ih (i + 1) _ _ (by omega) (nI_1 i) (by subst hz; simp [h_cnt, c25])
  refine x_iconst (v := 0) C dX0_countBlocked_0 (by decide) ?_
  refine x_istore_n C dX0_countBlocked_1 rfl rfl (by decide) ?_
  refine x_iconst (v := 0) C dX0_countBlocked_2 (by decide) ?_
  refine x_istore_n C dX0_countBlocked_3 rfl rfl (by decide) ?_
  exact lp (p_nd P) 0 0 0 (by omega) rfl rfl
set_option maxHeartbeats 4000000 in
set_option maxRecDepth 100000 in
theorem c_X0_countBegun {l : Launch} {Y0 : x_Y} (hO : x_Ok Y0) {M : x_M} {a p : Nat} {P : PL} {A : HS} {hx sk : Nat → Int32} {ht : Int32} {Q : HS} (hP : p_ok P) (hQ : q_is Q P) (hb : x_bk M a (hvT a p P A hx sk ht)) (hp : x_bk M p (plT p Q)) : x_C l Y0 yX0_countBegun cX0_countBegun 3 (some .int) 2 0 0 [.ref a] M (fun u M1 => u = some (.int (h_begun P A)) ∧ M1 = M) := by
  refine x_start hO (by decide +kernel) (Nat.le_of_ble_eq_true rfl) (fun K C E => ?_)
  obtain ⟨h8, h6, h16, hnp, hwho, hvb, hts⟩ := hP
  obtain ⟨hq0, hq1, hq2, hq3, hq4, hq5, hq6⟩ := hQ
  have lp : ∀ (w i : Nat) (x : Int32) (z : Int32), i + w = p_nk P → x = nI i → z = h_cnt (fun k => A 4 k == 1) i → x_X K 3 0 0 4 [(0, .ref a), (1, .int z), (2, .int x)] [] M := by
    intro w
    induction w with
    | zero =>
      intro i x z hi hx hz
      subst hx
      have e : i = p_nk P := by omega
      subst e
      refine x_iload_n C dX0_countBegun_4 rfl rfl ?_
      refine x_aload_n C dX0_countBegun_5 rfl rfl ?_
      refine x_getfield C dX0_countBegun_6 fX0_48 (hb 0 _ rfl) rfl ?_
      refine x_getfield C dX0_countBegun_9 fX0_92 (hp 0 _ rfl) rfl ?_
      refine x_icmp_ge (tgt := 44) C dX0_countBegun_12 (by decide) (fun c12 => ?_) (fun c12 => absurd (by rw [hq1]; exact nI_le (Nat.le_refl _) (by omega)) c12)
      refine x_iload_n C dX0_countBegun_44 rfl rfl ?_
      refine x_iret C E dX0_countBegun_45 ?_
      exact ⟨by rw [hz]; rfl, rfl⟩
    | succ w ih =>
      intro i x z hi hx hz
      subst hx
      refine x_iload_n C dX0_countBegun_4 rfl rfl ?_
      refine x_aload_n C dX0_countBegun_5 rfl rfl ?_
      refine x_getfield C dX0_countBegun_6 fX0_48 (hb 0 _ rfl) rfl ?_
      refine x_getfield C dX0_countBegun_9 fX0_92 (hp 0 _ rfl) rfl ?_
      refine x_icmp_ge (tgt := 44) C dX0_countBegun_12 (by decide) (fun c12 => absurd c12 (by rw [hq1]; exact nI_ge (by omega) (by omega))) (fun c12 => ?_)
      refine x_iload_n C dX0_countBegun_15 rfl rfl ?_
      refine x_aload_n C dX0_countBegun_16 rfl rfl ?_
      refine x_getfield C dX0_countBegun_17 fX0_36 (hb 0 _ rfl) rfl ?_
      refine x_iload_n C dX0_countBegun_20 rfl rfl ?_
      refine x_callV1 C dX0_countBegun_21 kX0_78 (c_X4_get hO (by decide) (x_bk_sub hb 12 rfl)) (hb 12 _ rfl) rfl (by decide) ⟨Nat.zero_le _, Nat.zero_le _⟩ (Nat.le_of_ble_eq_true rfl) ?_
      rintro _ _ ⟨rfl, rfl⟩
      rw [rg_nI (show i < 6 by omega) (by decide)]
      refine x_iconst (v := 1) C dX0_countBegun_24 (by decide) ?_
      refine x_icmp_ne (tgt := 32) C dX0_countBegun_25 (by decide) (fun c25 => ?_) (fun c25 => ?_)
      · refine x_iconst (v := 0) C dX0_countBegun_32 (by decide) ?_
        refine x_callS1 C dX0_countBegun_33 kX0_88 (c_X8_bit hO) (by decide) ⟨Nat.zero_le _, Nat.zero_le _⟩ (Nat.le_of_ble_eq_true rfl) ?_
        rintro _ _ ⟨rfl, rfl⟩
        refine x_iadd C dX0_countBegun_36 ?_
        refine x_istore_n C dX0_countBegun_37 rfl rfl (by decide) ?_
        refine x_iinc (v := 1) C dX0_countBegun_38 rfl (by decide) rfl (by decide) ?_
        refine x_goto (tgt := 4) C dX0_countBegun_41 (by decide) ?_
        exact ih (i + 1) _ _ (by omega) (nI_1 i) (by subst hz; simp [h_cnt, c25])
      · refine x_iconst (v := 1) C dX0_countBegun_28 (by decide) ?_
        refine x_goto (tgt := 33) C dX0_countBegun_29 (by decide) ?_
        refine x_callS1 C dX0_countBegun_33 kX0_88 (c_X8_bit hO) (by decide) ⟨Nat.zero_le _, Nat.zero_le _⟩ (Nat.le_of_ble_eq_true rfl) ?_
        rintro _ _ ⟨rfl, rfl⟩
        refine x_iadd C dX0_countBegun_36 ?_
        refine x_istore_n C dX0_countBegun_37 rfl rfl (by decide) ?_
        refine x_iinc (v := 1) C dX0_countBegun_38 rfl (by decide) rfl (by decide) ?_
        refine x_goto (tgt := 4) C dX0_countBegun_41 (by decide) ?_
        exact ih (i + 1) _ _ (by omega) (nI_1 i) (by subst hz; simp [h_cnt, c25])
  refine x_iconst (v := 0) C dX0_countBegun_0 (by decide) ?_
  refine x_istore_n C dX0_countBegun_1 rfl rfl (by decide) ?_
  refine x_iconst (v := 0) C dX0_countBegun_2 (by decide) ?_
  refine x_istore_n C dX0_countBegun_3 rfl rfl (by decide) ?_
  exact lp (p_nk P) 0 0 0 (by omega) rfl rfl
set_option maxHeartbeats 4000000 in
set_option maxRecDepth 100000 in
theorem c_X0_countVotes {l : Launch} {Y0 : x_Y} (hO : x_Ok Y0) {M : x_M} {a p : Nat} {P : PL} {A : HS} {hx sk : Nat → Int32} {ht : Int32} {Q : HS} (hP : p_ok P) (hQ : q_is Q P) (hb : x_bk M a (hvT a p P A hx sk ht)) (hp : x_bk M p (plT p Q)) {k : Nat} {v : Int32} (hk : k < p_nk P) : x_C l Y0 yX0_countVotes cX0_countVotes 5 (some .int) 2 0 0 [.ref a, .int (nI k), .int v] M (fun u M1 => u = some (.int (h_votes P A k v)) ∧ M1 = M) := by
  refine x_start hO (by decide +kernel) (Nat.le_of_ble_eq_true rfl) (fun K C E => ?_)
  obtain ⟨h8, h6, h16, hnp, hwho, hvb, hts⟩ := hP
  obtain ⟨hq0, hq1, hq2, hq3, hq4, hq5, hq6⟩ := hQ
  have hk1 := hnp k hk
  have lp : ∀ (w i : Nat) (x : Int32) (z : Int32), i + w = p_np P k → x = nI i → z = h_cnt (fun j => A 6 (6 * k + j) == v) i → x_X K 5 0 0 5 [(0, .ref a), (1, .int (nI k)), (2, .int v), (3, .int z), (4, .int x)] [] M := by
    intro w
    induction w with
    | zero =>
      intro i x z hi hx hz
      subst hx
      have e : i = p_np P k := by omega
      subst e
      refine x_iload C dX0_countVotes_5 rfl ?_
      refine x_aload_n C dX0_countVotes_7 rfl rfl ?_
      refine x_getfield C dX0_countVotes_8 fX0_48 (hb 0 _ rfl) rfl ?_
      refine x_getfield C dX0_countVotes_11 fX0_95 (hp 0 _ rfl) rfl ?_
      refine x_iload_n C dX0_countVotes_14 rfl rfl ?_
      refine x_callV1 C dX0_countVotes_15 kX0_78 (c_X4_get hO (by decide) (x_bk_sub hp 3 rfl)) (hp 3 _ rfl) rfl (by decide) ⟨Nat.zero_le _, Nat.zero_le _⟩ (Nat.le_of_ble_eq_true rfl) ?_
      rintro _ _ ⟨rfl, rfl⟩
      rw [rg_nI (show k < 6 by omega) (by decide), hq3 k (by omega)]
      refine x_icmp_ge (tgt := 55) C dX0_countVotes_18 (by decide) (fun c18 => ?_) (fun c18 => absurd (nI_le (Nat.le_refl _) (by omega)) c18)
      refine x_iload_n C dX0_countVotes_55 rfl rfl ?_
      refine x_iret C E dX0_countVotes_56 ?_
      exact ⟨by rw [hz]; rfl, rfl⟩
    | succ w ih =>
      intro i x z hi hx hz
      subst hx
      refine x_iload C dX0_countVotes_5 rfl ?_
      refine x_aload_n C dX0_countVotes_7 rfl rfl ?_
      refine x_getfield C dX0_countVotes_8 fX0_48 (hb 0 _ rfl) rfl ?_
      refine x_getfield C dX0_countVotes_11 fX0_95 (hp 0 _ rfl) rfl ?_
      refine x_iload_n C dX0_countVotes_14 rfl rfl ?_
      refine x_callV1 C dX0_countVotes_15 kX0_78 (c_X4_get hO (by decide) (x_bk_sub hp 3 rfl)) (hp 3 _ rfl) rfl (by decide) ⟨Nat.zero_le _, Nat.zero_le _⟩ (Nat.le_of_ble_eq_true rfl) ?_
      rintro _ _ ⟨rfl, rfl⟩
      rw [rg_nI (show k < 6 by omega) (by decide), hq3 k (by omega)]
      refine x_icmp_ge (tgt := 55) C dX0_countVotes_18 (by decide) (fun c18 => absurd c18 (nI_ge (by omega) (by omega))) (fun c18 => ?_)
      refine x_iload_n C dX0_countVotes_21 rfl rfl ?_
      refine x_aload_n C dX0_countVotes_22 rfl rfl ?_
      refine x_getfield C dX0_countVotes_23 fX0_42 (hb 0 _ rfl) rfl ?_
      refine x_iload_n C dX0_countVotes_26 rfl rfl ?_
      refine x_iload C dX0_countVotes_27 rfl ?_
      refine x_callS2 C dX0_countVotes_29 kX0_98 (c_X8_slot hO) (by decide) ⟨Nat.zero_le _, Nat.zero_le _⟩ (Nat.le_of_ble_eq_true rfl) ?_
      rintro _ _ ⟨rfl, rfl⟩
      rw [slot_nI]
      refine x_callV1 C dX0_countVotes_32 kX0_78 (c_X4_get hO (by decide) (x_bk_sub hb 16 rfl)) (hb 16 _ rfl) rfl (by decide) ⟨Nat.zero_le _, Nat.zero_le _⟩ (Nat.le_of_ble_eq_true rfl) ?_
      rintro _ _ ⟨rfl, rfl⟩
      rw [rg_nI (show 6 * k + i < 36 by omega) (by decide)]
      refine x_iload_n C dX0_countVotes_35 rfl rfl ?_
      refine x_icmp_ne (tgt := 43) C dX0_countVotes_36 (by decide) (fun c36 => ?_) (fun c36 => ?_)
      · refine x_iconst (v := 0) C dX0_countVotes_43 (by decide) ?_
        refine x_callS1 C dX0_countVotes_44 kX0_88 (c_X8_bit hO) (by decide) ⟨Nat.zero_le _, Nat.zero_le _⟩ (Nat.le_of_ble_eq_true rfl) ?_
        rintro _ _ ⟨rfl, rfl⟩
        refine x_iadd C dX0_countVotes_47 ?_
        refine x_istore_n C dX0_countVotes_48 rfl rfl (by decide) ?_
        refine x_iinc (v := 1) C dX0_countVotes_49 rfl (by decide) rfl (by decide) ?_
        refine x_goto (tgt := 5) C dX0_countVotes_52 (by decide) ?_
        exact ih (i + 1) _ _ (by omega) (nI_1 i) (by subst hz; simp [h_cnt, c36])
      · refine x_iconst (v := 1) C dX0_countVotes_39 (by decide) ?_
        refine x_goto (tgt := 44) C dX0_countVotes_40 (by decide) ?_
        refine x_callS1 C dX0_countVotes_44 kX0_88 (c_X8_bit hO) (by decide) ⟨Nat.zero_le _, Nat.zero_le _⟩ (Nat.le_of_ble_eq_true rfl) ?_
        rintro _ _ ⟨rfl, rfl⟩
        refine x_iadd C dX0_countVotes_47 ?_
        refine x_istore_n C dX0_countVotes_48 rfl rfl (by decide) ?_
        refine x_iinc (v := 1) C dX0_countVotes_49 rfl (by decide) rfl (by decide) ?_
        refine x_goto (tgt := 5) C dX0_countVotes_52 (by decide) ?_
        exact ih (i + 1) _ _ (by omega) (nI_1 i) (by subst hz; simp [h_cnt, c36])
  refine x_iconst (v := 0) C dX0_countVotes_0 (by decide) ?_
  refine x_istore_n C dX0_countVotes_1 rfl rfl (by decide) ?_
  refine x_iconst (v := 0) C dX0_countVotes_2 (by decide) ?_
  refine x_istore C dX0_countVotes_3 rfl (by decide) ?_
  exact lp (p_np P k) 0 0 0 (by omega) rfl rfl
set_option maxHeartbeats 4000000 in
set_option maxRecDepth 100000 in
theorem c_X0_daysWaited {l : Launch} {Y0 : x_Y} (hO : x_Ok Y0) {M : x_M} {a p : Nat} {P : PL} {A : HS} {hx sk : Nat → Int32} {ht : Int32} {Q : HS} (hP : p_ok P) (hQ : q_is Q P) (hb : x_bk M a (hvT a p P A hx sk ht)) (hp : x_bk M p (plT p Q)) {k : Nat} (hk : k < p_nk P) : x_C l Y0 yX0_daysWaited cX0_daysWaited 2 (some .int) 2 0 0 [.ref a, .int (nI k)] M (fun u M1 => u = some (.int (h_waits A k)) ∧ M1 = M) := by
  refine x_start hO (by decide +kernel) (Nat.le_of_ble_eq_true rfl) (fun K C E => ?_)
  obtain ⟨h8, h6, h16, hnp, hwho, hvb, hts⟩ := hP
  obtain ⟨hq0, hq1, hq2, hq3, hq4, hq5, hq6⟩ := hQ
  refine x_aload_n C dX0_daysWaited_0 rfl rfl ?_
  refine x_getfield C dX0_daysWaited_1 fX0_36 (hb 0 _ rfl) rfl ?_
  refine x_iload_n C dX0_daysWaited_4 rfl rfl ?_
  refine x_callV1 C dX0_daysWaited_5 kX0_78 (c_X4_get hO (by decide) (x_bk_sub hb 12 rfl)) (hb 12 _ rfl) rfl (by decide) ⟨Nat.zero_le _, Nat.zero_le _⟩ (Nat.le_of_ble_eq_true rfl) ?_
  rintro _ _ ⟨rfl, rfl⟩
  rw [rg_nI (show k < 6 by omega) (by decide)]
  refine x_iconst (v := 1) C dX0_daysWaited_8 (by decide) ?_
  refine x_icmp_ne (tgt := 28) C dX0_daysWaited_9 (by decide) (fun c9 => ?_) (fun c9 => ?_)
  · refine x_iconst (v := 0) C dX0_daysWaited_28 (by decide) ?_
    refine x_iret C E dX0_daysWaited_29 ?_
    exact ⟨by unfold h_waits; first | rw [if_pos c9] | rw [if_neg c9] | fail, rfl⟩
  · refine x_aload_n C dX0_daysWaited_12 rfl rfl ?_
    refine x_getfield C dX0_daysWaited_13 fX0_67 (hb 0 _ rfl) rfl ?_
    refine x_aload_n C dX0_daysWaited_16 rfl rfl ?_
    refine x_getfield C dX0_daysWaited_17 fX0_39 (hb 0 _ rfl) rfl ?_
    refine x_iload_n C dX0_daysWaited_20 rfl rfl ?_
    refine x_callV1 C dX0_daysWaited_21 kX0_78 (c_X4_get hO (by decide) (x_bk_sub hb 14 rfl)) (hb 14 _ rfl) rfl (by decide) ⟨Nat.zero_le _, Nat.zero_le _⟩ (Nat.le_of_ble_eq_true rfl) ?_
    rintro _ _ ⟨rfl, rfl⟩
    rw [rg_nI (show k < 6 by omega) (by decide)]
    refine x_isub C dX0_daysWaited_24 ?_
    refine x_goto (tgt := 29) C dX0_daysWaited_25 (by decide) ?_
    refine x_iret C E dX0_daysWaited_29 ?_
    exact ⟨by unfold h_waits; first | rw [if_pos c9] | rw [if_neg c9] | fail, rfl⟩
def h_upI (A : HS) (d : Nat) : Int32 := if A 1 d = 0 then 1 else 0
set_option maxHeartbeats 4000000 in
set_option maxRecDepth 100000 in
theorem c_X0_isUp {l : Launch} {Y0 : x_Y} (hO : x_Ok Y0) {M : x_M} {a p : Nat} {P : PL} {A : HS} {hx sk : Nat → Int32} {ht : Int32} {Q : HS} (hP : p_ok P) (hQ : q_is Q P) (hb : x_bk M a (hvT a p P A hx sk ht)) (hp : x_bk M p (plT p Q)) (hbq : A 1 8 = 0 ∨ A 1 8 = 1) {d : Nat} (hdr : d ≤ 8) : x_C l Y0 yX0_isUp cX0_isUp 2 (some .boolean) 2 0 0 [.ref a, .int (nI d)] M (fun u M1 => u = some (.int (h_upI A d)) ∧ M1 = M) := by
  refine x_start hO (by decide +kernel) (Nat.le_of_ble_eq_true rfl) (fun K C E => ?_)
  refine x_iload_n C dX0_isUp_0 rfl rfl ?_
  refine x_bipush (v := 8) C dX0_isUp_1 (by decide) ?_
  refine x_icmp_ne (tgt := 13) C dX0_isUp_3 (by decide) (fun c3 => ?_) (fun c3 => ?_)
  · have hd8 : d < 8 := by
      rcases Nat.lt_or_ge d 8 with q | q
      · exact q
      · exact absurd (show nI d = 8 by rw [show d = 8 by omega]; rfl) c3
    refine x_aload_n C dX0_isUp_13 rfl rfl ?_
    refine x_getfield C dX0_isUp_14 fX0_27 (hb 0 _ rfl) rfl ?_
    refine x_iload_n C dX0_isUp_17 rfl rfl ?_
    refine x_callV1 C dX0_isUp_18 kX0_78 (c_X4_get hO (by decide) (x_bk_sub hb 6 rfl)) (hb 6 _ rfl) rfl (by decide) ⟨Nat.zero_le _, Nat.zero_le _⟩ (Nat.le_of_ble_eq_true rfl) ?_
    rintro _ _ ⟨rfl, rfl⟩
    rw [rg_nI (show d < 8 by omega) (by decide)]
    refine x_if_ne (tgt := 28) C dX0_isUp_21 (by decide) (fun c21 => ?_) (fun c21 => ?_)
    · refine x_iconst (v := 0) C dX0_isUp_28 (by decide) ?_
      refine x_zret C E dX0_isUp_29 ?_ ?_
      · first | rfl | (rcases hbq with q | q <;> rw [q] <;> rfl) | fail
      · exact ⟨by unfold h_upI; first | rw [if_pos c21] | rw [if_neg c21] | (rcases hbq with q | q <;> rw [q] <;> rfl) | fail, rfl⟩
    · refine x_iconst (v := 1) C dX0_isUp_24 (by decide) ?_
      refine x_goto (tgt := 29) C dX0_isUp_25 (by decide) ?_
      refine x_zret C E dX0_isUp_29 ?_ ?_
      · first | rfl | (rcases hbq with q | q <;> rw [q] <;> rfl) | fail
      · exact ⟨by unfold h_upI; first | rw [if_pos c21] | rw [if_neg c21] | (rcases hbq with q | q <;> rw [q] <;> rfl) | fail, rfl⟩
  · have hd8 : d = 8 := (nI_eq (by omega) (by omega)).mp (show nI d = nI 8 from c3)
    subst hd8
    refine x_aload_n C dX0_isUp_6 rfl rfl ?_
    refine x_getfield C dX0_isUp_7 fX0_74 (hb 0 _ rfl) rfl ?_
    refine x_goto (tgt := 29) C dX0_isUp_10 (by decide) ?_
    refine x_zret C E dX0_isUp_29 ?_ ?_
    · first | rfl | (rcases hbq with q | q <;> rw [q] <;> rfl) | fail
    · exact ⟨by unfold h_upI; first | rw [if_pos c21] | rw [if_neg c21] | (rcases hbq with q | q <;> rw [q] <;> rfl) | fail, rfl⟩
set_option maxHeartbeats 4000000 in
set_option maxRecDepth 100000 in
theorem c_X0_canAgree {l : Launch} {Y0 : x_Y} (hO : x_Ok Y0) {M : x_M} {a p : Nat} {P : PL} {A : HS} {hx sk : Nat → Int32} {ht : Int32} {Q : HS} (hP : p_ok P) (hQ : q_is Q P) (hb : x_bk M a (hvT a p P A hx sk ht)) (hp : x_bk M p (plT p Q)) {s : Nat} (hs : s < 36) (hw : p_who P s < p_nd P) (hqs : Q 2 s = nI (p_who P s) ∧ Q 3 s = p_mv P s) : x_C l Y0 yX0_canAgree cX0_canAgree 4 (some .boolean) 2 0 0 [.ref a, .int (nI s)] M (fun u M1 => u = some (.int (h_b (h_agr P A s))) ∧ M1 = M) := by
  refine x_start hO (by decide +kernel) (Nat.le_of_ble_eq_true rfl) (fun K C E => ?_)
  obtain ⟨h8, h6, h16, hnp, hwho, hvb, hts⟩ := hP
  obtain ⟨hq0, hq1, hq2, hq3, hq4, hq5, hq6⟩ := hQ
  refine x_aload_n C dX0_canAgree_0 rfl rfl ?_
  refine x_getfield C dX0_canAgree_1 fX0_48 (hb 0 _ rfl) rfl ?_
  refine x_getfield C dX0_canAgree_4 fX0_106 (hp 0 _ rfl) rfl ?_
  refine x_iload_n C dX0_canAgree_7 rfl rfl ?_
  refine x_callV1 C dX0_canAgree_8 kX0_78 (c_X4_get hO (by decide) (x_bk_sub hp 5 rfl)) (hp 5 _ rfl) rfl (by decide) ⟨Nat.zero_le _, Nat.zero_le _⟩ (Nat.le_of_ble_eq_true rfl) ?_
  rintro _ _ ⟨rfl, rfl⟩
  rw [rg_nI (show s < 36 by omega) (by decide)]; rw [hqs.1]
  refine x_istore_n C dX0_canAgree_11 rfl rfl (by decide) ?_
  refine x_aload_n C dX0_canAgree_12 rfl rfl ?_
  refine x_getfield C dX0_canAgree_13 fX0_23 (hb 0 _ rfl) rfl ?_
  refine x_iload_n C dX0_canAgree_16 rfl rfl ?_
  refine x_callV1 C dX0_canAgree_17 kX0_78 (c_X4_get hO (by decide) (x_bk_sub hb 4 rfl)) (hb 4 _ rfl) rfl (by decide) ⟨Nat.zero_le _, Nat.zero_le _⟩ (Nat.le_of_ble_eq_true rfl) ?_
  rintro _ _ ⟨rfl, rfl⟩
  rw [rg_nI (show p_who P s < 8 by omega) (by decide)]; rw [s_fill_in hw]
  refine x_aload_n C dX0_canAgree_20 rfl rfl ?_
  refine x_getfield C dX0_canAgree_21 fX0_48 (hb 0 _ rfl) rfl ?_
  refine x_getfield C dX0_canAgree_24 fX0_109 (hp 0 _ rfl) rfl ?_
  refine x_iload_n C dX0_canAgree_27 rfl rfl ?_
  refine x_callV1 C dX0_canAgree_28 kX0_78 (c_X4_get hO (by decide) (x_bk_sub hp 7 rfl)) (hp 7 _ rfl) rfl (by decide) ⟨Nat.zero_le _, Nat.zero_le _⟩ (Nat.le_of_ble_eq_true rfl) ?_
  rintro _ _ ⟨rfl, rfl⟩
  rw [rg_nI (show s < 36 by omega) (by decide)]; rw [hqs.2]
  refine x_iadd C dX0_canAgree_31 ?_
  refine x_istore_n C dX0_canAgree_32 rfl rfl (by decide) ?_
  refine x_aload_n C dX0_canAgree_33 rfl rfl ?_
  refine x_getfield C dX0_canAgree_34 fX0_30 (hb 0 _ rfl) rfl ?_
  refine x_iload_n C dX0_canAgree_37 rfl rfl ?_
  refine x_callV1 C dX0_canAgree_38 kX0_78 (c_X4_get hO (by decide) (x_bk_sub hb 8 rfl)) (hb 8 _ rfl) rfl (by decide) ⟨Nat.zero_le _, Nat.zero_le _⟩ (Nat.le_of_ble_eq_true rfl) ?_
  rintro _ _ ⟨rfl, rfl⟩
  rw [rg_nI (show p_who P s < 8 by omega) (by decide)]
  refine x_iconst (v := (-1)) C dX0_canAgree_41 (by decide) ?_
  refine x_icmp_ne (tgt := 59) C dX0_canAgree_42 (by decide) (fun c42 => ?_) (fun c42 => ?_)
  · refine x_iconst (v := 0) C dX0_canAgree_59 (by decide) ?_
    refine x_zret C E dX0_canAgree_60 rfl ?_
    exact ⟨by first | (simp [h_b, h_agr, c42, c46, c52]; done) | (simp [h_b, h_agr, c42, c46]; done) | (simp [h_b, h_agr, c42]; done) | fail, rfl⟩
  · refine x_iload_n C dX0_canAgree_45 rfl rfl ?_
    refine x_if_lt (tgt := 59) C dX0_canAgree_46 (by decide) (fun c46 => ?_) (fun c46 => ?_)
    · refine x_iconst (v := 0) C dX0_canAgree_59 (by decide) ?_
      refine x_zret C E dX0_canAgree_60 rfl ?_
      exact ⟨by first | (simp [h_b, h_agr, c42, c46, c52]; done) | (simp [h_b, h_agr, c42, c46]; done) | (simp [h_b, h_agr, c42]; done) | fail, rfl⟩
    · refine x_iload_n C dX0_canAgree_49 rfl rfl ?_
      refine x_bipush (v := 99) C dX0_canAgree_50 (by decide) ?_
      refine x_icmp_gt (tgt := 59) C dX0_canAgree_52 (by decide) (fun c52 => ?_) (fun c52 => ?_)
      · refine x_iconst (v := 0) C dX0_canAgree_59 (by decide) ?_
        refine x_zret C E dX0_canAgree_60 rfl ?_
        exact ⟨by first | (simp [h_b, h_agr, c42, c46, c52]; done) | (simp [h_b, h_agr, c42, c46]; done) | (simp [h_b, h_agr, c42]; done) | fail, rfl⟩
      · refine x_iconst (v := 1) C dX0_canAgree_55 (by decide) ?_
        refine x_goto (tgt := 60) C dX0_canAgree_56 (by decide) ?_
        refine x_zret C E dX0_canAgree_60 rfl ?_
        exact ⟨by first | (simp [h_b, h_agr, c42, c46, c52]; done) | (simp [h_b, h_agr, c42, c46]; done) | (simp [h_b, h_agr, c42]; done) | fail, rfl⟩
set_option maxHeartbeats 4000000 in
set_option maxRecDepth 100000 in
theorem c_X0_allCanAgree {l : Launch} {Y0 : x_Y} (hO : x_Ok Y0) {M : x_M} {a p : Nat} {P : PL} {A : HS} {hx sk : Nat → Int32} {ht : Int32} {Q : HS} (hP : p_ok P) (hQ : q_is Q P) (hb : x_bk M a (hvT a p P A hx sk ht)) (hp : x_bk M p (plT p Q)) {k : Nat} (hk : k < p_nk P) : x_C l Y0 yX0_allCanAgree cX0_allCanAgree 3 (some .boolean) 3 0 0 [.ref a, .int (nI k)] M (fun u M1 => u = some (.int (h_b (h_agrAll P A k))) ∧ M1 = M) := by
  refine x_start hO (by decide +kernel) (Nat.le_of_ble_eq_true rfl) (fun K C E => ?_)
  have hP0 := hP
  have hQ0 := hQ
  obtain ⟨h8, h6, h16, hnp, hwho, hvb, hts⟩ := hP
  obtain ⟨hq0, hq1, hq2, hq3, hq4, hq5, hq6⟩ := hQ
  have hk1 := hnp k hk
  have lp : ∀ (w i : Nat) (x : Int32), i + w = p_np P k → x = nI i → h_all (fun j => h_agr P A (6 * k + j)) i = true → x_X K 3 0 0 2 [(0, .ref a), (1, .int (nI k)), (2, .int x)] [] M := by
    intro w
    induction w with
    | zero =>
      intro i x hi hx hz
      subst hx
      have e : i = p_np P k := by omega
      subst e
      refine x_iload_n C dX0_allCanAgree_2 rfl rfl ?_
      refine x_aload_n C dX0_allCanAgree_3 rfl rfl ?_
      refine x_getfield C dX0_allCanAgree_4 fX0_48 (hb 0 _ rfl) rfl ?_
      refine x_getfield C dX0_allCanAgree_7 fX0_95 (hp 0 _ rfl) rfl ?_
      refine x_iload_n C dX0_allCanAgree_10 rfl rfl ?_
      refine x_callV1 C dX0_allCanAgree_11 kX0_78 (c_X4_get hO (by decide) (x_bk_sub hp 3 rfl)) (hp 3 _ rfl) rfl (by decide) ⟨Nat.zero_le _, Nat.zero_le _⟩ (Nat.le_of_ble_eq_true rfl) ?_
      rintro _ _ ⟨rfl, rfl⟩
      rw [rg_nI (show k < 6 by omega) (by decide), hq3 k (by omega)]
      refine x_icmp_ge (tgt := 37) C dX0_allCanAgree_14 (by decide) (fun c14 => ?_) (fun c14 => absurd (nI_le (Nat.le_refl _) (by omega)) c14)
      refine x_iconst (v := 1) C dX0_allCanAgree_37 (by decide) ?_
      refine x_zret C E dX0_allCanAgree_38 rfl ?_
      refine ⟨?_, rfl⟩
      unfold h_agrAll
      rw [hz]
      rfl
    | succ w ih =>
      intro i x hi hx hz
      subst hx
      have hw := hwho k i hk (by omega)
      have hqs := hq4 k i hk (by omega)
      refine x_iload_n C dX0_allCanAgree_2 rfl rfl ?_
      refine x_aload_n C dX0_allCanAgree_3 rfl rfl ?_
      refine x_getfield C dX0_allCanAgree_4 fX0_48 (hb 0 _ rfl) rfl ?_
      refine x_getfield C dX0_allCanAgree_7 fX0_95 (hp 0 _ rfl) rfl ?_
      refine x_iload_n C dX0_allCanAgree_10 rfl rfl ?_
      refine x_callV1 C dX0_allCanAgree_11 kX0_78 (c_X4_get hO (by decide) (x_bk_sub hp 3 rfl)) (hp 3 _ rfl) rfl (by decide) ⟨Nat.zero_le _, Nat.zero_le _⟩ (Nat.le_of_ble_eq_true rfl) ?_
      rintro _ _ ⟨rfl, rfl⟩
      rw [rg_nI (show k < 6 by omega) (by decide), hq3 k (by omega)]
      refine x_icmp_ge (tgt := 37) C dX0_allCanAgree_14 (by decide) (fun c14 => absurd c14 (nI_ge (by omega) (by omega))) (fun c14 => ?_)
      refine x_aload_n C dX0_allCanAgree_17 rfl rfl ?_
      refine x_iload_n C dX0_allCanAgree_18 rfl rfl ?_
      refine x_iload_n C dX0_allCanAgree_19 rfl rfl ?_
      refine x_callS2 C dX0_allCanAgree_20 kX0_98 (c_X8_slot hO) (by decide) ⟨Nat.zero_le _, Nat.zero_le _⟩ (Nat.le_of_ble_eq_true rfl) ?_
      rintro _ _ ⟨rfl, rfl⟩
      rw [slot_nI]
      refine x_callV1 C dX0_allCanAgree_23 kX0_102 (c_X0_canAgree hO hP0 hQ0 hb hp (show 6 * k + i < 36 by omega) hw hqs) (hb 0 _ rfl) rfl (by decide) ⟨Nat.zero_le _, Nat.zero_le _⟩ (Nat.le_of_ble_eq_true rfl) ?_
      rintro _ _ ⟨rfl, rfl⟩
      refine x_if_ne (tgt := 31) C dX0_allCanAgree_26 (by decide) (fun c26 => ?_) (fun c26 => ?_)
      · refine x_iinc (v := 1) C dX0_allCanAgree_31 rfl (by decide) rfl (by decide) ?_
        refine x_goto (tgt := 2) C dX0_allCanAgree_34 (by decide) ?_
        exact ih (i + 1) _ (by omega) (nI_1 i) (by unfold h_all; rw [hz]; simpa [h_b] using c26)
      · refine x_iconst (v := 0) C dX0_allCanAgree_29 (by decide) ?_
        refine x_zret C E dX0_allCanAgree_30 rfl ?_
        refine ⟨?_, rfl⟩
        have hq : h_agr P A (6 * k + i) = false := by simpa [h_b] using c26
        unfold h_agrAll
        rw [h_all_no hq _ (by omega)]
        rfl
  refine x_iconst (v := 0) C dX0_allCanAgree_0 (by decide) ?_
  refine x_istore_n C dX0_allCanAgree_1 rfl rfl (by decide) ?_
  exact lp (p_np P k) 0 0 (by omega) rfl rfl
