set_option maxHeartbeats 4000000 in
set_option maxRecDepth 100000 in
theorem c_X0_collectVotes {l : Launch} {Y0 : x_Y} (hO : x_Ok Y0) {M : x_M} {a p : Nat} {P : PL} {A : HS} {hx sk : Nat → Int32} {ht : Int32} {Q : HS} (hP : p_ok P) (hQ : q_is Q P) (hb : x_bk M a (hvT a p P A hx sk ht)) (hp : x_bk M p (plT p Q)) (hd : p + 21 ≤ a ∨ a + 20 ≤ p) (hk9 : h_ok P A) : x_C l Y0 yX0_collectVotes cX0_collectVotes 2 none 5 0 0 [.ref a] M (fun u M1 => u = none ∧ M1 = x_ov M a (hvT a p P (h_col P A) hx sk ht)) := by
  refine x_start hO (by decide +kernel) (Nat.le_of_ble_eq_true rfl) (fun K C E => ?_)
  have hP0 := hP
  have hQ0 := hQ
  obtain ⟨h8, h6, h16, hnp, hwho, hvb, hts⟩ := hP
  obtain ⟨hq0, hq1, hq2, hq3, hq4, hq5, hq6⟩ := hQ
  have hpF : ∀ L : List x_E, L.length = 20 → x_bk (x_ov M a L) p (plT p Q) := fun L h => x_ov_far 20 hp h hd
  refine x_to (x_ov_self hb).symm ?_
  have lp : ∀ (w i : Nat) (x : Int32) (B : HS), i + w = p_nk P → x = nI i → B = h_it (h_col1 P) i (A) → h_ok P B → x_X K 2 0 0 2 [(0, .ref a), (1, .int x)] [] (x_ov M a (hvT a p P B hx sk ht)) := by
    intro w
    induction w with
    | zero =>
      intro i x B hi hx hz hkB
      subst hx
      have e : i = p_nk P := by omega
      subst e
      refine x_iload_n C dX0_collectVotes_2 rfl rfl ?_
      refine x_aload_n C dX0_collectVotes_3 rfl rfl ?_
      refine x_getfield C dX0_collectVotes_4 fX0_48 (x_ovg 0 rfl) rfl ?_
      refine x_getfield C dX0_collectVotes_7 fX0_92 ((hpF _ rfl) 0 _ rfl) rfl ?_
      refine x_icmp_ge (tgt := 36) C dX0_collectVotes_10 (by decide) (fun c10 => ?_) (fun c10 => absurd (by rw [hq1]; exact nI_le (Nat.le_refl _) (by omega)) c10)
      refine x_vret C E dX0_collectVotes_36 ?_
      exact ⟨rfl, by unfold h_col; rw [← hz]⟩
    | succ w ih =>
      intro i x B hi hx hz hkB
      subst hx
      have hB1 : h_ok P (h_col1 P B i) := h_ok_col1 (hnp i (by omega)).2 hkB
      refine x_iload_n C dX0_collectVotes_2 rfl rfl ?_
      refine x_aload_n C dX0_collectVotes_3 rfl rfl ?_
      refine x_getfield C dX0_collectVotes_4 fX0_48 (x_ovg 0 rfl) rfl ?_
      refine x_getfield C dX0_collectVotes_7 fX0_92 ((hpF _ rfl) 0 _ rfl) rfl ?_
      refine x_icmp_ge (tgt := 36) C dX0_collectVotes_10 (by decide) (fun c10 => absurd c10 (by rw [hq1]; exact nI_ge (by omega) (by omega))) (fun c10 => ?_)
      refine x_aload_n C dX0_collectVotes_13 rfl rfl ?_
      refine x_getfield C dX0_collectVotes_14 fX0_36 (x_ovg 0 rfl) rfl ?_
      refine x_iload_n C dX0_collectVotes_17 rfl rfl ?_
      refine x_callV1 C dX0_collectVotes_18 kX0_78 (c_X4_get hO (by decide) (x_bk_sub x_ov_bk 12 rfl)) (x_ovg 12 rfl) rfl (by decide) ⟨Nat.zero_le _, Nat.zero_le _⟩ (Nat.le_of_ble_eq_true rfl) ?_
      rintro _ _ ⟨rfl, rfl⟩
      rw [rg_nI (show i < 6 by omega) (by decide)]
      refine x_iconst (v := 1) C dX0_collectVotes_21 (by decide) ?_
      refine x_icmp_ne (tgt := 30) C dX0_collectVotes_22 (by decide) (fun c22 => ?_) (fun c22 => ?_)
      · refine x_iinc (v := 1) C dX0_collectVotes_30 rfl (by decide) rfl (by decide) ?_
        refine x_goto (tgt := 2) C dX0_collectVotes_33 (by decide) ?_
        refine x_take 2 ?_
        first
          | (have e9 : h_col1 P B i = h_it (h_ask P i) (p_np P i) B := if_pos c22
             exact ih (i + 1) _ (h_it (h_ask P i) (p_np P i) B) (by omega) (nI_1 i) (by rw [← e9]; show _ = h_col1 P (h_it (h_col1 P) i A) i; rw [← hz]) (by rw [← e9]; exact hB1))
          | (have e9 : h_col1 P B i = B := if_neg c22
             exact ih (i + 1) _ B (by omega) (nI_1 i) (by show B = h_col1 P (h_it (h_col1 P) i A) i; rw [← hz, e9]) hkB)
          | fail
      · refine x_aload_n C dX0_collectVotes_25 rfl rfl ?_
        refine x_iload_n C dX0_collectVotes_26 rfl rfl ?_
        refine x_callV1 C dX0_collectVotes_27 kX0_164 (c_X0_askParts hO hP0 hQ0 x_ov_bk (hpF _ rfl) hd hkB (by omega)) (x_ovg 0 rfl) rfl (by decide) ⟨Nat.zero_le _, Nat.zero_le _⟩ (Nat.le_of_ble_eq_true rfl) ?_
        rintro _ _ ⟨rfl, rfl⟩
        refine x_to (x_ov_ov rfl) ?_
        refine x_iinc (v := 1) C dX0_collectVotes_30 rfl (by decide) rfl (by decide) ?_
        refine x_goto (tgt := 2) C dX0_collectVotes_33 (by decide) ?_
        refine x_take 2 ?_
        first
          | (have e9 : h_col1 P B i = h_it (h_ask P i) (p_np P i) B := if_pos c22
             exact ih (i + 1) _ (h_it (h_ask P i) (p_np P i) B) (by omega) (nI_1 i) (by rw [← e9]; show _ = h_col1 P (h_it (h_col1 P) i A) i; rw [← hz]) (by rw [← e9]; exact hB1))
          | (have e9 : h_col1 P B i = B := if_neg c22
             exact ih (i + 1) _ B (by omega) (nI_1 i) (by show B = h_col1 P (h_it (h_col1 P) i A) i; rw [← hz, e9]) hkB)
          | fail
  refine x_iconst (v := 0) C dX0_collectVotes_0 (by decide) ?_
  refine x_istore_n C dX0_collectVotes_1 rfl rfl (by decide) ?_
  refine x_take 2 ?_
  exact lp (p_nk P) 0 0 A (by omega) rfl rfl hk9
set_option maxHeartbeats 4000000 in
set_option maxRecDepth 100000 in
theorem c_X0_decideDeals {l : Launch} {Y0 : x_Y} (hO : x_Ok Y0) {M : x_M} {a p : Nat} {P : PL} {A : HS} {hx sk : Nat → Int32} {ht : Int32} {Q : HS} (hP : p_ok P) (hQ : q_is Q P) (hb : x_bk M a (hvT a p P A hx sk ht)) (hp : x_bk M p (plT p Q)) (hd : p + 21 ≤ a ∨ a + 20 ≤ p) : x_C l Y0 yX0_decideDeals cX0_decideDeals 2 none 3 0 0 [.ref a] M (fun u M1 => u = none ∧ M1 = x_ov M a (hvT a p P (h_dec P A) hx sk ht)) := by
  refine x_start hO (by decide +kernel) (Nat.le_of_ble_eq_true rfl) (fun K C E => ?_)
  have hP0 := hP
  have hQ0 := hQ
  obtain ⟨h8, h6, h16, hnp, hwho, hvb, hts⟩ := hP
  obtain ⟨hq0, hq1, hq2, hq3, hq4, hq5, hq6⟩ := hQ
  have hpF : ∀ L : List x_E, L.length = 20 → x_bk (x_ov M a L) p (plT p Q) := fun L h => x_ov_far 20 hp h hd
  refine x_to (x_ov_self hb).symm ?_
  have lp : ∀ (w i : Nat) (x : Int32) (B : HS), i + w = p_nk P → x = nI i → B = h_it (h_dec1 P) i (A) → x_X K 2 0 0 2 [(0, .ref a), (1, .int x)] [] (x_ov M a (hvT a p P B hx sk ht)) := by
    intro w
    induction w with
    | zero =>
      intro i x B hi hx hz
      subst hx
      have e : i = p_nk P := by omega
      subst e
      refine x_iload_n C dX0_decideDeals_2 rfl rfl ?_
      refine x_aload_n C dX0_decideDeals_3 rfl rfl ?_
      refine x_getfield C dX0_decideDeals_4 fX0_48 (x_ovg 0 rfl) rfl ?_
      refine x_getfield C dX0_decideDeals_7 fX0_92 ((hpF _ rfl) 0 _ rfl) rfl ?_
      refine x_icmp_ge (tgt := 102) C dX0_decideDeals_10 (by decide) (fun c10 => ?_) (fun c10 => absurd (by rw [hq1]; exact nI_le (Nat.le_refl _) (by omega)) c10)
      refine x_vret C E dX0_decideDeals_102 ?_
      exact ⟨rfl, by unfold h_dec; rw [← hz]⟩
    | succ w ih =>
      intro i x B hi hx hz
      subst hx
      refine x_iload_n C dX0_decideDeals_2 rfl rfl ?_
      refine x_aload_n C dX0_decideDeals_3 rfl rfl ?_
      refine x_getfield C dX0_decideDeals_4 fX0_48 (x_ovg 0 rfl) rfl ?_
      refine x_getfield C dX0_decideDeals_7 fX0_92 ((hpF _ rfl) 0 _ rfl) rfl ?_
      refine x_icmp_ge (tgt := 102) C dX0_decideDeals_10 (by decide) (fun c10 => absurd c10 (by rw [hq1]; exact nI_ge (by omega) (by omega))) (fun c10 => ?_)
      refine x_aload_n C dX0_decideDeals_13 rfl rfl ?_
      refine x_getfield C dX0_decideDeals_14 fX0_36 (x_ovg 0 rfl) rfl ?_
      refine x_iload_n C dX0_decideDeals_17 rfl rfl ?_
      refine x_callV1 C dX0_decideDeals_18 kX0_78 (c_X4_get hO (by decide) (x_bk_sub x_ov_bk 12 rfl)) (x_ovg 12 rfl) rfl (by decide) ⟨Nat.zero_le _, Nat.zero_le _⟩ (Nat.le_of_ble_eq_true rfl) ?_
      rintro _ _ ⟨rfl, rfl⟩
      rw [rg_nI (show i < 6 by omega) (by decide)]
      refine x_iconst (v := 1) C dX0_decideDeals_21 (by decide) ?_
      refine x_icmp_ne (tgt := 96) C dX0_decideDeals_22 (by decide) (fun c22 => ?_) (fun c22 => ?_)
      · refine x_iinc (v := 1) C dX0_decideDeals_96 rfl (by decide) rfl (by decide) ?_
        refine x_goto (tgt := 2) C dX0_decideDeals_99 (by decide) ?_
        refine x_take 2 ?_
        first
          | (have e9 : h_dec1 P B i = h_u B 4 i 3 := by unfold h_dec1; rw [if_pos c22, if_pos (Int32.not_le.mp c31)]
             exact ih (i + 1) _ (h_u B 4 i 3) (by omega) (nI_1 i) (by rw [← e9]; show _ = h_dec1 P (h_it (h_dec1 P) i A) i; rw [← hz]))
          | (have e9 : h_dec1 P B i = h_u B 4 i 2 := by unfold h_dec1; rw [if_pos c22, if_neg (fun q => Int32.not_le.mpr q c31), if_pos c63]
             exact ih (i + 1) _ (h_u B 4 i 2) (by omega) (nI_1 i) (by rw [← e9]; show _ = h_dec1 P (h_it (h_dec1 P) i A) i; rw [← hz]))
          | (have e9 : h_dec1 P B i = h_u B 4 i 3 := by unfold h_dec1; rw [if_pos c22, if_neg (fun q => Int32.not_le.mpr q c31), if_neg c63, if_pos (Int32.not_lt.mp c84)]
             exact ih (i + 1) _ (h_u B 4 i 3) (by omega) (nI_1 i) (by rw [← e9]; show _ = h_dec1 P (h_it (h_dec1 P) i A) i; rw [← hz]))
          | (have e9 : h_dec1 P B i = B := by unfold h_dec1; first | rw [if_neg c22] | rw [if_pos c22, if_neg (fun q => Int32.not_le.mpr q c31), if_neg c63, if_neg (fun q => Int32.not_lt.mpr q c84)]
             exact ih (i + 1) _ B (by omega) (nI_1 i) (by show B = h_dec1 P (h_it (h_dec1 P) i A) i; rw [← hz, e9]))
          | fail
      · refine x_aload_n C dX0_decideDeals_25 rfl rfl ?_
        refine x_iload_n C dX0_decideDeals_26 rfl rfl ?_
        refine x_iconst (v := 2) C dX0_decideDeals_27 (by decide) ?_
        refine x_callV2 C dX0_decideDeals_28 kX0_170 (c_X0_countVotes hO hP0 hQ0 x_ov_bk (hpF _ rfl) (show i < p_nk P by omega)) (x_ovg 0 rfl) rfl (by decide) ⟨Nat.zero_le _, Nat.zero_le _⟩ (Nat.le_of_ble_eq_true rfl) ?_
        rintro _ _ ⟨rfl, rfl⟩
        refine x_if_le (tgt := 46) C dX0_decideDeals_31 (by decide) (fun c31 => ?_) (fun c31 => ?_)
        · refine x_aload_n C dX0_decideDeals_46 rfl rfl ?_
          refine x_iload_n C dX0_decideDeals_47 rfl rfl ?_
          refine x_iconst (v := 1) C dX0_decideDeals_48 (by decide) ?_
          refine x_callV2 C dX0_decideDeals_49 kX0_170 (c_X0_countVotes hO hP0 hQ0 x_ov_bk (hpF _ rfl) (show i < p_nk P by omega)) (x_ovg 0 rfl) rfl (by decide) ⟨Nat.zero_le _, Nat.zero_le _⟩ (Nat.le_of_ble_eq_true rfl) ?_
          rintro _ _ ⟨rfl, rfl⟩
          refine x_aload_n C dX0_decideDeals_52 rfl rfl ?_
          refine x_getfield C dX0_decideDeals_53 fX0_48 (x_ovg 0 rfl) rfl ?_
          refine x_getfield C dX0_decideDeals_56 fX0_95 ((hpF _ rfl) 0 _ rfl) rfl ?_
          refine x_iload_n C dX0_decideDeals_59 rfl rfl ?_
          refine x_callV1 C dX0_decideDeals_60 kX0_78 (c_X4_get hO (by decide) (x_bk_sub (hpF _ rfl) 3 rfl)) ((hpF _ rfl) 3 _ rfl) rfl (by decide) ⟨Nat.zero_le _, Nat.zero_le _⟩ (Nat.le_of_ble_eq_true rfl) ?_
          rintro _ _ ⟨rfl, rfl⟩
          rw [rg_nI (show i < 6 by omega) (by decide), hq3 i (by omega)]
          refine x_icmp_ne (tgt := 78) C dX0_decideDeals_63 (by decide) (fun c63 => ?_) (fun c63 => ?_)
          · refine x_aload_n C dX0_decideDeals_78 rfl rfl ?_
            refine x_iload_n C dX0_decideDeals_79 rfl rfl ?_
            refine x_callV1 C dX0_decideDeals_80 kX0_173 (c_X0_daysWaited hO hP0 hQ0 x_ov_bk (hpF _ rfl) (show i < p_nk P by omega)) (x_ovg 0 rfl) rfl (by decide) ⟨Nat.zero_le _, Nat.zero_le _⟩ (Nat.le_of_ble_eq_true rfl) ?_
            rintro _ _ ⟨rfl, rfl⟩
            refine x_iconst (v := 3) C dX0_decideDeals_83 (by decide) ?_
            refine x_icmp_lt (tgt := 96) C dX0_decideDeals_84 (by decide) (fun c84 => ?_) (fun c84 => ?_)
            · refine x_iinc (v := 1) C dX0_decideDeals_96 rfl (by decide) rfl (by decide) ?_
              refine x_goto (tgt := 2) C dX0_decideDeals_99 (by decide) ?_
              refine x_take 2 ?_
              first
                | (have e9 : h_dec1 P B i = h_u B 4 i 3 := by unfold h_dec1; rw [if_pos c22, if_pos (Int32.not_le.mp c31)]
                   exact ih (i + 1) _ (h_u B 4 i 3) (by omega) (nI_1 i) (by rw [← e9]; show _ = h_dec1 P (h_it (h_dec1 P) i A) i; rw [← hz]))
                | (have e9 : h_dec1 P B i = h_u B 4 i 2 := by unfold h_dec1; rw [if_pos c22, if_neg (fun q => Int32.not_le.mpr q c31), if_pos c63]
                   exact ih (i + 1) _ (h_u B 4 i 2) (by omega) (nI_1 i) (by rw [← e9]; show _ = h_dec1 P (h_it (h_dec1 P) i A) i; rw [← hz]))
                | (have e9 : h_dec1 P B i = h_u B 4 i 3 := by unfold h_dec1; rw [if_pos c22, if_neg (fun q => Int32.not_le.mpr q c31), if_neg c63, if_pos (Int32.not_lt.mp c84)]
                   exact ih (i + 1) _ (h_u B 4 i 3) (by omega) (nI_1 i) (by rw [← e9]; show _ = h_dec1 P (h_it (h_dec1 P) i A) i; rw [← hz]))
                | (have e9 : h_dec1 P B i = B := by unfold h_dec1; first | rw [if_neg c22] | rw [if_pos c22, if_neg (fun q => Int32.not_le.mpr q c31), if_neg c63, if_neg (fun q => Int32.not_lt.mpr q c84)]
                   exact ih (i + 1) _ B (by omega) (nI_1 i) (by show B = h_dec1 P (h_it (h_dec1 P) i A) i; rw [← hz, e9]))
                | fail
            · refine x_aload_n C dX0_decideDeals_87 rfl rfl ?_
              refine x_getfield C dX0_decideDeals_88 fX0_36 (x_ovg 0 rfl) rfl ?_
              refine x_iload_n C dX0_decideDeals_91 rfl rfl ?_
              refine x_iconst (v := 3) C dX0_decideDeals_92 (by decide) ?_
              refine x_callV2 C dX0_decideDeals_93 kX0_115 (c_X4_set hO (by decide) (x_bk_sub x_ov_bk 12 rfl)) (x_ovg 12 rfl) rfl (by decide) ⟨Nat.zero_le _, Nat.zero_le _⟩ (Nat.le_of_ble_eq_true rfl) ?_
              rintro _ _ ⟨rfl, rfl⟩
              refine x_to (x_st_ov 13 (Nat.le_of_ble_eq_true rfl)) ?_
              rw [rs_nI (show i < 6 by omega) (by decide)]
              refine x_iinc (v := 1) C dX0_decideDeals_96 rfl (by decide) rfl (by decide) ?_
              refine x_goto (tgt := 2) C dX0_decideDeals_99 (by decide) ?_
              refine x_take 2 ?_
              first
                | (have e9 : h_dec1 P B i = h_u B 4 i 3 := by unfold h_dec1; rw [if_pos c22, if_pos (Int32.not_le.mp c31)]
                   exact ih (i + 1) _ (h_u B 4 i 3) (by omega) (nI_1 i) (by rw [← e9]; show _ = h_dec1 P (h_it (h_dec1 P) i A) i; rw [← hz]))
                | (have e9 : h_dec1 P B i = h_u B 4 i 2 := by unfold h_dec1; rw [if_pos c22, if_neg (fun q => Int32.not_le.mpr q c31), if_pos c63]
                   exact ih (i + 1) _ (h_u B 4 i 2) (by omega) (nI_1 i) (by rw [← e9]; show _ = h_dec1 P (h_it (h_dec1 P) i A) i; rw [← hz]))
                | (have e9 : h_dec1 P B i = h_u B 4 i 3 := by unfold h_dec1; rw [if_pos c22, if_neg (fun q => Int32.not_le.mpr q c31), if_neg c63, if_pos (Int32.not_lt.mp c84)]
                   exact ih (i + 1) _ (h_u B 4 i 3) (by omega) (nI_1 i) (by rw [← e9]; show _ = h_dec1 P (h_it (h_dec1 P) i A) i; rw [← hz]))
                | (have e9 : h_dec1 P B i = B := by unfold h_dec1; first | rw [if_neg c22] | rw [if_pos c22, if_neg (fun q => Int32.not_le.mpr q c31), if_neg c63, if_neg (fun q => Int32.not_lt.mpr q c84)]
                   exact ih (i + 1) _ B (by omega) (nI_1 i) (by show B = h_dec1 P (h_it (h_dec1 P) i A) i; rw [← hz, e9]))
                | fail
          · refine x_aload_n C dX0_decideDeals_66 rfl rfl ?_
            refine x_getfield C dX0_decideDeals_67 fX0_36 (x_ovg 0 rfl) rfl ?_
            refine x_iload_n C dX0_decideDeals_70 rfl rfl ?_
            refine x_iconst (v := 2) C dX0_decideDeals_71 (by decide) ?_
            refine x_callV2 C dX0_decideDeals_72 kX0_115 (c_X4_set hO (by decide) (x_bk_sub x_ov_bk 12 rfl)) (x_ovg 12 rfl) rfl (by decide) ⟨Nat.zero_le _, Nat.zero_le _⟩ (Nat.le_of_ble_eq_true rfl) ?_
            rintro _ _ ⟨rfl, rfl⟩
            refine x_to (x_st_ov 13 (Nat.le_of_ble_eq_true rfl)) ?_
            rw [rs_nI (show i < 6 by omega) (by decide)]
            refine x_goto (tgt := 96) C dX0_decideDeals_75 (by decide) ?_
            refine x_iinc (v := 1) C dX0_decideDeals_96 rfl (by decide) rfl (by decide) ?_
            refine x_goto (tgt := 2) C dX0_decideDeals_99 (by decide) ?_
            refine x_take 2 ?_
            first
              | (have e9 : h_dec1 P B i = h_u B 4 i 3 := by unfold h_dec1; rw [if_pos c22, if_pos (Int32.not_le.mp c31)]
                 exact ih (i + 1) _ (h_u B 4 i 3) (by omega) (nI_1 i) (by rw [← e9]; show _ = h_dec1 P (h_it (h_dec1 P) i A) i; rw [← hz]))
              | (have e9 : h_dec1 P B i = h_u B 4 i 2 := by unfold h_dec1; rw [if_pos c22, if_neg (fun q => Int32.not_le.mpr q c31), if_pos c63]
                 exact ih (i + 1) _ (h_u B 4 i 2) (by omega) (nI_1 i) (by rw [← e9]; show _ = h_dec1 P (h_it (h_dec1 P) i A) i; rw [← hz]))
              | (have e9 : h_dec1 P B i = h_u B 4 i 3 := by unfold h_dec1; rw [if_pos c22, if_neg (fun q => Int32.not_le.mpr q c31), if_neg c63, if_pos (Int32.not_lt.mp c84)]
                 exact ih (i + 1) _ (h_u B 4 i 3) (by omega) (nI_1 i) (by rw [← e9]; show _ = h_dec1 P (h_it (h_dec1 P) i A) i; rw [← hz]))
              | (have e9 : h_dec1 P B i = B := by unfold h_dec1; first | rw [if_neg c22] | rw [if_pos c22, if_neg (fun q => Int32.not_le.mpr q c31), if_neg c63, if_neg (fun q => Int32.not_lt.mpr q c84)]
                 exact ih (i + 1) _ B (by omega) (nI_1 i) (by show B = h_dec1 P (h_it (h_dec1 P) i A) i; rw [← hz, e9]))
              | fail
        · refine x_aload_n C dX0_decideDeals_34 rfl rfl ?_
          refine x_getfield C dX0_decideDeals_35 fX0_36 (x_ovg 0 rfl) rfl ?_
          refine x_iload_n C dX0_decideDeals_38 rfl rfl ?_
          refine x_iconst (v := 3) C dX0_decideDeals_39 (by decide) ?_
          refine x_callV2 C dX0_decideDeals_40 kX0_115 (c_X4_set hO (by decide) (x_bk_sub x_ov_bk 12 rfl)) (x_ovg 12 rfl) rfl (by decide) ⟨Nat.zero_le _, Nat.zero_le _⟩ (Nat.le_of_ble_eq_true rfl) ?_
          rintro _ _ ⟨rfl, rfl⟩
          refine x_to (x_st_ov 13 (Nat.le_of_ble_eq_true rfl)) ?_
          rw [rs_nI (show i < 6 by omega) (by decide)]
          refine x_goto (tgt := 96) C dX0_decideDeals_43 (by decide) ?_
          refine x_iinc (v := 1) C dX0_decideDeals_96 rfl (by decide) rfl (by decide) ?_
          refine x_goto (tgt := 2) C dX0_decideDeals_99 (by decide) ?_
          refine x_take 2 ?_
          first
            | (have e9 : h_dec1 P B i = h_u B 4 i 3 := by unfold h_dec1; rw [if_pos c22, if_pos (Int32.not_le.mp c31)]
               exact ih (i + 1) _ (h_u B 4 i 3) (by omega) (nI_1 i) (by rw [← e9]; show _ = h_dec1 P (h_it (h_dec1 P) i A) i; rw [← hz]))
            | (have e9 : h_dec1 P B i = h_u B 4 i 2 := by unfold h_dec1; rw [if_pos c22, if_neg (fun q => Int32.not_le.mpr q c31), if_pos c63]
               exact ih (i + 1) _ (h_u B 4 i 2) (by omega) (nI_1 i) (by rw [← e9]; show _ = h_dec1 P (h_it (h_dec1 P) i A) i; rw [← hz]))
            | (have e9 : h_dec1 P B i = h_u B 4 i 3 := by unfold h_dec1; rw [if_pos c22, if_neg (fun q => Int32.not_le.mpr q c31), if_neg c63, if_pos (Int32.not_lt.mp c84)]
               exact ih (i + 1) _ (h_u B 4 i 3) (by omega) (nI_1 i) (by rw [← e9]; show _ = h_dec1 P (h_it (h_dec1 P) i A) i; rw [← hz]))
            | (have e9 : h_dec1 P B i = B := by unfold h_dec1; first | rw [if_neg c22] | rw [if_pos c22, if_neg (fun q => Int32.not_le.mpr q c31), if_neg c63, if_neg (fun q => Int32.not_lt.mpr q c84)]
               exact ih (i + 1) _ B (by omega) (nI_1 i) (by show B = h_dec1 P (h_it (h_dec1 P) i A) i; rw [← hz, e9]))
            | fail
  refine x_iconst (v := 0) C dX0_decideDeals_0 (by decide) ?_
  refine x_istore_n C dX0_decideDeals_1 rfl rfl (by decide) ?_
  refine x_take 2 ?_
  exact lp (p_nk P) 0 0 A (by omega) rfl rfl
set_option maxHeartbeats 4000000 in
set_option maxRecDepth 100000 in
theorem c_X0_someoneKnows {l : Launch} {Y0 : x_Y} (hO : x_Ok Y0) {M : x_M} {a p : Nat} {P : PL} {A : HS} {hx sk : Nat → Int32} {ht : Int32} {Q : HS} (hP : p_ok P) (hQ : q_is Q P) (hb : x_bk M a (hvT a p P A hx sk ht)) (hp : x_bk M p (plT p Q)) (hk9 : h_ok P A) {k : Nat} (hk : k < p_nk P) : x_C l Y0 yX0_someoneKnows cX0_someoneKnows 4 (some .boolean) 3 0 0 [.ref a, .int (nI k)] M (fun u M1 => u = some (.int (h_b (h_knows P A k))) ∧ M1 = M) := by
  refine x_start hO (by decide +kernel) (Nat.le_of_ble_eq_true rfl) (fun K C E => ?_)
  have hP0 := hP
  have hQ0 := hQ
  obtain ⟨h8, h6, h16, hnp, hwho, hvb, hts⟩ := hP
  obtain ⟨hq0, hq1, hq2, hq3, hq4, hq5, hq6⟩ := hQ
  have hk1 := hnp k hk
  have lp : ∀ (w i : Nat) (x : Int32), i + w = p_np P k → x = nI i → h_any (fun j => A 7 (6 * k + j) != 0 && A 1 (p_who P (6 * k + j)) == 0) i = false → x_X K 4 0 0 2 [(0, .ref a), (1, .int (nI k)), (2, .int x)] [] M := by
    intro w
    induction w with
    | zero =>
      intro i x hi hx hz
      subst hx
      have e : i = p_np P k := by omega
      subst e
      refine x_iload_n C dX0_someoneKnows_2 rfl rfl ?_
      refine x_aload_n C dX0_someoneKnows_3 rfl rfl ?_
      refine x_getfield C dX0_someoneKnows_4 fX0_48 (hb 0 _ rfl) rfl ?_
      refine x_getfield C dX0_someoneKnows_7 fX0_95 (hp 0 _ rfl) rfl ?_
      refine x_iload_n C dX0_someoneKnows_10 rfl rfl ?_
      refine x_callV1 C dX0_someoneKnows_11 kX0_78 (c_X4_get hO (by decide) (x_bk_sub hp 3 rfl)) (hp 3 _ rfl) rfl (by decide) ⟨Nat.zero_le _, Nat.zero_le _⟩ (Nat.le_of_ble_eq_true rfl) ?_
      rintro _ _ ⟨rfl, rfl⟩
      rw [rg_nI (show k < 6 by omega) (by decide), hq3 k (by omega)]
      refine x_icmp_ge (tgt := 60) C dX0_someoneKnows_14 (by decide) (fun c14 => ?_) (fun c14 => absurd (nI_le (Nat.le_refl _) (by omega)) c14)
      refine x_iconst (v := 0) C dX0_someoneKnows_60 (by decide) ?_
      refine x_zret C E dX0_someoneKnows_61 rfl ?_
      refine ⟨?_, rfl⟩
      unfold h_knows
      rw [hz]
      rfl
    | succ w ih =>
      intro i x hi hx hz
      subst hx
      have hw := hwho k i hk (by omega)
      have hqs := hq4 k i hk (by omega)
      refine x_iload_n C dX0_someoneKnows_2 rfl rfl ?_
      refine x_aload_n C dX0_someoneKnows_3 rfl rfl ?_
      refine x_getfield C dX0_someoneKnows_4 fX0_48 (hb 0 _ rfl) rfl ?_
      refine x_getfield C dX0_someoneKnows_7 fX0_95 (hp 0 _ rfl) rfl ?_
      refine x_iload_n C dX0_someoneKnows_10 rfl rfl ?_
      refine x_callV1 C dX0_someoneKnows_11 kX0_78 (c_X4_get hO (by decide) (x_bk_sub hp 3 rfl)) (hp 3 _ rfl) rfl (by decide) ⟨Nat.zero_le _, Nat.zero_le _⟩ (Nat.le_of_ble_eq_true rfl) ?_
      rintro _ _ ⟨rfl, rfl⟩
      rw [rg_nI (show k < 6 by omega) (by decide), hq3 k (by omega)]
      refine x_icmp_ge (tgt := 60) C dX0_someoneKnows_14 (by decide) (fun c14 => absurd c14 (nI_ge (by omega) (by omega))) (fun c14 => ?_)
      refine x_iload_n C dX0_someoneKnows_17 rfl rfl ?_
      refine x_iload_n C dX0_someoneKnows_18 rfl rfl ?_
      refine x_callS2 C dX0_someoneKnows_19 kX0_98 (c_X8_slot hO) (by decide) ⟨Nat.zero_le _, Nat.zero_le _⟩ (Nat.le_of_ble_eq_true rfl) ?_
      rintro _ _ ⟨rfl, rfl⟩
      rw [slot_nI]
      refine x_istore_n C dX0_someoneKnows_22 rfl rfl (by decide) ?_
      refine x_aload_n C dX0_someoneKnows_23 rfl rfl ?_
      refine x_getfield C dX0_someoneKnows_24 fX0_45 (hb 0 _ rfl) rfl ?_
      refine x_iload_n C dX0_someoneKnows_27 rfl rfl ?_
      refine x_callV1 C dX0_someoneKnows_28 kX0_78 (c_X4_get hO (by decide) (x_bk_sub hb 18 rfl)) (hb 18 _ rfl) rfl (by decide) ⟨Nat.zero_le _, Nat.zero_le _⟩ (Nat.le_of_ble_eq_true rfl) ?_
      rintro _ _ ⟨rfl, rfl⟩
      rw [rg_nI (show 6 * k + i < 36 by omega) (by decide)]
      refine x_if_eq (tgt := 54) C dX0_someoneKnows_31 (by decide) (fun c31 => ?_) (fun c31 => ?_)
      · refine x_iinc (v := 1) C dX0_someoneKnows_54 rfl (by decide) rfl (by decide) ?_
        refine x_goto (tgt := 2) C dX0_someoneKnows_57 (by decide) ?_
        refine x_take 3 ?_
        exact ih (i + 1) _ (by omega) (nI_1 i) (by unfold h_any; rw [hz]; first | (simp [c31]; done) | (simp [hu]; done) | fail)
      · refine x_aload_n C dX0_someoneKnows_34 rfl rfl ?_
        refine x_aload_n C dX0_someoneKnows_35 rfl rfl ?_
        refine x_getfield C dX0_someoneKnows_36 fX0_48 (hb 0 _ rfl) rfl ?_
        refine x_getfield C dX0_someoneKnows_39 fX0_106 (hp 0 _ rfl) rfl ?_
        refine x_iload_n C dX0_someoneKnows_42 rfl rfl ?_
        refine x_callV1 C dX0_someoneKnows_43 kX0_78 (c_X4_get hO (by decide) (x_bk_sub hp 5 rfl)) (hp 5 _ rfl) rfl (by decide) ⟨Nat.zero_le _, Nat.zero_le _⟩ (Nat.le_of_ble_eq_true rfl) ?_
        rintro _ _ ⟨rfl, rfl⟩
        rw [rg_nI (show 6 * k + i < 36 by omega) (by decide)]
        rw [hqs.1]
        refine x_callV1 C dX0_someoneKnows_46 kX0_119 (c_X0_isUp hO hP0 hQ0 hb hp (hk9.1 8) (by omega)) (hb 0 _ rfl) rfl (by decide) ⟨Nat.zero_le _, Nat.zero_le _⟩ (Nat.le_of_ble_eq_true rfl) ?_
        rintro _ _ ⟨rfl, rfl⟩
        refine x_if_eq (tgt := 54) C dX0_someoneKnows_49 (by decide) (fun c49 => ?_) (fun c49 => ?_)
        · have hu : ¬ A 1 (p_who P (6 * k + i)) = 0 := fun q => by unfold h_upI at c49; rw [if_pos q] at c49; exact absurd c49 (by decide)
          refine x_iinc (v := 1) C dX0_someoneKnows_54 rfl (by decide) rfl (by decide) ?_
          refine x_goto (tgt := 2) C dX0_someoneKnows_57 (by decide) ?_
          refine x_take 3 ?_
          exact ih (i + 1) _ (by omega) (nI_1 i) (by unfold h_any; rw [hz]; first | (simp [c31]; done) | (simp [hu]; done) | fail)
        · have hu : A 1 (p_who P (6 * k + i)) = 0 := by
            by_cases q : A 1 (p_who P (6 * k + i)) = 0
            · exact q
            · unfold h_upI at c49; rw [if_neg q] at c49; exact absurd rfl c49
          refine x_iconst (v := 1) C dX0_someoneKnows_52 (by decide) ?_
          refine x_zret C E dX0_someoneKnows_53 rfl ?_
          refine ⟨?_, rfl⟩
          unfold h_knows
          rw [h_any_yes (q := fun j => A 7 (6 * k + j) != 0 && A 1 (p_who P (6 * k + j)) == 0) (j := i) (by simp [c31, hu]) _ (by omega)]
          rfl
  refine x_iconst (v := 0) C dX0_someoneKnows_0 (by decide) ?_
  refine x_istore_n C dX0_someoneKnows_1 rfl rfl (by decide) ?_
  refine x_take 3 ?_
  exact lp (p_np P k) 0 0 (by omega) rfl rfl
set_option maxHeartbeats 4000000 in
set_option maxRecDepth 100000 in
theorem c_X0_hear {l : Launch} {Y0 : x_Y} (hO : x_Ok Y0) {M : x_M} {a p : Nat} {P : PL} {A : HS} {hx sk : Nat → Int32} {ht : Int32} {Q : HS} (hP : p_ok P) (hQ : q_is Q P) (hb : x_bk M a (hvT a p P A hx sk ht)) (hp : x_bk M p (plT p Q)) (hd : p + 21 ≤ a ∨ a + 20 ≤ p) {k j : Nat} (hk : k < p_nk P) (hj : j < p_np P k) : x_C l Y0 yX0_hear cX0_hear 4 none 3 0 0 [.ref a, .int (nI k), .int (nI (6 * k + j))] M (fun u M1 => u = none ∧ M1 = x_ov M a (hvT a p P (h_hear P k A (6 * k + j)) hx sk ht)) := by
  refine x_start hO (by decide +kernel) (Nat.le_of_ble_eq_true rfl) (fun K C E => ?_)
  have hP0 := hP
  have hQ0 := hQ
  obtain ⟨h8, h6, h16, hnp, hwho, hvb, hts⟩ := hP
  obtain ⟨hq0, hq1, hq2, hq3, hq4, hq5, hq6⟩ := hQ
  have hpF : ∀ L : List x_E, L.length = 20 → x_bk (x_ov M a L) p (plT p Q) := fun L h => x_ov_far 20 hp h hd
  refine x_to (x_ov_self hb).symm ?_
  have hk1 := hnp k hk
  have hw := hwho k j hk hj
  have hqs := hq4 k j hk hj
  have hs36 : 6 * k + j < 36 := by omega
  have hw8 : p_who P (6 * k + j) < 8 := by omega
  refine x_aload_n C dX0_hear_0 rfl rfl ?_
  refine x_getfield C dX0_hear_1 fX0_48 (x_ovg 0 rfl) rfl ?_
  refine x_getfield C dX0_hear_4 fX0_106 ((hpF _ rfl) 0 _ rfl) rfl ?_
  refine x_iload_n C dX0_hear_7 rfl rfl ?_
  refine x_callV1 C dX0_hear_8 kX0_78 (c_X4_get hO (by decide) (x_bk_sub (hpF _ rfl) 5 rfl)) ((hpF _ rfl) 5 _ rfl) rfl (by decide) ⟨Nat.zero_le _, Nat.zero_le _⟩ (Nat.le_of_ble_eq_true rfl) ?_
  rintro _ _ ⟨rfl, rfl⟩
  rw [rg_nI (show 6 * k + j < 36 by omega) (by decide)]
  rw [hqs.1]
  refine x_istore_n C dX0_hear_11 rfl rfl (by decide) ?_
  refine x_aload_n C dX0_hear_12 rfl rfl ?_
  refine x_getfield C dX0_hear_13 fX0_45 (x_ovg 0 rfl) rfl ?_
  refine x_iload_n C dX0_hear_16 rfl rfl ?_
  refine x_iconst (v := 1) C dX0_hear_17 (by decide) ?_
  refine x_callV2 C dX0_hear_18 kX0_115 (c_X4_set hO (by decide) (x_bk_sub x_ov_bk 18 rfl)) (x_ovg 18 rfl) rfl (by decide) ⟨Nat.zero_le _, Nat.zero_le _⟩ (Nat.le_of_ble_eq_true rfl) ?_
  rintro _ _ ⟨rfl, rfl⟩
  refine x_to (x_st_ov 19 (Nat.le_of_ble_eq_true rfl)) ?_
  rw [rs_nI hs36 (by decide)]
  refine x_aload_n C dX0_hear_21 rfl rfl ?_
  refine x_getfield C dX0_hear_22 fX0_33 (x_ovg 0 rfl) rfl ?_
  refine x_iload_n C dX0_hear_25 rfl rfl ?_
  refine x_iconst (v := 1) C dX0_hear_26 (by decide) ?_
  refine x_callV2 C dX0_hear_27 kX0_167 (c_X4_add hO (by decide) (x_bk_sub x_ov_bk 10 rfl)) (x_ovg 10 rfl) rfl (by decide) ⟨Nat.zero_le _, Nat.zero_le _⟩ (Nat.le_of_ble_eq_true rfl) ?_
  rintro _ _ ⟨rfl, rfl⟩
  refine x_to (x_st_ov 11 (Nat.le_of_ble_eq_true rfl)) ?_
  rw [rs_nI hw8 (by decide), rg_nI hw8 (by decide)]
  refine x_aload_n C dX0_hear_30 rfl rfl ?_
  refine x_getfield C dX0_hear_31 fX0_36 (x_ovg 0 rfl) rfl ?_
  refine x_iload_n C dX0_hear_34 rfl rfl ?_
  refine x_callV1 C dX0_hear_35 kX0_78 (c_X4_get hO (by decide) (x_bk_sub x_ov_bk 12 rfl)) (x_ovg 12 rfl) rfl (by decide) ⟨Nat.zero_le _, Nat.zero_le _⟩ (Nat.le_of_ble_eq_true rfl) ?_
  rintro _ _ ⟨rfl, rfl⟩
  rw [rg_nI (show k < 6 by omega) (by decide)]
  refine x_iconst (v := 2) C dX0_hear_38 (by decide) ?_
  refine x_icmp_ne (tgt := 61) C dX0_hear_39 (by decide) (fun c39 => ?_) (fun c39 => ?_)
  · refine x_aload_n C dX0_hear_61 rfl rfl ?_
    refine x_getfield C dX0_hear_62 fX0_30 (x_ovg 0 rfl) rfl ?_
    refine x_iload_n C dX0_hear_65 rfl rfl ?_
    refine x_callV1 C dX0_hear_66 kX0_78 (c_X4_get hO (by decide) (x_bk_sub x_ov_bk 8 rfl)) (x_ovg 8 rfl) rfl (by decide) ⟨Nat.zero_le _, Nat.zero_le _⟩ (Nat.le_of_ble_eq_true rfl) ?_
    rintro _ _ ⟨rfl, rfl⟩
    rw [rg_nI hw8 (by decide)]
    refine x_iload_n C dX0_hear_69 rfl rfl ?_
    refine x_icmp_ne (tgt := 82) C dX0_hear_70 (by decide) (fun c70 => ?_) (fun c70 => ?_)
    · refine x_vret C E dX0_hear_82 ?_
      refine ⟨rfl, ?_⟩
      unfold h_hear h_hear3 h_hear2
      first
        | (rw [if_pos (show h_hear1 P A (6 * k + j) 4 k = 2 from c39), if_pos (show h_u (h_hear1 P A (6 * k + j)) 0 (p_who P (6 * k + j)) _ 2 (p_who P (6 * k + j)) = nI k from c70)]; rfl)
        | (rw [if_pos (show h_hear1 P A (6 * k + j) 4 k = 2 from c39), if_neg (show ¬ h_u (h_hear1 P A (6 * k + j)) 0 (p_who P (6 * k + j)) _ 2 (p_who P (6 * k + j)) = nI k from c70)]; rfl)
        | (rw [if_neg (show ¬ h_hear1 P A (6 * k + j) 4 k = 2 from c39), if_pos (show h_hear1 P A (6 * k + j) 2 (p_who P (6 * k + j)) = nI k from c70)]; rfl)
        | (rw [if_neg (show ¬ h_hear1 P A (6 * k + j) 4 k = 2 from c39), if_neg (show ¬ h_hear1 P A (6 * k + j) 2 (p_who P (6 * k + j)) = nI k from c70)]; rfl)
        | fail
    · refine x_aload_n C dX0_hear_73 rfl rfl ?_
      refine x_getfield C dX0_hear_74 fX0_30 (x_ovg 0 rfl) rfl ?_
      refine x_iload_n C dX0_hear_77 rfl rfl ?_
      refine x_iconst (v := (-1)) C dX0_hear_78 (by decide) ?_
      refine x_callV2 C dX0_hear_79 kX0_115 (c_X4_set hO (by decide) (x_bk_sub x_ov_bk 8 rfl)) (x_ovg 8 rfl) rfl (by decide) ⟨Nat.zero_le _, Nat.zero_le _⟩ (Nat.le_of_ble_eq_true rfl) ?_
      rintro _ _ ⟨rfl, rfl⟩
      refine x_to (x_st_ov 9 (Nat.le_of_ble_eq_true rfl)) ?_
      rw [rs_nI hw8 (by decide)]
      refine x_vret C E dX0_hear_82 ?_
      refine ⟨rfl, ?_⟩
      unfold h_hear h_hear3 h_hear2
      first
        | (rw [if_pos (show h_hear1 P A (6 * k + j) 4 k = 2 from c39), if_pos (show h_u (h_hear1 P A (6 * k + j)) 0 (p_who P (6 * k + j)) _ 2 (p_who P (6 * k + j)) = nI k from c70)]; rfl)
        | (rw [if_pos (show h_hear1 P A (6 * k + j) 4 k = 2 from c39), if_neg (show ¬ h_u (h_hear1 P A (6 * k + j)) 0 (p_who P (6 * k + j)) _ 2 (p_who P (6 * k + j)) = nI k from c70)]; rfl)
        | (rw [if_neg (show ¬ h_hear1 P A (6 * k + j) 4 k = 2 from c39), if_pos (show h_hear1 P A (6 * k + j) 2 (p_who P (6 * k + j)) = nI k from c70)]; rfl)
        | (rw [if_neg (show ¬ h_hear1 P A (6 * k + j) 4 k = 2 from c39), if_neg (show ¬ h_hear1 P A (6 * k + j) 2 (p_who P (6 * k + j)) = nI k from c70)]; rfl)
        | fail
  · refine x_aload_n C dX0_hear_42 rfl rfl ?_
    refine x_getfield C dX0_hear_43 fX0_23 (x_ovg 0 rfl) rfl ?_
    refine x_iload_n C dX0_hear_46 rfl rfl ?_
    refine x_aload_n C dX0_hear_47 rfl rfl ?_
    refine x_getfield C dX0_hear_48 fX0_48 (x_ovg 0 rfl) rfl ?_
    refine x_getfield C dX0_hear_51 fX0_109 ((hpF _ rfl) 0 _ rfl) rfl ?_
    refine x_iload_n C dX0_hear_54 rfl rfl ?_
    refine x_callV1 C dX0_hear_55 kX0_78 (c_X4_get hO (by decide) (x_bk_sub (hpF _ rfl) 7 rfl)) ((hpF _ rfl) 7 _ rfl) rfl (by decide) ⟨Nat.zero_le _, Nat.zero_le _⟩ (Nat.le_of_ble_eq_true rfl) ?_
    rintro _ _ ⟨rfl, rfl⟩
    rw [rg_nI (show 6 * k + j < 36 by omega) (by decide)]
    rw [hqs.2]
    refine x_callV2 C dX0_hear_58 kX0_167 (c_X4_add hO (by decide) (x_bk_sub x_ov_bk 4 rfl)) (x_ovg 4 rfl) rfl (by decide) ⟨Nat.zero_le _, Nat.zero_le _⟩ (Nat.le_of_ble_eq_true rfl) ?_
    rintro _ _ ⟨rfl, rfl⟩
    refine x_to (x_st_ov 5 (Nat.le_of_ble_eq_true rfl)) ?_
    rw [rs_nI hw8 (by decide), rg_nI hw8 (by decide), s_fill_in hw, s_fill_u hw]
    refine x_aload_n C dX0_hear_61 rfl rfl ?_
    refine x_getfield C dX0_hear_62 fX0_30 (x_ovg 0 rfl) rfl ?_
    refine x_iload_n C dX0_hear_65 rfl rfl ?_
    refine x_callV1 C dX0_hear_66 kX0_78 (c_X4_get hO (by decide) (x_bk_sub x_ov_bk 8 rfl)) (x_ovg 8 rfl) rfl (by decide) ⟨Nat.zero_le _, Nat.zero_le _⟩ (Nat.le_of_ble_eq_true rfl) ?_
    rintro _ _ ⟨rfl, rfl⟩
    rw [rg_nI hw8 (by decide)]
    refine x_iload_n C dX0_hear_69 rfl rfl ?_
    refine x_icmp_ne (tgt := 82) C dX0_hear_70 (by decide) (fun c70 => ?_) (fun c70 => ?_)
    · refine x_vret C E dX0_hear_82 ?_
      refine ⟨rfl, ?_⟩
      unfold h_hear h_hear3 h_hear2
      first
        | (rw [if_pos (show h_hear1 P A (6 * k + j) 4 k = 2 from c39), if_pos (show h_u (h_hear1 P A (6 * k + j)) 0 (p_who P (6 * k + j)) _ 2 (p_who P (6 * k + j)) = nI k from c70)]; rfl)
        | (rw [if_pos (show h_hear1 P A (6 * k + j) 4 k = 2 from c39), if_neg (show ¬ h_u (h_hear1 P A (6 * k + j)) 0 (p_who P (6 * k + j)) _ 2 (p_who P (6 * k + j)) = nI k from c70)]; rfl)
        | (rw [if_neg (show ¬ h_hear1 P A (6 * k + j) 4 k = 2 from c39), if_pos (show h_hear1 P A (6 * k + j) 2 (p_who P (6 * k + j)) = nI k from c70)]; rfl)
        | (rw [if_neg (show ¬ h_hear1 P A (6 * k + j) 4 k = 2 from c39), if_neg (show ¬ h_hear1 P A (6 * k + j) 2 (p_who P (6 * k + j)) = nI k from c70)]; rfl)
        | fail
    · refine x_aload_n C dX0_hear_73 rfl rfl ?_
      refine x_getfield C dX0_hear_74 fX0_30 (x_ovg 0 rfl) rfl ?_
      refine x_iload_n C dX0_hear_77 rfl rfl ?_
      refine x_iconst (v := (-1)) C dX0_hear_78 (by decide) ?_
      refine x_callV2 C dX0_hear_79 kX0_115 (c_X4_set hO (by decide) (x_bk_sub x_ov_bk 8 rfl)) (x_ovg 8 rfl) rfl (by decide) ⟨Nat.zero_le _, Nat.zero_le _⟩ (Nat.le_of_ble_eq_true rfl) ?_
      rintro _ _ ⟨rfl, rfl⟩
      refine x_to (x_st_ov 9 (Nat.le_of_ble_eq_true rfl)) ?_
      rw [rs_nI hw8 (by decide)]
      refine x_vret C E dX0_hear_82 ?_
      refine ⟨rfl, ?_⟩
      unfold h_hear h_hear3 h_hear2
      first
        | (rw [if_pos (show h_hear1 P A (6 * k + j) 4 k = 2 from c39), if_pos (show h_u (h_hear1 P A (6 * k + j)) 0 (p_who P (6 * k + j)) _ 2 (p_who P (6 * k + j)) = nI k from c70)]; rfl)
        | (rw [if_pos (show h_hear1 P A (6 * k + j) 4 k = 2 from c39), if_neg (show ¬ h_u (h_hear1 P A (6 * k + j)) 0 (p_who P (6 * k + j)) _ 2 (p_who P (6 * k + j)) = nI k from c70)]; rfl)
        | (rw [if_neg (show ¬ h_hear1 P A (6 * k + j) 4 k = 2 from c39), if_pos (show h_hear1 P A (6 * k + j) 2 (p_who P (6 * k + j)) = nI k from c70)]; rfl)
        | (rw [if_neg (show ¬ h_hear1 P A (6 * k + j) 4 k = 2 from c39), if_neg (show ¬ h_hear1 P A (6 * k + j) 2 (p_who P (6 * k + j)) = nI k from c70)]; rfl)
        | fail
set_option maxHeartbeats 4000000 in
set_option maxRecDepth 100000 in
theorem c_X0_tellParts {l : Launch} {Y0 : x_Y} (hO : x_Ok Y0) {M : x_M} {a p : Nat} {P : PL} {A : HS} {hx sk : Nat → Int32} {ht : Int32} {Q : HS} (hP : p_ok P) (hQ : q_is Q P) (hb : x_bk M a (hvT a p P A hx sk ht)) (hp : x_bk M p (plT p Q)) (hd : p + 21 ≤ a ∨ a + 20 ≤ p) (hk9 : h_ok P A) {k : Nat} (hk : k < p_nk P) : x_C l Y0 yX0_tellParts cX0_tellParts 6 (some .int) 4 0 0 [.ref a, .int (nI k)] M (fun u M1 => u = some (.int (h_it (h_tell P k) (p_np P k) (A, 0)).2) ∧ M1 = x_ov M a (hvT a p P (h_it (h_tell P k) (p_np P k) (A, 0)).1 hx sk ht)) := by
  refine x_start hO (by decide +kernel) (Nat.le_of_ble_eq_true rfl) (fun K C E => ?_)
  have hP0 := hP
  have hQ0 := hQ
  obtain ⟨h8, h6, h16, hnp, hwho, hvb, hts⟩ := hP
  obtain ⟨hq0, hq1, hq2, hq3, hq4, hq5, hq6⟩ := hQ
  have hpF : ∀ L : List x_E, L.length = 20 → x_bk (x_ov M a L) p (plT p Q) := fun L h => x_ov_far 20 hp h hd
  refine x_to (x_ov_self hb).symm ?_
  have hk1 := hnp k hk
  have lp : ∀ (w i : Nat) (x : Int32) (B : HS × Int32), i + w = p_np P k → x = nI i → B = h_it (h_tell P k) i (A, 0) → h_ok P B.1 → x_X K 6 0 0 4 [(0, .ref a), (1, .int (nI k)), (2, .int B.2), (3, .int x)] [] (x_ov M a (hvT a p P B.1 hx sk ht)) := by
    intro w
    induction w with
    | zero =>
      intro i x B hi hx hz hkB
      subst hx
      have e : i = p_np P k := by omega
      subst e
      refine x_iload_n C dX0_tellParts_4 rfl rfl ?_
      refine x_aload_n C dX0_tellParts_5 rfl rfl ?_
      refine x_getfield C dX0_tellParts_6 fX0_48 (x_ovg 0 rfl) rfl ?_
      refine x_getfield C dX0_tellParts_9 fX0_95 ((hpF _ rfl) 0 _ rfl) rfl ?_
      refine x_iload_n C dX0_tellParts_12 rfl rfl ?_
      refine x_callV1 C dX0_tellParts_13 kX0_78 (c_X4_get hO (by decide) (x_bk_sub (hpF _ rfl) 3 rfl)) ((hpF _ rfl) 3 _ rfl) rfl (by decide) ⟨Nat.zero_le _, Nat.zero_le _⟩ (Nat.le_of_ble_eq_true rfl) ?_
      rintro _ _ ⟨rfl, rfl⟩
      rw [rg_nI (show k < 6 by omega) (by decide), hq3 k (by omega)]
      refine x_icmp_ge (tgt := 100) C dX0_tellParts_16 (by decide) (fun c16 => ?_) (fun c16 => absurd (nI_le (Nat.le_refl _) (by omega)) c16)
      refine x_iload_n C dX0_tellParts_100 rfl rfl ?_
      refine x_iret C E dX0_tellParts_101 ?_
      exact ⟨by rw [hz], by rw [← hz]⟩
    | succ w ih =>
      intro i x B hi hx hz hkB
      subst hx
      have hw := hwho k i hk (by omega)
      have hqs := hq4 k i hk (by omega)
      have hs36 : 6 * k + i < 36 := by omega
      refine x_iload_n C dX0_tellParts_4 rfl rfl ?_
      refine x_aload_n C dX0_tellParts_5 rfl rfl ?_
      refine x_getfield C dX0_tellParts_6 fX0_48 (x_ovg 0 rfl) rfl ?_
      refine x_getfield C dX0_tellParts_9 fX0_95 ((hpF _ rfl) 0 _ rfl) rfl ?_
      refine x_iload_n C dX0_tellParts_12 rfl rfl ?_
      refine x_callV1 C dX0_tellParts_13 kX0_78 (c_X4_get hO (by decide) (x_bk_sub (hpF _ rfl) 3 rfl)) ((hpF _ rfl) 3 _ rfl) rfl (by decide) ⟨Nat.zero_le _, Nat.zero_le _⟩ (Nat.le_of_ble_eq_true rfl) ?_
      rintro _ _ ⟨rfl, rfl⟩
      rw [rg_nI (show k < 6 by omega) (by decide), hq3 k (by omega)]
      refine x_icmp_ge (tgt := 100) C dX0_tellParts_16 (by decide) (fun c16 => absurd c16 (nI_ge (by omega) (by omega))) (fun c16 => ?_)
      refine x_iload_n C dX0_tellParts_19 rfl rfl ?_
      refine x_iload_n C dX0_tellParts_20 rfl rfl ?_
      refine x_callS2 C dX0_tellParts_21 kX0_98 (c_X8_slot hO) (by decide) ⟨Nat.zero_le _, Nat.zero_le _⟩ (Nat.le_of_ble_eq_true rfl) ?_
      rintro _ _ ⟨rfl, rfl⟩
      rw [slot_nI]
      refine x_istore C dX0_tellParts_24 rfl (by decide) ?_
      refine x_aload_n C dX0_tellParts_26 rfl rfl ?_
      refine x_aload_n C dX0_tellParts_27 rfl rfl ?_
      refine x_getfield C dX0_tellParts_28 fX0_48 (x_ovg 0 rfl) rfl ?_
      refine x_getfield C dX0_tellParts_31 fX0_106 ((hpF _ rfl) 0 _ rfl) rfl ?_
      refine x_iload C dX0_tellParts_34 rfl ?_
      refine x_callV1 C dX0_tellParts_36 kX0_78 (c_X4_get hO (by decide) (x_bk_sub (hpF _ rfl) 5 rfl)) ((hpF _ rfl) 5 _ rfl) rfl (by decide) ⟨Nat.zero_le _, Nat.zero_le _⟩ (Nat.le_of_ble_eq_true rfl) ?_
      rintro _ _ ⟨rfl, rfl⟩
      rw [rg_nI (show 6 * k + i < 36 by omega) (by decide)]
      rw [hqs.1]
      refine x_callV1 C dX0_tellParts_39 kX0_119 (c_X0_isUp hO hP0 hQ0 x_ov_bk (hpF _ rfl) (hkB.1 8) (by omega)) (x_ovg 0 rfl) rfl (by decide) ⟨Nat.zero_le _, Nat.zero_le _⟩ (Nat.le_of_ble_eq_true rfl) ?_
      rintro _ _ ⟨rfl, rfl⟩
      refine x_if_eq (tgt := 61) C dX0_tellParts_42 (by decide) (fun c42 => ?_) (fun c42 => ?_)
      · have hu : ¬ B.1 1 (p_who P (6 * k + i)) = 0 := fun q => by unfold h_upI at c42; rw [if_pos q] at c42; exact absurd c42 (by decide)
        refine x_iconst (v := 0) C dX0_tellParts_61 (by decide) ?_
        refine x_istore C dX0_tellParts_62 rfl (by decide) ?_
        refine x_iload C dX0_tellParts_64 rfl ?_
        refine x_if_eq (tgt := 94) C dX0_tellParts_66 (by decide) (fun c66 => ?_) (fun c66 => ?_)
        · refine x_iinc (v := 1) C dX0_tellParts_94 rfl (by decide) rfl (by decide) ?_
          refine x_goto (tgt := 4) C dX0_tellParts_97 (by decide) ?_
          refine x_take 4 ?_
          first
            | (have hl : h_lis P k B.1 (6 * k + i) = true := by first | (simp [h_lis, hu]; done) | (simp [h_lis, hu, c54]; done) | (simp [h_lis, hu, c54, hq8]; done) | (simp [h_lis, hu, c54, hq8, hkn]; done) | fail
               exact ih (i + 1) _ (h_hear P k B.1 (6 * k + i), B.2 + 1) (by omega) (nI_1 i) (by show _ = h_tell P k (h_it (h_tell P k) i (A, 0)) i; rw [← hz]; unfold h_tell; rw [if_pos hl]) (h_ok_hear (by omega) (by omega) hkB))
            | (have hl : ¬ h_lis P k B.1 (6 * k + i) = true := by first | (simp [h_lis, hu]; done) | (simp [h_lis, hu, c54]; done) | (simp [h_lis, hu, c54, hq8]; done) | (simp [h_lis, hu, c54, hq8, hkn]; done) | fail
               exact ih (i + 1) _ B (by omega) (nI_1 i) (by show _ = h_tell P k (h_it (h_tell P k) i (A, 0)) i; rw [← hz]; unfold h_tell; rw [if_neg hl]) hkB)
            | fail
        · exact absurd rfl c66
      · have hu : B.1 1 (p_who P (6 * k + i)) = 0 := by
          by_cases q : B.1 1 (p_who P (6 * k + i)) = 0
          · exact q
          · unfold h_upI at c42; rw [if_neg q] at c42; exact absurd rfl c42
        refine x_aload_n C dX0_tellParts_45 rfl rfl ?_
        refine x_getfield C dX0_tellParts_46 fX0_45 (x_ovg 0 rfl) rfl ?_
        refine x_iload C dX0_tellParts_49 rfl ?_
        refine x_callV1 C dX0_tellParts_51 kX0_78 (c_X4_get hO (by decide) (x_bk_sub x_ov_bk 18 rfl)) (x_ovg 18 rfl) rfl (by decide) ⟨Nat.zero_le _, Nat.zero_le _⟩ (Nat.le_of_ble_eq_true rfl) ?_
        rintro _ _ ⟨rfl, rfl⟩
        rw [rg_nI (show 6 * k + i < 36 by omega) (by decide)]
        refine x_if_ne (tgt := 61) C dX0_tellParts_54 (by decide) (fun c54 => ?_) (fun c54 => ?_)
        · refine x_iconst (v := 0) C dX0_tellParts_61 (by decide) ?_
          refine x_istore C dX0_tellParts_62 rfl (by decide) ?_
          refine x_iload C dX0_tellParts_64 rfl ?_
          refine x_if_eq (tgt := 94) C dX0_tellParts_66 (by decide) (fun c66 => ?_) (fun c66 => ?_)
          · refine x_iinc (v := 1) C dX0_tellParts_94 rfl (by decide) rfl (by decide) ?_
            refine x_goto (tgt := 4) C dX0_tellParts_97 (by decide) ?_
            refine x_take 4 ?_
            first
              | (have hl : h_lis P k B.1 (6 * k + i) = true := by first | (simp [h_lis, hu]; done) | (simp [h_lis, hu, c54]; done) | (simp [h_lis, hu, c54, hq8]; done) | (simp [h_lis, hu, c54, hq8, hkn]; done) | fail
                 exact ih (i + 1) _ (h_hear P k B.1 (6 * k + i), B.2 + 1) (by omega) (nI_1 i) (by show _ = h_tell P k (h_it (h_tell P k) i (A, 0)) i; rw [← hz]; unfold h_tell; rw [if_pos hl]) (h_ok_hear (by omega) (by omega) hkB))
              | (have hl : ¬ h_lis P k B.1 (6 * k + i) = true := by first | (simp [h_lis, hu]; done) | (simp [h_lis, hu, c54]; done) | (simp [h_lis, hu, c54, hq8]; done) | (simp [h_lis, hu, c54, hq8, hkn]; done) | fail
                 exact ih (i + 1) _ B (by omega) (nI_1 i) (by show _ = h_tell P k (h_it (h_tell P k) i (A, 0)) i; rw [← hz]; unfold h_tell; rw [if_neg hl]) hkB)
              | fail
          · exact absurd rfl c66
        · refine x_iconst (v := 1) C dX0_tellParts_57 (by decide) ?_
          refine x_goto (tgt := 62) C dX0_tellParts_58 (by decide) ?_
          refine x_istore C dX0_tellParts_62 rfl (by decide) ?_
          refine x_iload C dX0_tellParts_64 rfl ?_
          refine x_if_eq (tgt := 94) C dX0_tellParts_66 (by decide) (fun c66 => ?_) (fun c66 => ?_)
          · exact absurd c66 (by decide)
          · refine x_aload_n C dX0_tellParts_69 rfl rfl ?_
            refine x_getfield C dX0_tellParts_70 fX0_74 (x_ovg 0 rfl) rfl ?_
            refine x_if_ne (tgt := 84) C dX0_tellParts_73 (by decide) (fun c73 => ?_) (fun c73 => ?_)
            · have hq8 : B.1 1 8 = 0 := (hkB.1 8).resolve_right (fun q => by rw [q] at c73; exact absurd c73 (by decide))
              refine x_aload_n C dX0_tellParts_84 rfl rfl ?_
              refine x_iload_n C dX0_tellParts_85 rfl rfl ?_
              refine x_iload C dX0_tellParts_86 rfl ?_
              refine x_callV2 C dX0_tellParts_88 kX0_182 (c_X0_hear hO hP0 hQ0 x_ov_bk (hpF _ rfl) hd hk (show i < p_np P k by omega)) (x_ovg 0 rfl) rfl (by decide) ⟨Nat.zero_le _, Nat.zero_le _⟩ (Nat.le_of_ble_eq_true rfl) ?_
              rintro _ _ ⟨rfl, rfl⟩
              refine x_to (x_ov_ov rfl) ?_
              refine x_iinc (v := 1) C dX0_tellParts_91 rfl (by decide) rfl (by decide) ?_
              refine x_iinc (v := 1) C dX0_tellParts_94 rfl (by decide) rfl (by decide) ?_
              refine x_goto (tgt := 4) C dX0_tellParts_97 (by decide) ?_
              refine x_take 4 ?_
              first
                | (have hl : h_lis P k B.1 (6 * k + i) = true := by first | (simp [h_lis, hu]; done) | (simp [h_lis, hu, c54]; done) | (simp [h_lis, hu, c54, hq8]; done) | (simp [h_lis, hu, c54, hq8, hkn]; done) | fail
                   exact ih (i + 1) _ (h_hear P k B.1 (6 * k + i), B.2 + 1) (by omega) (nI_1 i) (by show _ = h_tell P k (h_it (h_tell P k) i (A, 0)) i; rw [← hz]; unfold h_tell; rw [if_pos hl]) (h_ok_hear (by omega) (by omega) hkB))
                | (have hl : ¬ h_lis P k B.1 (6 * k + i) = true := by first | (simp [h_lis, hu]; done) | (simp [h_lis, hu, c54]; done) | (simp [h_lis, hu, c54, hq8]; done) | (simp [h_lis, hu, c54, hq8, hkn]; done) | fail
                   exact ih (i + 1) _ B (by omega) (nI_1 i) (by show _ = h_tell P k (h_it (h_tell P k) i (A, 0)) i; rw [← hz]; unfold h_tell; rw [if_neg hl]) hkB)
                | fail
            · have hq8 : B.1 1 8 = 1 := (hkB.1 8).resolve_left (fun q => by rw [q] at c73; exact absurd c73 (by decide))
              refine x_aload_n C dX0_tellParts_76 rfl rfl ?_
              refine x_iload_n C dX0_tellParts_77 rfl rfl ?_
              refine x_callV1 C dX0_tellParts_78 kX0_179 (c_X0_someoneKnows hO hP0 hQ0 x_ov_bk (hpF _ rfl) hkB hk) (x_ovg 0 rfl) rfl (by decide) ⟨Nat.zero_le _, Nat.zero_le _⟩ (Nat.le_of_ble_eq_true rfl) ?_
              rintro _ _ ⟨rfl, rfl⟩
              refine x_if_eq (tgt := 94) C dX0_tellParts_81 (by decide) (fun c81 => ?_) (fun c81 => ?_)
              · have hkn : h_knows P B.1 k = false := by
                  cases q : h_knows P B.1 k with
                  | false => rfl
                  | true => rw [q] at c81; exact absurd c81 (by decide)
                refine x_iinc (v := 1) C dX0_tellParts_94 rfl (by decide) rfl (by decide) ?_
                refine x_goto (tgt := 4) C dX0_tellParts_97 (by decide) ?_
                refine x_take 4 ?_
                first
                  | (have hl : h_lis P k B.1 (6 * k + i) = true := by first | (simp [h_lis, hu]; done) | (simp [h_lis, hu, c54]; done) | (simp [h_lis, hu, c54, hq8]; done) | (simp [h_lis, hu, c54, hq8, hkn]; done) | fail
                     exact ih (i + 1) _ (h_hear P k B.1 (6 * k + i), B.2 + 1) (by omega) (nI_1 i) (by show _ = h_tell P k (h_it (h_tell P k) i (A, 0)) i; rw [← hz]; unfold h_tell; rw [if_pos hl]) (h_ok_hear (by omega) (by omega) hkB))
                  | (have hl : ¬ h_lis P k B.1 (6 * k + i) = true := by first | (simp [h_lis, hu]; done) | (simp [h_lis, hu, c54]; done) | (simp [h_lis, hu, c54, hq8]; done) | (simp [h_lis, hu, c54, hq8, hkn]; done) | fail
                     exact ih (i + 1) _ B (by omega) (nI_1 i) (by show _ = h_tell P k (h_it (h_tell P k) i (A, 0)) i; rw [← hz]; unfold h_tell; rw [if_neg hl]) hkB)
                  | fail
              · have hkn : h_knows P B.1 k = true := by
                  cases q : h_knows P B.1 k with
                  | false => rw [q] at c81; exact absurd rfl c81
                  | true => rfl
                refine x_aload_n C dX0_tellParts_84 rfl rfl ?_
                refine x_iload_n C dX0_tellParts_85 rfl rfl ?_
                refine x_iload C dX0_tellParts_86 rfl ?_
                refine x_callV2 C dX0_tellParts_88 kX0_182 (c_X0_hear hO hP0 hQ0 x_ov_bk (hpF _ rfl) hd hk (show i < p_np P k by omega)) (x_ovg 0 rfl) rfl (by decide) ⟨Nat.zero_le _, Nat.zero_le _⟩ (Nat.le_of_ble_eq_true rfl) ?_
                rintro _ _ ⟨rfl, rfl⟩
                refine x_to (x_ov_ov rfl) ?_
                refine x_iinc (v := 1) C dX0_tellParts_91 rfl (by decide) rfl (by decide) ?_
                refine x_iinc (v := 1) C dX0_tellParts_94 rfl (by decide) rfl (by decide) ?_
                refine x_goto (tgt := 4) C dX0_tellParts_97 (by decide) ?_
                refine x_take 4 ?_
                first
                  | (have hl : h_lis P k B.1 (6 * k + i) = true := by first | (simp [h_lis, hu]; done) | (simp [h_lis, hu, c54]; done) | (simp [h_lis, hu, c54, hq8]; done) | (simp [h_lis, hu, c54, hq8, hkn]; done) | fail
                     exact ih (i + 1) _ (h_hear P k B.1 (6 * k + i), B.2 + 1) (by omega) (nI_1 i) (by show _ = h_tell P k (h_it (h_tell P k) i (A, 0)) i; rw [← hz]; unfold h_tell; rw [if_pos hl]) (h_ok_hear (by omega) (by omega) hkB))
                  | (have hl : ¬ h_lis P k B.1 (6 * k + i) = true := by first | (simp [h_lis, hu]; done) | (simp [h_lis, hu, c54]; done) | (simp [h_lis, hu, c54, hq8]; done) | (simp [h_lis, hu, c54, hq8, hkn]; done) | fail
                     exact ih (i + 1) _ B (by omega) (nI_1 i) (by show _ = h_tell P k (h_it (h_tell P k) i (A, 0)) i; rw [← hz]; unfold h_tell; rw [if_neg hl]) hkB)
                  | fail
  refine x_iconst (v := 0) C dX0_tellParts_0 (by decide) ?_
  refine x_istore_n C dX0_tellParts_1 rfl rfl (by decide) ?_
  refine x_iconst (v := 0) C dX0_tellParts_2 (by decide) ?_
  refine x_istore_n C dX0_tellParts_3 rfl rfl (by decide) ?_
  refine x_take 4 ?_
  exact lp (p_np P k) 0 0 (A, 0) (by omega) rfl rfl hk9
set_option maxHeartbeats 4000000 in
set_option maxRecDepth 100000 in
theorem c_X0_spreadNews {l : Launch} {Y0 : x_Y} (hO : x_Ok Y0) {M : x_M} {a p : Nat} {P : PL} {A : HS} {hx sk : Nat → Int32} {ht : Int32} {Q : HS} (hP : p_ok P) (hQ : q_is Q P) (hb : x_bk M a (hvT a p P A hx sk ht)) (hp : x_bk M p (plT p Q)) (hd : p + 21 ≤ a ∨ a + 20 ≤ p) (hk9 : h_ok P A) : x_C l Y0 yX0_spreadNews cX0_spreadNews 4 (some .int) 5 0 0 [.ref a] M (fun u M1 => u = some (.int (h_spr P A).2) ∧ M1 = x_ov M a (hvT a p P (h_spr P A).1 hx sk ht)) := by
  refine x_start hO (by decide +kernel) (Nat.le_of_ble_eq_true rfl) (fun K C E => ?_)
  have hP0 := hP
  have hQ0 := hQ
  obtain ⟨h8, h6, h16, hnp, hwho, hvb, hts⟩ := hP
  obtain ⟨hq0, hq1, hq2, hq3, hq4, hq5, hq6⟩ := hQ
  have hpF : ∀ L : List x_E, L.length = 20 → x_bk (x_ov M a L) p (plT p Q) := fun L h => x_ov_far 20 hp h hd
  refine x_to (x_ov_self hb).symm ?_
  have lp : ∀ (w i : Nat) (x : Int32) (B : HS × Int32), i + w = p_nk P → x = nI i → B = h_it (h_spr1 P) i (A, 0) → h_ok P B.1 → x_X K 4 0 0 4 [(0, .ref a), (1, .int B.2), (2, .int x)] [] (x_ov M a (hvT a p P B.1 hx sk ht)) := by
    intro w
    induction w with
    | zero =>
      intro i x B hi hx hz hkB
      subst hx
      have e : i = p_nk P := by omega
      subst e
      refine x_iload_n C dX0_spreadNews_4 rfl rfl ?_
      refine x_aload_n C dX0_spreadNews_5 rfl rfl ?_
      refine x_getfield C dX0_spreadNews_6 fX0_48 (x_ovg 0 rfl) rfl ?_
      refine x_getfield C dX0_spreadNews_9 fX0_92 ((hpF _ rfl) 0 _ rfl) rfl ?_
      refine x_icmp_ge (tgt := 48) C dX0_spreadNews_12 (by decide) (fun c12 => ?_) (fun c12 => absurd (by rw [hq1]; exact nI_le (Nat.le_refl _) (by omega)) c12)
      refine x_iload_n C dX0_spreadNews_48 rfl rfl ?_
      refine x_iret C E dX0_spreadNews_49 ?_
      exact ⟨by unfold h_spr; rw [hz], by unfold h_spr; rw [← hz]⟩
    | succ w ih =>
      intro i x B hi hx hz hkB
      subst hx
      refine x_iload_n C dX0_spreadNews_4 rfl rfl ?_
      refine x_aload_n C dX0_spreadNews_5 rfl rfl ?_
      refine x_getfield C dX0_spreadNews_6 fX0_48 (x_ovg 0 rfl) rfl ?_
      refine x_getfield C dX0_spreadNews_9 fX0_92 ((hpF _ rfl) 0 _ rfl) rfl ?_
      refine x_icmp_ge (tgt := 48) C dX0_spreadNews_12 (by decide) (fun c12 => absurd c12 (by rw [hq1]; exact nI_ge (by omega) (by omega))) (fun c12 => ?_)
      refine x_aload_n C dX0_spreadNews_15 rfl rfl ?_
      refine x_getfield C dX0_spreadNews_16 fX0_36 (x_ovg 0 rfl) rfl ?_
      refine x_iload_n C dX0_spreadNews_19 rfl rfl ?_
      refine x_callV1 C dX0_spreadNews_20 kX0_78 (c_X4_get hO (by decide) (x_bk_sub x_ov_bk 12 rfl)) (x_ovg 12 rfl) rfl (by decide) ⟨Nat.zero_le _, Nat.zero_le _⟩ (Nat.le_of_ble_eq_true rfl) ?_
      rintro _ _ ⟨rfl, rfl⟩
      rw [rg_nI (show i < 6 by omega) (by decide)]
      refine x_istore_n C dX0_spreadNews_23 rfl rfl (by decide) ?_
      refine x_iload_n C dX0_spreadNews_24 rfl rfl ?_
      refine x_iconst (v := 2) C dX0_spreadNews_25 (by decide) ?_
      refine x_icmp_eq (tgt := 34) C dX0_spreadNews_26 (by decide) (fun c26 => ?_) (fun c26 => ?_)
      · refine x_iload_n C dX0_spreadNews_34 rfl rfl ?_
        refine x_aload_n C dX0_spreadNews_35 rfl rfl ?_
        refine x_iload_n C dX0_spreadNews_36 rfl rfl ?_
        refine x_callV1 C dX0_spreadNews_37 kX0_176 (c_X0_tellParts hO hP0 hQ0 x_ov_bk (hpF _ rfl) hd hkB (show i < p_nk P by omega)) (x_ovg 0 rfl) rfl (by decide) ⟨Nat.zero_le _, Nat.zero_le _⟩ (Nat.le_of_ble_eq_true rfl) ?_
        rintro _ _ ⟨rfl, rfl⟩
        refine x_to (x_ov_ov rfl) ?_
        refine x_iadd C dX0_spreadNews_40 ?_
        refine x_istore_n C dX0_spreadNews_41 rfl rfl (by decide) ?_
        refine x_iinc (v := 1) C dX0_spreadNews_42 rfl (by decide) rfl (by decide) ?_
        refine x_goto (tgt := 4) C dX0_spreadNews_45 (by decide) ?_
        refine x_take 3 ?_
        first
          | (have hl : B.1 4 i = 2 ∨ B.1 4 i = 3 := by first | exact Or.inl c26 | exact Or.inr c31 | fail
             exact ih (i + 1) _ ((h_it (h_tell P i) (p_np P i) (B.1, 0)).1, B.2 + (h_it (h_tell P i) (p_np P i) (B.1, 0)).2) (by omega) (nI_1 i) (by show _ = h_spr1 P (h_it (h_spr1 P) i (A, 0)) i; rw [← hz]; unfold h_spr1; rw [if_pos hl]) (h_ok_tells (hnp i (by omega)).2 _ (Nat.le_refl _) _ hkB))
          | (have hl : ¬ (B.1 4 i = 2 ∨ B.1 4 i = 3) := fun q => q.elim c26 c31
             exact ih (i + 1) _ B (by omega) (nI_1 i) (by show _ = h_spr1 P (h_it (h_spr1 P) i (A, 0)) i; rw [← hz]; unfold h_spr1; rw [if_neg hl]) hkB)
          | fail
      · refine x_iload_n C dX0_spreadNews_29 rfl rfl ?_
        refine x_iconst (v := 3) C dX0_spreadNews_30 (by decide) ?_
        refine x_icmp_ne (tgt := 42) C dX0_spreadNews_31 (by decide) (fun c31 => ?_) (fun c31 => ?_)
        · refine x_iinc (v := 1) C dX0_spreadNews_42 rfl (by decide) rfl (by decide) ?_
          refine x_goto (tgt := 4) C dX0_spreadNews_45 (by decide) ?_
          refine x_take 3 ?_
          first
            | (have hl : B.1 4 i = 2 ∨ B.1 4 i = 3 := by first | exact Or.inl c26 | exact Or.inr c31 | fail
               exact ih (i + 1) _ ((h_it (h_tell P i) (p_np P i) (B.1, 0)).1, B.2 + (h_it (h_tell P i) (p_np P i) (B.1, 0)).2) (by omega) (nI_1 i) (by show _ = h_spr1 P (h_it (h_spr1 P) i (A, 0)) i; rw [← hz]; unfold h_spr1; rw [if_pos hl]) (h_ok_tells (hnp i (by omega)).2 _ (Nat.le_refl _) _ hkB))
            | (have hl : ¬ (B.1 4 i = 2 ∨ B.1 4 i = 3) := fun q => q.elim c26 c31
               exact ih (i + 1) _ B (by omega) (nI_1 i) (by show _ = h_spr1 P (h_it (h_spr1 P) i (A, 0)) i; rw [← hz]; unfold h_spr1; rw [if_neg hl]) hkB)
            | fail
        · refine x_iload_n C dX0_spreadNews_34 rfl rfl ?_
          refine x_aload_n C dX0_spreadNews_35 rfl rfl ?_
          refine x_iload_n C dX0_spreadNews_36 rfl rfl ?_
          refine x_callV1 C dX0_spreadNews_37 kX0_176 (c_X0_tellParts hO hP0 hQ0 x_ov_bk (hpF _ rfl) hd hkB (show i < p_nk P by omega)) (x_ovg 0 rfl) rfl (by decide) ⟨Nat.zero_le _, Nat.zero_le _⟩ (Nat.le_of_ble_eq_true rfl) ?_
          rintro _ _ ⟨rfl, rfl⟩
          refine x_to (x_ov_ov rfl) ?_
          refine x_iadd C dX0_spreadNews_40 ?_
          refine x_istore_n C dX0_spreadNews_41 rfl rfl (by decide) ?_
          refine x_iinc (v := 1) C dX0_spreadNews_42 rfl (by decide) rfl (by decide) ?_
          refine x_goto (tgt := 4) C dX0_spreadNews_45 (by decide) ?_
          refine x_take 3 ?_
          first
            | (have hl : B.1 4 i = 2 ∨ B.1 4 i = 3 := by first | exact Or.inl c26 | exact Or.inr c31 | fail
               exact ih (i + 1) _ ((h_it (h_tell P i) (p_np P i) (B.1, 0)).1, B.2 + (h_it (h_tell P i) (p_np P i) (B.1, 0)).2) (by omega) (nI_1 i) (by show _ = h_spr1 P (h_it (h_spr1 P) i (A, 0)) i; rw [← hz]; unfold h_spr1; rw [if_pos hl]) (h_ok_tells (hnp i (by omega)).2 _ (Nat.le_refl _) _ hkB))
            | (have hl : ¬ (B.1 4 i = 2 ∨ B.1 4 i = 3) := fun q => q.elim c26 c31
               exact ih (i + 1) _ B (by omega) (nI_1 i) (by show _ = h_spr1 P (h_it (h_spr1 P) i (A, 0)) i; rw [← hz]; unfold h_spr1; rw [if_neg hl]) hkB)
            | fail
  refine x_iconst (v := 0) C dX0_spreadNews_0 (by decide) ?_
  refine x_istore_n C dX0_spreadNews_1 rfl rfl (by decide) ?_
  refine x_iconst (v := 0) C dX0_spreadNews_2 (by decide) ?_
  refine x_istore_n C dX0_spreadNews_3 rfl rfl (by decide) ?_
  refine x_take 3 ?_
  exact lp (p_nk P) 0 0 (A, 0) (by omega) rfl rfl hk9
set_option maxHeartbeats 4000000 in
set_option maxRecDepth 100000 in
theorem c_X0_obey {l : Launch} {Y0 : x_Y} (hO : x_Ok Y0) {M : x_M} {a p : Nat} {P : PL} {A : HS} {hx sk : Nat → Int32} {ht : Int32} {Q : HS} (hP : p_ok P) (hQ : q_is Q P) (hb : x_bk M a (hvT a p P A hx sk ht)) (hp : x_bk M p (plT p Q)) (hd : p + 21 ≤ a ∨ a + 20 ≤ p) (hk9 : h_ok P A) {o : Nat} (ho : o < p_no P) : x_C l Y0 yX0_obey cX0_obey 3 (some .boolean) 4 0 0 [.ref a, .int (nI (p_vb P o)), .int (nI (p_tg P o))] M (fun u M1 => u = some (.int (h_b (h_obey P A o).2)) ∧ M1 = x_ov M a (hvT a p P (h_obey P A o).1 hx sk ht)) := by
  refine x_start hO (by decide +kernel) (Nat.le_of_ble_eq_true rfl) (fun K C E => ?_)
  have hP0 := hP
  have hQ0 := hQ
  obtain ⟨h8, h6, h16, hnp, hwho, hvb, hts⟩ := hP
  obtain ⟨hq0, hq1, hq2, hq3, hq4, hq5, hq6⟩ := hQ
  have hpF : ∀ L : List x_E, L.length = 20 → x_bk (x_ov M a L) p (plT p Q) := fun L h => x_ov_far 20 hp h hd
  refine x_to (x_ov_self hb).symm ?_
  have hv9 := hvb o ho
  have hvl : p_vb P o < 300 := by rcases hv9 with q | q <;> omega
  refine x_iload_n C dX0_obey_0 rfl rfl ?_
  refine x_sipush (v := 262) C dX0_obey_1 (by decide) ?_
  refine x_icmp_ne (tgt := 13) C dX0_obey_4 (by decide) (fun c4 => ?_) (fun c4 => ?_)
  · have hv : ¬ p_vb P o = 262 := fun q => c4 (by rw [q]; rfl)
    have htg : p_tg P o ≤ 8 := by rcases hv9 with q | q <;> omega
    refine x_iload_n C dX0_obey_13 rfl rfl ?_
    refine x_sipush (v := 263) C dX0_obey_14 (by decide) ?_
    refine x_icmp_ne (tgt := 28) C dX0_obey_17 (by decide) (fun c17 => ?_) (fun c17 => ?_)
    · have hv2 : ¬ p_vb P o = 263 := fun q => c17 (by rw [q]; rfl)
      refine x_aload_n C dX0_obey_28 rfl rfl ?_
      refine x_iload_n C dX0_obey_29 rfl rfl ?_
      refine x_callV1 C dX0_obey_30 kX0_161 (c_X0_rouse hO hP0 hQ0 x_ov_bk (hpF _ rfl) hd hk9 htg) (x_ovg 0 rfl) rfl (by decide) ⟨Nat.zero_le _, Nat.zero_le _⟩ (Nat.le_of_ble_eq_true rfl) ?_
      rintro _ _ ⟨rfl, rfl⟩
      refine x_to (x_ov_ov rfl) ?_
      refine x_zret C E dX0_obey_33 ?_ ?_
      · first | rfl | (unfold h_b; split <;> rfl) | (unfold h_upI; split <;> rfl) | fail
      · unfold h_obey
        rw [if_neg hv]
        first
        | (rw [if_pos hv2]
           by_cases q : A 1 (p_tg P o) = 0
           · exact ⟨by unfold h_upI; rw [if_pos q, if_pos q]; rfl, by unfold h_sleep; rw [if_pos q, if_pos q]⟩
           · exact ⟨by unfold h_upI; rw [if_neg q, if_neg q]; rfl, by unfold h_sleep; rw [if_neg q, if_neg q]⟩)
        | (rw [if_neg hv2]
           by_cases q : A 1 (p_tg P o) = 0
           · exact ⟨by unfold h_upI; rw [if_pos q, if_pos q]; rfl, by unfold h_rouse; rw [if_pos q, if_pos q]⟩
           · exact ⟨by unfold h_upI; rw [if_neg q, if_neg q]; rfl, by unfold h_rouse; rw [if_neg q, if_neg q]⟩)
        | fail
    · have hv2 : p_vb P o = 263 := (nI_eq (by omega) (by omega)).mp (show nI (p_vb P o) = nI 263 from c17)
      refine x_aload_n C dX0_obey_20 rfl rfl ?_
      refine x_iload_n C dX0_obey_21 rfl rfl ?_
      refine x_callV1 C dX0_obey_22 kX0_158 (c_X0_putToSleep hO hP0 hQ0 x_ov_bk (hpF _ rfl) hd hk9 htg) (x_ovg 0 rfl) rfl (by decide) ⟨Nat.zero_le _, Nat.zero_le _⟩ (Nat.le_of_ble_eq_true rfl) ?_
      rintro _ _ ⟨rfl, rfl⟩
      refine x_to (x_ov_ov rfl) ?_
      refine x_goto (tgt := 33) C dX0_obey_25 (by decide) ?_
      refine x_zret C E dX0_obey_33 ?_ ?_
      · first | rfl | (unfold h_b; split <;> rfl) | (unfold h_upI; split <;> rfl) | fail
      · unfold h_obey
        rw [if_neg hv]
        first
        | (rw [if_pos hv2]
           by_cases q : A 1 (p_tg P o) = 0
           · exact ⟨by unfold h_upI; rw [if_pos q, if_pos q]; rfl, by unfold h_sleep; rw [if_pos q, if_pos q]⟩
           · exact ⟨by unfold h_upI; rw [if_neg q, if_neg q]; rfl, by unfold h_sleep; rw [if_neg q, if_neg q]⟩)
        | (rw [if_neg hv2]
           by_cases q : A 1 (p_tg P o) = 0
           · exact ⟨by unfold h_upI; rw [if_pos q, if_pos q]; rfl, by unfold h_rouse; rw [if_pos q, if_pos q]⟩
           · exact ⟨by unfold h_upI; rw [if_neg q, if_neg q]; rfl, by unfold h_rouse; rw [if_neg q, if_neg q]⟩)
        | fail
  · have hv : p_vb P o = 262 := (nI_eq (by omega) (by omega)).mp (show nI (p_vb P o) = nI 262 from c4)
    have htg : p_tg P o < p_nk P := by rcases hv9 with q | q <;> omega
    refine x_aload_n C dX0_obey_7 rfl rfl ?_
    refine x_iload_n C dX0_obey_8 rfl rfl ?_
    refine x_callV1 C dX0_obey_9 kX0_155 (c_X0_startDeal hO hP0 hQ0 x_ov_bk (hpF _ rfl) hd hk9 htg) (x_ovg 0 rfl) rfl (by decide) ⟨Nat.zero_le _, Nat.zero_le _⟩ (Nat.le_of_ble_eq_true rfl) ?_
    rintro _ _ ⟨rfl, rfl⟩
    refine x_to (x_ov_ov rfl) ?_
    refine x_zret C E dX0_obey_12 ?_ ?_
    · first | rfl | (unfold h_b; split <;> rfl) | (unfold h_upI; split <;> rfl) | fail
    · unfold h_obey
      rw [if_pos hv]
      by_cases q : h_can P A (p_tg P o) = true
      · exact ⟨by rw [if_pos q, q], by rw [if_pos q, if_pos q]⟩
      · exact ⟨by rw [if_neg q]; simp [h_b, q], by rw [if_neg q, if_neg q]⟩
