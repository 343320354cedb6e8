set_option maxHeartbeats 4000000 in
set_option maxRecDepth 100000 in
theorem c_X7_readSymbol {l : Launch} {Y0 : x_Y} (hO : x_Ok Y0) {M : x_M} {t tp n : Nat} {f : Nat → Int32} {kw : Nat → Int64} {s : kS} {ix kd st : Int32} {vl : Int64} (hn : n ≤ 2000) (hp : x_bk M tp (tpT tp (nI n) f)) (hd : tp + 3 ≤ t ∨ t + 5 ≤ tp) (hb : x_bk M t (tkT t tp kw s ix kd st vl)) (hc : x_Stc Y0) {qs ts : Nat} (hZ : vk_R RX7 113 "()[];,+-*/<>=" qs Y0.1) (hsy : x_Str Y0 qs ts k_SYM) {c : Nat} (hc9 : c < 256) (hfx : f s.1.1 = nI c) (hx : s.1.1 < n) : x_C l Y0 yX7_readSymbol cX7_readSymbol 2 (some .int) 5 0 0 [.ref t, .int (f s.1.1)] M (fun u M1 => u = some (.int (k_tS f n s.1.1 s.1.2).1) ∧ M1 = x_ov M t (tkT t tp kw ((k_tS f n s.1.1 s.1.2).2, s.2) ix kd st vl)) := by
  refine x_start hO (by decide +kernel) (Nat.le_of_ble_eq_true rfl) (fun K C E => ?_)
  have hpF : ∀ L : List x_E, L.length = 5 → x_bk (x_ov M t L) tp (tpT tp (nI n) f) := fun L h => x_ov_far 5 hp h hd
  refine x_to (x_ov_self hb).symm ?_
  refine x_aload_n C dX7_readSymbol_0 rfl rfl ?_
  refine x_dup C dX7_readSymbol_1 rfl ?_
  refine x_getfield C dX7_readSymbol_2 fX7_51 (x_ovg 0 rfl) rfl ?_
  refine x_iconst (v := 1) C dX7_readSymbol_5 (by decide) ?_
  refine x_iadd C dX7_readSymbol_6 ?_
  rw [nI_1 s.1.1]
  refine x_putfield C dX7_readSymbol_7 fX7_51 (x_ovg 0 rfl) rfl rfl (Nat.le_of_ble_eq_true rfl) ?_
  refine x_to (x_st_ov 0 (Nat.le_of_ble_eq_true rfl)) ?_
  refine x_to (show _ = x_ov M t (tkT t tp kw ((s.1.1 + 1, s.1.2), s.2) ix kd st vl) from rfl) ?_
  refine x_iload_n C dX7_readSymbol_10 rfl rfl ?_
  refine x_bipush (v := 60) C dX7_readSymbol_11 (by decide) ?_
  refine x_icmp_eq (tgt := 22) C dX7_readSymbol_13 (by decide) (fun c13 => ?_) (fun c13 => ?_)
  · refine x_aload_n C dX7_readSymbol_22 rfl rfl ?_
    refine x_getfield C dX7_readSymbol_23 fX7_25 (x_ovg 0 rfl) rfl ?_
    refine x_aload_n C dX7_readSymbol_26 rfl rfl ?_
    refine x_getfield C dX7_readSymbol_27 fX7_51 (x_ovg 0 rfl) rfl ?_
    refine x_callV1 C dX7_readSymbol_30 kX7_90 (c_X5_at (i := s.1.1 + 1) hO (hpF _ rfl) hn (by omega)) ((hpF _ rfl) 0 _ rfl) rfl (by decide) ⟨Nat.zero_le _, Nat.zero_le _⟩ (Nat.le_of_ble_eq_true rfl) ?_
    rintro _ _ ⟨rfl, rfl⟩
    refine x_topi (k_at f n (s.1.1 + 1)) rfl ?_
    refine x_bipush (v := 61) C dX7_readSymbol_33 (by decide) ?_
    refine x_icmp_ne (tgt := 64) C dX7_readSymbol_35 (by decide) (fun c35 => ?_) (fun c35 => ?_)
    · refine x_ldcS C dX7_readSymbol_64 hZ ?_
      refine x_iload_n C dX7_readSymbol_66 rfl rfl ?_
      refine x_i2c C dX7_readSymbol_67 ?_
      refine x_topi (nI c) (by rw [hfx]; exact s_c16 c hc9) ?_
      refine x_callT (As := [_]) C dX7_readSymbol_68 kX7_115 (c_J0_indexOf hO hc hsy k_SYMa hc9 (by decide)) hsy.1 rfl rfl rfl (by decide) ⟨Nat.zero_le _, Nat.zero_le _⟩ (Nat.le_of_ble_eq_true rfl) ?_
      rintro _ _ ⟨rfl, rfl⟩
      refine x_if_lt (tgt := 78) C dX7_readSymbol_71 (by decide) (fun c71 => ?_) (fun c71 => ?_)
      · refine x_iconst (v := 1) C dX7_readSymbol_78 (by decide) ?_
        refine x_iret C E dX7_readSymbol_79 ?_
        have hk1 : k_sy1 (f s.1.1) = 1 := by
          unfold k_sy1
          rw [hfx, nI_clamp (show c < 2 ^ 31 by omega), if_pos c71]
        refine ⟨?_, ?_⟩
        · first | (simp only [k_tS, if_pos c13, if_neg c35, hk1]; done) | (simp only [k_tS, if_pos c13, if_neg c35, hk1]; rfl) | fail
        · first | (simp only [k_tS, if_pos c13, if_neg c35, hk1]; done) | (simp only [k_tS, if_pos c13, if_neg c35, hk1]; rfl) | fail
      · refine x_iload_n C dX7_readSymbol_74 rfl rfl ?_
        refine x_goto (tgt := 79) C dX7_readSymbol_75 (by decide) ?_
        refine x_iret C E dX7_readSymbol_79 ?_
        have hk1 : k_sy1 (f s.1.1) = f s.1.1 := by
          unfold k_sy1
          rw [hfx, nI_clamp (show c < 2 ^ 31 by omega), if_neg c71]
        refine ⟨?_, ?_⟩
        · first | (simp only [k_tS, if_pos c13, if_neg c35, hk1]; done) | (simp only [k_tS, if_pos c13, if_neg c35, hk1]; rfl) | fail
        · first | (simp only [k_tS, if_pos c13, if_neg c35, hk1]; done) | (simp only [k_tS, if_pos c13, if_neg c35, hk1]; rfl) | fail
    · refine x_aload_n C dX7_readSymbol_38 rfl rfl ?_
      refine x_dup C dX7_readSymbol_39 rfl ?_
      refine x_getfield C dX7_readSymbol_40 fX7_51 (x_ovg 0 rfl) rfl ?_
      refine x_iconst (v := 1) C dX7_readSymbol_43 (by decide) ?_
      refine x_iadd C dX7_readSymbol_44 ?_
      rw [nI_1 (s.1.1 + 1)]
      refine x_putfield C dX7_readSymbol_45 fX7_51 (x_ovg 0 rfl) rfl rfl (Nat.le_of_ble_eq_true rfl) ?_
      refine x_to (x_st_ov 0 (Nat.le_of_ble_eq_true rfl)) ?_
      refine x_to (show _ = x_ov M t (tkT t tp kw ((s.1.1 + 1 + 1, s.1.2), s.2) ix kd st vl) from rfl) ?_
      refine x_iload_n C dX7_readSymbol_48 rfl rfl ?_
      refine x_bipush (v := 60) C dX7_readSymbol_49 (by decide) ?_
      refine x_icmp_ne (tgt := 60) C dX7_readSymbol_51 (by decide) (fun c51 => ?_) (fun c51 => ?_)
      · exact absurd c13 c51
      · refine x_sipush (v := 188) C dX7_readSymbol_54 (by decide) ?_
        refine x_goto (tgt := 63) C dX7_readSymbol_57 (by decide) ?_
        refine x_iret C E dX7_readSymbol_63 ?_
        refine ⟨?_, ?_⟩
        · first | (simp only [k_tS, if_pos c13, if_pos c35, if_pos c51]; done) | (simp only [k_tS, if_pos c13, if_pos c35, if_pos c51]; rfl) | fail
        · first | (simp only [k_tS, if_pos c13, if_pos c35, if_pos c51]; done) | (simp only [k_tS, if_pos c13, if_pos c35, if_pos c51]; rfl) | fail
  · refine x_iload_n C dX7_readSymbol_16 rfl rfl ?_
    refine x_bipush (v := 62) C dX7_readSymbol_17 (by decide) ?_
    refine x_icmp_ne (tgt := 64) C dX7_readSymbol_19 (by decide) (fun c19 => ?_) (fun c19 => ?_)
    · refine x_ldcS C dX7_readSymbol_64 hZ ?_
      refine x_iload_n C dX7_readSymbol_66 rfl rfl ?_
      refine x_i2c C dX7_readSymbol_67 ?_
      refine x_topi (nI c) (by rw [hfx]; exact s_c16 c hc9) ?_
      refine x_callT (As := [_]) C dX7_readSymbol_68 kX7_115 (c_J0_indexOf hO hc hsy k_SYMa hc9 (by decide)) hsy.1 rfl rfl rfl (by decide) ⟨Nat.zero_le _, Nat.zero_le _⟩ (Nat.le_of_ble_eq_true rfl) ?_
      rintro _ _ ⟨rfl, rfl⟩
      refine x_if_lt (tgt := 78) C dX7_readSymbol_71 (by decide) (fun c71 => ?_) (fun c71 => ?_)
      · refine x_iconst (v := 1) C dX7_readSymbol_78 (by decide) ?_
        refine x_iret C E dX7_readSymbol_79 ?_
        have hk1 : k_sy1 (f s.1.1) = 1 := by
          unfold k_sy1
          rw [hfx, nI_clamp (show c < 2 ^ 31 by omega), if_pos c71]
        refine ⟨?_, ?_⟩
        · first | (simp only [k_tS, if_neg c13, if_neg c19, hk1]; done) | (simp only [k_tS, if_neg c13, if_neg c19, hk1]; rfl) | fail
        · first | (simp only [k_tS, if_neg c13, if_neg c19, hk1]; done) | (simp only [k_tS, if_neg c13, if_neg c19, hk1]; rfl) | fail
      · refine x_iload_n C dX7_readSymbol_74 rfl rfl ?_
        refine x_goto (tgt := 79) C dX7_readSymbol_75 (by decide) ?_
        refine x_iret C E dX7_readSymbol_79 ?_
        have hk1 : k_sy1 (f s.1.1) = f s.1.1 := by
          unfold k_sy1
          rw [hfx, nI_clamp (show c < 2 ^ 31 by omega), if_neg c71]
        refine ⟨?_, ?_⟩
        · first | (simp only [k_tS, if_neg c13, if_neg c19, hk1]; done) | (simp only [k_tS, if_neg c13, if_neg c19, hk1]; rfl) | fail
        · first | (simp only [k_tS, if_neg c13, if_neg c19, hk1]; done) | (simp only [k_tS, if_neg c13, if_neg c19, hk1]; rfl) | fail
    · refine x_aload_n C dX7_readSymbol_22 rfl rfl ?_
      refine x_getfield C dX7_readSymbol_23 fX7_25 (x_ovg 0 rfl) rfl ?_
      refine x_aload_n C dX7_readSymbol_26 rfl rfl ?_
      refine x_getfield C dX7_readSymbol_27 fX7_51 (x_ovg 0 rfl) rfl ?_
      refine x_callV1 C dX7_readSymbol_30 kX7_90 (c_X5_at (i := s.1.1 + 1) hO (hpF _ rfl) hn (by omega)) ((hpF _ rfl) 0 _ rfl) rfl (by decide) ⟨Nat.zero_le _, Nat.zero_le _⟩ (Nat.le_of_ble_eq_true rfl) ?_
      rintro _ _ ⟨rfl, rfl⟩
      refine x_topi (k_at f n (s.1.1 + 1)) rfl ?_
      refine x_bipush (v := 61) C dX7_readSymbol_33 (by decide) ?_
      refine x_icmp_ne (tgt := 64) C dX7_readSymbol_35 (by decide) (fun c35 => ?_) (fun c35 => ?_)
      · refine x_ldcS C dX7_readSymbol_64 hZ ?_
        refine x_iload_n C dX7_readSymbol_66 rfl rfl ?_
        refine x_i2c C dX7_readSymbol_67 ?_
        refine x_topi (nI c) (by rw [hfx]; exact s_c16 c hc9) ?_
        refine x_callT (As := [_]) C dX7_readSymbol_68 kX7_115 (c_J0_indexOf hO hc hsy k_SYMa hc9 (by decide)) hsy.1 rfl rfl rfl (by decide) ⟨Nat.zero_le _, Nat.zero_le _⟩ (Nat.le_of_ble_eq_true rfl) ?_
        rintro _ _ ⟨rfl, rfl⟩
        refine x_if_lt (tgt := 78) C dX7_readSymbol_71 (by decide) (fun c71 => ?_) (fun c71 => ?_)
        · refine x_iconst (v := 1) C dX7_readSymbol_78 (by decide) ?_
          refine x_iret C E dX7_readSymbol_79 ?_
          have hk1 : k_sy1 (f s.1.1) = 1 := by
            unfold k_sy1
            rw [hfx, nI_clamp (show c < 2 ^ 31 by omega), if_pos c71]
          refine ⟨?_, ?_⟩
          · first | (simp only [k_tS, if_neg c13, if_pos c19, if_neg c35, hk1]; done) | (simp only [k_tS, if_neg c13, if_pos c19, if_neg c35, hk1]; rfl) | fail
          · first | (simp only [k_tS, if_neg c13, if_pos c19, if_neg c35, hk1]; done) | (simp only [k_tS, if_neg c13, if_pos c19, if_neg c35, hk1]; rfl) | fail
        · refine x_iload_n C dX7_readSymbol_74 rfl rfl ?_
          refine x_goto (tgt := 79) C dX7_readSymbol_75 (by decide) ?_
          refine x_iret C E dX7_readSymbol_79 ?_
          have hk1 : k_sy1 (f s.1.1) = f s.1.1 := by
            unfold k_sy1
            rw [hfx, nI_clamp (show c < 2 ^ 31 by omega), if_neg c71]
          refine ⟨?_, ?_⟩
          · first | (simp only [k_tS, if_neg c13, if_pos c19, if_neg c35, hk1]; done) | (simp only [k_tS, if_neg c13, if_pos c19, if_neg c35, hk1]; rfl) | fail
          · first | (simp only [k_tS, if_neg c13, if_pos c19, if_neg c35, hk1]; done) | (simp only [k_tS, if_neg c13, if_pos c19, if_neg c35, hk1]; rfl) | fail
      · refine x_aload_n C dX7_readSymbol_38 rfl rfl ?_
        refine x_dup C dX7_readSymbol_39 rfl ?_
        refine x_getfield C dX7_readSymbol_40 fX7_51 (x_ovg 0 rfl) rfl ?_
        refine x_iconst (v := 1) C dX7_readSymbol_43 (by decide) ?_
        refine x_iadd C dX7_readSymbol_44 ?_
        rw [nI_1 (s.1.1 + 1)]
        refine x_putfield C dX7_readSymbol_45 fX7_51 (x_ovg 0 rfl) rfl rfl (Nat.le_of_ble_eq_true rfl) ?_
        refine x_to (x_st_ov 0 (Nat.le_of_ble_eq_true rfl)) ?_
        refine x_to (show _ = x_ov M t (tkT t tp kw ((s.1.1 + 1 + 1, s.1.2), s.2) ix kd st vl) from rfl) ?_
        refine x_iload_n C dX7_readSymbol_48 rfl rfl ?_
        refine x_bipush (v := 60) C dX7_readSymbol_49 (by decide) ?_
        refine x_icmp_ne (tgt := 60) C dX7_readSymbol_51 (by decide) (fun c51 => ?_) (fun c51 => ?_)
        · refine x_sipush (v := 190) C dX7_readSymbol_60 (by decide) ?_
          refine x_iret C E dX7_readSymbol_63 ?_
          refine ⟨?_, ?_⟩
          · first | (simp only [k_tS, if_neg c13, if_pos c19, if_pos c35, if_neg c51]; done) | (simp only [k_tS, if_neg c13, if_pos c19, if_pos c35, if_neg c51]; rfl) | fail
          · first | (simp only [k_tS, if_neg c13, if_pos c19, if_pos c35, if_neg c51]; done) | (simp only [k_tS, if_neg c13, if_pos c19, if_pos c35, if_neg c51]; rfl) | fail
        · exact absurd c51 c13
set_option maxHeartbeats 4000000 in
set_option maxRecDepth 100000 in
theorem c_X7_readToken {l : Launch} {Y0 : x_Y} (hO : x_Ok Y0) {M : x_M} {t tp n : Nat} {f : Nat → Int32} {kw : Nat → Int64} {s : kS} {ix kd st : Int32} {vl : Int64} (hn : n ≤ 2000) (hp : x_bk M tp (tpT tp (nI n) f)) (hd : tp + 3 ≤ t ∨ t + 5 ≤ tp) (hb : x_bk M t (tkT t tp kw s ix kd st vl)) (hc : x_Stc Y0) {qs ts : Nat} (hZ : vk_R RX7 113 "()[];,+-*/<>=" qs Y0.1) (hsy : x_Str Y0 qs ts k_SYM) (hf : k_by f) (hs : s.1.1 ≤ n) : x_C l Y0 yX7_readToken cX7_readToken 2 (some .int) 6 0 0 [.ref t] M (fun u M1 => u = some (.int (k_tok f n kw s.1.1 s.1.2).1) ∧ M1 = x_ov M t (tkT t tp kw ((k_tok f n kw s.1.1 s.1.2).2, s.2) ix kd st vl)) := by
  refine x_start hO (by decide +kernel) (Nat.le_of_ble_eq_true rfl) (fun K C E => ?_)
  have hpF : ∀ L : List x_E, L.length = 5 → x_bk (x_ov M t L) tp (tpT tp (nI n) f) := fun L h => x_ov_far 5 hp h hd
  refine x_to (x_ov_self hb).symm ?_
  obtain ⟨c, hc9, hfx⟩ := hf s.1.1
  refine x_aload_n C dX7_readToken_0 rfl rfl ?_
  refine x_getfield C dX7_readToken_1 fX7_25 (x_ovg 0 rfl) rfl ?_
  refine x_aload_n C dX7_readToken_4 rfl rfl ?_
  refine x_getfield C dX7_readToken_5 fX7_51 (x_ovg 0 rfl) rfl ?_
  refine x_callV1 C dX7_readToken_8 kX7_90 (c_X5_at (i := s.1.1) hO (hpF _ rfl) hn (by omega)) ((hpF _ rfl) 0 _ rfl) rfl (by decide) ⟨Nat.zero_le _, Nat.zero_le _⟩ (Nat.le_of_ble_eq_true rfl) ?_
  rintro _ _ ⟨rfl, rfl⟩
  refine x_istore_n C dX7_readToken_11 rfl rfl (by decide) ?_
  refine x_aload_n C dX7_readToken_12 rfl rfl ?_
  refine x_getfield C dX7_readToken_13 fX7_51 (x_ovg 0 rfl) rfl ?_
  refine x_aload_n C dX7_readToken_16 rfl rfl ?_
  refine x_getfield C dX7_readToken_17 fX7_25 (x_ovg 0 rfl) rfl ?_
  refine x_getfield C dX7_readToken_20 fX7_64 ((hpF _ rfl) 0 _ rfl) rfl ?_
  refine x_icmp_lt (tgt := 28) C dX7_readToken_23 (by decide) (fun c23 => ?_) (fun c23 => ?_)
  · have hx : s.1.1 < n := (nI_ltI (by omega) (by omega)).mp c23
    rw [if_pos hx]
    refine x_iload_n C dX7_readToken_28 rfl rfl ?_
    refine x_callS1 C dX7_readToken_29 kX7_47 (c_X7_isLetter hO) (by decide) ⟨Nat.zero_le _, Nat.zero_le _⟩ (Nat.le_of_ble_eq_true rfl) ?_
    rintro _ _ ⟨rfl, rfl⟩
    refine x_if_eq (tgt := 40) C dX7_readToken_32 (by decide) (fun c32 => ?_) (fun c32 => ?_)
    · have c32 := b_n c32
      refine x_iload_n C dX7_readToken_40 rfl rfl ?_
      refine x_callS1 C dX7_readToken_41 kX7_97 (c_X7_isDigit hO) (by decide) ⟨Nat.zero_le _, Nat.zero_le _⟩ (Nat.le_of_ble_eq_true rfl) ?_
      rintro _ _ ⟨rfl, rfl⟩
      refine x_if_eq (tgt := 54) C dX7_readToken_44 (by decide) (fun c44 => ?_) (fun c44 => ?_)
      · have c44 := b_n c44
        refine x_aload_n C dX7_readToken_54 rfl rfl ?_
        refine x_iload_n C dX7_readToken_55 rfl rfl ?_
        refine x_callV1 C dX7_readToken_56 kX7_103 (c_X7_readSymbol hO hn (hpF _ rfl) hd x_ov_bk hc hZ hsy hc9 hfx hx) (x_ovg 0 rfl) rfl (by decide) ⟨Nat.zero_le _, Nat.zero_le _⟩ (Nat.le_of_ble_eq_true rfl) ?_
        rintro _ _ ⟨rfl, rfl⟩
        refine x_to (x_ov_ov tk_len) ?_
        refine x_iret C E dX7_readToken_59 ?_
        unfold k_tok
        rw [if_neg (Nat.not_le.mpr hx), if_neg c32, if_neg c44]
        exact ⟨rfl, rfl⟩
      · have c44 := b_y c44
        refine x_aload_n C dX7_readToken_47 rfl rfl ?_
        refine x_callV0 C dX7_readToken_48 kX7_100 (c_X7_readNumber hO hn (hpF _ rfl) hd x_ov_bk hs) (x_ovg 0 rfl) rfl (by decide) ⟨Nat.zero_le _, Nat.zero_le _⟩ (Nat.le_of_ble_eq_true rfl) ?_
        rintro _ _ ⟨rfl, rfl⟩
        refine x_to (x_ov_ov tk_len) ?_
        refine x_goto (tgt := 59) C dX7_readToken_51 (by decide) ?_
        refine x_iret C E dX7_readToken_59 ?_
        unfold k_tok
        rw [if_neg (Nat.not_le.mpr hx), if_neg c32, if_pos c44]
        exact ⟨rfl, rfl⟩
    · have c32 := b_y c32
      refine x_aload_n C dX7_readToken_35 rfl rfl ?_
      refine x_callV0 C dX7_readToken_36 kX7_94 (c_X7_readWord hO hn (hpF _ rfl) hd x_ov_bk hs) (x_ovg 0 rfl) rfl (by decide) ⟨Nat.zero_le _, Nat.zero_le _⟩ (Nat.le_of_ble_eq_true rfl) ?_
      rintro _ _ ⟨rfl, rfl⟩
      refine x_to (x_ov_ov tk_len) ?_
      refine x_iret C E dX7_readToken_39 ?_
      unfold k_tok
      rw [if_neg (Nat.not_le.mpr hx), if_pos c32]
      exact ⟨rfl, rfl⟩
  · have hx : n ≤ s.1.1 := Nat.le_of_not_lt (fun q => c23 (nI_lt q (by omega)))
    refine x_iconst (v := 0) C dX7_readToken_26 (by decide) ?_
    refine x_iret C E dX7_readToken_27 ?_
    unfold k_tok
    rw [if_pos hx]
    exact ⟨rfl, rfl⟩
set_option maxHeartbeats 4000000 in
set_option maxRecDepth 100000 in
theorem c_X7_advanceT {l : Launch} {Y0 : x_Y} (hO : x_Ok Y0) {M : x_M} {t tp n : Nat} {f : Nat → Int32} {kw : Nat → Int64} {s : kS} {ix kd st : Int32} {vl : Int64} (hn : n ≤ 2000) (hp : x_bk M tp (tpT tp (nI n) f)) (hd : tp + 3 ≤ t ∨ t + 5 ≤ tp) (hb : x_bk M t (tkT t tp kw s ix kd st vl)) : x_C l Y0 yX7_advance cX7_advance 1 none 2 0 0 [.ref t] M (fun u M1 => u = none ∧ M1 = x_ov M t (tkT t tp kw s (ix + 1) (rgk 401 s.2.1 kd (ix + 1)) (rgk 401 s.2.2.1 st (ix + 1)) (rgk 401 s.2.2.2 vl (ix + 1)))) := by
  refine x_start hO (by decide +kernel) (Nat.le_of_ble_eq_true rfl) (fun K C E => ?_)
  have hpF : ∀ L : List x_E, L.length = 5 → x_bk (x_ov M t L) tp (tpT tp (nI n) f) := fun L h => x_ov_far 5 hp h hd
  refine x_to (x_ov_self hb).symm ?_
  refine x_aload_n C dX7_advance_0 rfl rfl ?_
  refine x_dup C dX7_advance_1 rfl ?_
  refine x_getfield C dX7_advance_2 fX7_75 (x_ovg 0 rfl) rfl ?_
  refine x_iconst (v := 1) C dX7_advance_5 (by decide) ?_
  refine x_iadd C dX7_advance_6 ?_
  refine x_putfield C dX7_advance_7 fX7_75 (x_ovg 0 rfl) rfl rfl (Nat.le_of_ble_eq_true rfl) ?_
  refine x_to (x_st_ov 0 (Nat.le_of_ble_eq_true rfl)) ?_
  refine x_aload_n C dX7_advance_10 rfl rfl ?_
  refine x_getfield C dX7_advance_11 fX7_75 (x_ovg 0 rfl) rfl ?_
  refine x_topi (ix + 1) rfl ?_
  refine x_if_lt (tgt := 92) C dX7_advance_14 (by decide) (fun c14 => ?_) (fun c14 => ?_)
  · have c14 : ix + 1 < 0 := c14
    refine x_vret C E dX7_advance_92 ?_
    have h9 : ix + 1 < 0 ∨ 401 ≤ (ix + 1).toNatClampNeg := Or.inl c14
    have e9 : rgk 401 s.2.1 kd (ix + 1) = kd := if_pos h9
    have e8 : rgk 401 s.2.2.1 st (ix + 1) = st := if_pos h9
    have e7 : rgk 401 s.2.2.2 vl (ix + 1) = vl := if_pos h9
    refine ⟨rfl, ?_⟩
    rw [e9, e8, e7]
    rfl
  · have c14 : ¬ ix + 1 < 0 := c14
    refine x_aload_n C dX7_advance_17 rfl rfl ?_
    refine x_getfield C dX7_advance_18 fX7_75 (x_ovg 0 rfl) rfl ?_
    refine x_topi (ix + 1) rfl ?_
    refine x_aload_n C dX7_advance_21 rfl rfl ?_
    refine x_getfield C dX7_advance_22 fX7_15 (x_ovg 0 rfl) rfl ?_
    refine x_alen C dX7_advance_25 (x_ovg 2 rfl) (by decide) ?_
    refine x_icmp_ge (tgt := 92) C dX7_advance_26 (by decide) (fun c26 => ?_) (fun c26 => ?_)
    · have c26 : Int32.ofNat 401 ≤ ix + 1 := c26
      refine x_vret C E dX7_advance_92 ?_
      have h9 : ix + 1 < 0 ∨ 401 ≤ (ix + 1).toNatClampNeg := Or.inr ((x_ge_len (n := 401) (by decide) c14).mp c26)
      have e9 : rgk 401 s.2.1 kd (ix + 1) = kd := if_pos h9
      have e8 : rgk 401 s.2.2.1 st (ix + 1) = st := if_pos h9
      have e7 : rgk 401 s.2.2.2 vl (ix + 1) = vl := if_pos h9
      refine ⟨rfl, ?_⟩
      rw [e9, e8, e7]
      rfl
    · have c26 : ¬ Int32.ofNat 401 ≤ ix + 1 := c26
      refine x_aload_n C dX7_advance_29 rfl rfl ?_
      refine x_getfield C dX7_advance_30 fX7_75 (x_ovg 0 rfl) rfl ?_
      refine x_topi (ix + 1) rfl ?_
      refine x_aload_n C dX7_advance_33 rfl rfl ?_
      refine x_getfield C dX7_advance_34 fX7_19 (x_ovg 0 rfl) rfl ?_
      refine x_alen C dX7_advance_37 (x_ovg 3 rfl) (by decide) ?_
      refine x_icmp_ge (tgt := 92) C dX7_advance_38 (by decide) (fun c38 => ?_) (fun c38 => ?_)
      · have c38 : Int32.ofNat 401 ≤ ix + 1 := c38
        exact absurd c38 c26
      · have c38 : ¬ Int32.ofNat 401 ≤ ix + 1 := c38
        refine x_aload_n C dX7_advance_41 rfl rfl ?_
        refine x_getfield C dX7_advance_42 fX7_75 (x_ovg 0 rfl) rfl ?_
        refine x_topi (ix + 1) rfl ?_
        refine x_aload_n C dX7_advance_45 rfl rfl ?_
        refine x_getfield C dX7_advance_46 fX7_22 (x_ovg 0 rfl) rfl ?_
        refine x_alen C dX7_advance_49 (x_ovg 4 rfl) (by decide) ?_
        refine x_icmp_ge (tgt := 92) C dX7_advance_50 (by decide) (fun c50 => ?_) (fun c50 => ?_)
        · have c50 : Int32.ofNat 401 ≤ ix + 1 := c50
          exact absurd c50 c26
        · have c50 : ¬ Int32.ofNat 401 ≤ ix + 1 := c50
          refine x_aload_n C dX7_advance_53 rfl rfl ?_
          refine x_aload_n C dX7_advance_54 rfl rfl ?_
          refine x_getfield C dX7_advance_55 fX7_15 (x_ovg 0 rfl) rfl ?_
          refine x_aload_n C dX7_advance_58 rfl rfl ?_
          refine x_getfield C dX7_advance_59 fX7_75 (x_ovg 0 rfl) rfl ?_
          refine x_topi (ix + 1) rfl ?_
          refine x_iaload C dX7_advance_62 (x_ovg 2 rfl) (rw_lt (n := 401) (by decide) c14 c26) ?_
          refine x_putfield C dX7_advance_63 fX7_81 (x_ovg 0 rfl) rfl rfl (Nat.le_of_ble_eq_true rfl) ?_
          refine x_to (x_st_ov 0 (Nat.le_of_ble_eq_true rfl)) ?_
          refine x_aload_n C dX7_advance_66 rfl rfl ?_
          refine x_aload_n C dX7_advance_67 rfl rfl ?_
          refine x_getfield C dX7_advance_68 fX7_19 (x_ovg 0 rfl) rfl ?_
          refine x_aload_n C dX7_advance_71 rfl rfl ?_
          refine x_getfield C dX7_advance_72 fX7_75 (x_ovg 0 rfl) rfl ?_
          refine x_topi (ix + 1) rfl ?_
          refine x_iaload C dX7_advance_75 (x_ovg 3 rfl) (rw_lt (n := 401) (by decide) c14 c26) ?_
          refine x_putfield C dX7_advance_76 fX7_84 (x_ovg 0 rfl) rfl rfl (Nat.le_of_ble_eq_true rfl) ?_
          refine x_to (x_st_ov 0 (Nat.le_of_ble_eq_true rfl)) ?_
          refine x_aload_n C dX7_advance_79 rfl rfl ?_
          refine x_aload_n C dX7_advance_80 rfl rfl ?_
          refine x_getfield C dX7_advance_81 fX7_22 (x_ovg 0 rfl) rfl ?_
          refine x_aload_n C dX7_advance_84 rfl rfl ?_
          refine x_getfield C dX7_advance_85 fX7_75 (x_ovg 0 rfl) rfl ?_
          refine x_topi (ix + 1) rfl ?_
          refine x_laload C dX7_advance_88 (x_ovg 4 rfl) (rw_lt (n := 401) (by decide) c14 c26) ?_
          refine x_putfield C dX7_advance_89 fX7_87 (x_ovg 0 rfl) rfl rfl (Nat.le_of_ble_eq_true rfl) ?_
          refine x_to (x_st_ov 0 (Nat.le_of_ble_eq_true rfl)) ?_
          refine x_vret C E dX7_advance_92 ?_
          have h9 := rw_lt (n := 401) (by decide) c14 c26
          have e9 : rgk 401 s.2.1 kd (ix + 1) = s.2.1 (ix + 1).toNatClampNeg := if_neg h9
          have e8 : rgk 401 s.2.2.1 st (ix + 1) = s.2.2.1 (ix + 1).toNatClampNeg := if_neg h9
          have e7 : rgk 401 s.2.2.2 vl (ix + 1) = s.2.2.2 (ix + 1).toNatClampNeg := if_neg h9
          refine ⟨rfl, ?_⟩
          rw [e9, e8, e7]
          rfl
theorem mX7_55 : Cond.methodLink RX7 55 Lib.Math.min.name ∈ lw_tbl := (x_t2 _ (List.mem_of_getElem? (i := 169) (by decide +kernel)))
set_option maxHeartbeats 4000000 in
set_option maxRecDepth 100000 in
theorem c_X7_readTape {l : Launch} {Y0 : x_Y} (hO : x_Ok Y0) {M : x_M} {t tp n : Nat} {f : Nat → Int32} {kw : Nat → Int64} {s : kS} {ix kd st : Int32} {vl : Int64} (hn : n ≤ 2000) (hp : x_bk M tp (tpT tp (nI n) f)) (hd : tp + 3 ≤ t ∨ t + 5 ≤ tp) (hb : x_bk M t (tkT t tp kw s ix kd st vl)) (hc : x_Stc Y0) {qs ts : Nat} (hZ : vk_R RX7 113 "()[];,+-*/<>=" qs Y0.1) (hsy : x_Str Y0 qs ts k_SYM) (hf : k_by f) : x_C l Y0 yX7_readTape cX7_readTape 4 none 7 0 0 [.ref t] M (fun u M1 => u = none ∧ M1 = x_ov M t (tkT t tp kw (k_lp f n kw 401 0 2 ((0, s.1.2), s.2)) 0 (rg 401 (k_lp f n kw 401 0 2 ((0, s.1.2), s.2)).2.1 0) (rg 401 (k_lp f n kw 401 0 2 ((0, s.1.2), s.2)).2.2.1 0) (rgL 401 (k_lp f n kw 401 0 2 ((0, s.1.2), s.2)).2.2.2 0))) := by
  refine x_start hO (by decide +kernel) (Nat.le_of_ble_eq_true rfl) (fun K C E => ?_)
  have hpF : ∀ L : List x_E, L.length = 5 → x_bk (x_ov M t L) tp (tpT tp (nI n) f) := fun L h => x_ov_far 5 hp h hd
  refine x_to (x_ov_self hb).symm ?_
  have j89 : ∀ (i : Nat) (s1 : kS) (r : Int32 × Nat × Int64), i < 401 → s1.1.1 ≤ n → r.2.1 ≤ n → r = k_nxt f n kw i s1 → (∀ z, z = nI (i + 1) → x_X K 4 0 0 31 [(0, .ref t), (1, .int (k_nxt f n kw i s1).1), (2, .int (nI 401)), (3, .int z)] [] (x_ov M t (tkT t tp kw (k_put f n i s1 (k_nxt f n kw i s1)) ix kd st vl))) → x_X K 4 0 0 89 [(0, .ref t), (1, .int r.1), (2, .int (nI 401)), (3, .int (nI i))] [] (x_ov M t (tkT t tp kw (r.2, s1.2.1, upd s1.2.2.1 i (nI (k_gap f n s1.1.1)), s1.2.2.2) ix kd st vl)) := by
      intro i s1 r hi hs1 hr he kk
      rw [he]
      refine x_aload_n C dX7_readTape_89 rfl rfl ?_
      refine x_getfield C dX7_readTape_90 fX7_15 (x_ovg 0 rfl) rfl ?_
      refine x_iload_n C dX7_readTape_93 rfl rfl ?_
      refine x_iload_n C dX7_readTape_94 rfl rfl ?_
      refine x_iastore C dX7_readTape_95 (x_ovg 2 rfl) (nI_in (show i < 401 by omega) (by decide)) ?_
      refine x_to (x_st_ov 2 (Nat.le_of_ble_eq_true rfl)) ?_
      rw [nI_clamp (show i < 2 ^ 31 by omega)]
      refine x_aload_n C dX7_readTape_96 rfl rfl ?_
      refine x_getfield C dX7_readTape_97 fX7_22 (x_ovg 0 rfl) rfl ?_
      refine x_iload_n C dX7_readTape_100 rfl rfl ?_
      refine x_aload_n C dX7_readTape_101 rfl rfl ?_
      refine x_getfield C dX7_readTape_102 fX7_71 (x_ovg 0 rfl) rfl ?_
      refine x_lastore C dX7_readTape_105 (x_ovg 4 rfl) (nI_in (show i < 401 by omega) (by decide)) ?_
      refine x_to (x_st_ov 4 (Nat.le_of_ble_eq_true rfl)) ?_
      rw [nI_clamp (show i < 2 ^ 31 by omega)]
      refine x_to (show _ = x_ov M t (tkT t tp kw (k_put f n i s1 (k_nxt f n kw i s1)) ix kd st vl) from rfl) ?_
      refine x_iinc (v := 1) C dX7_readTape_106 rfl (by decide) rfl (by decide) ?_
      refine x_goto (tgt := 31) C dX7_readTape_109 (by decide) ?_
      exact kk _ (nI_1 i)
  have lp : ∀ (w i : Nat) (z l9 : Int32) (s1 : kS), i + w = 401 → z = nI i → s1.1.1 ≤ n → k_lp f n kw 401 0 2 ((0, s.1.2), s.2) = k_lp f n kw w i l9 s1 → x_X K 4 0 0 31 [(0, .ref t), (1, .int l9), (2, .int (nI 401)), (3, .int z)] [] (x_ov M t (tkT t tp kw s1 ix kd st vl)) := by
    intro w
    induction w with
    | zero =>
      intro i z l9 s1 hi hz hs1 hq
      subst hz
      have e : i = 401 := by omega
      subst e
      refine x_iload_n C dX7_readTape_31 rfl rfl ?_
      refine x_iload_n C dX7_readTape_32 rfl rfl ?_
      refine x_icmp_ge (tgt := 112) C dX7_readTape_33 (by decide) (fun c33 => ?_) (fun c33 => absurd (show nI 401 ≤ nI 401 by decide) c33)
      refine x_aload_n C dX7_readTape_112 rfl rfl ?_
      refine x_iconst (v := (-1)) C dX7_readTape_113 (by decide) ?_
      refine x_putfield C dX7_readTape_114 fX7_75 (x_ovg 0 rfl) rfl rfl (Nat.le_of_ble_eq_true rfl) ?_
      refine x_to (x_st_ov 0 (Nat.le_of_ble_eq_true rfl)) ?_
      refine x_to (show _ = x_ov M t (tkT t tp kw s1 (-1) kd st vl) from rfl) ?_
      refine x_aload_n C dX7_readTape_117 rfl rfl ?_
      refine x_callV0 C dX7_readTape_118 kX7_78 (c_X7_advanceT hO hn (hpF _ rfl) hd x_ov_bk) (x_ovg 0 rfl) rfl (by decide) ⟨Nat.zero_le _, Nat.zero_le _⟩ (Nat.le_of_ble_eq_true rfl) ?_
      rintro _ _ ⟨rfl, rfl⟩
      refine x_to (x_ov_ov tk_len) ?_
      refine x_vret C E dX7_readTape_121 ?_
      have e9 : k_lp f n kw 401 0 2 ((0, s.1.2), s.2) = s1 := by rw [hq]; first | rfl | (simp only [k_lp]; done) | fail
      rw [e9]
      refine ⟨rfl, ?_⟩
      rw [← rgk_0 (f := s1.2.1) (x := kd), ← rgk_0 (f := s1.2.2.1) (x := st), ← rgk_0L (f := s1.2.2.2) (x := vl)]
      rfl
    | succ w ih =>
      intro i z l9 s1 hi hz hs1 hq
      subst hz
      have hi9 : i < 401 := by omega
      refine x_iload_n C dX7_readTape_31 rfl rfl ?_
      refine x_iload_n C dX7_readTape_32 rfl rfl ?_
      refine x_icmp_ge (tgt := 112) C dX7_readTape_33 (by decide) (fun c33 => absurd c33 (show ¬ nI 401 ≤ nI i from nI_ge (by omega) (by decide))) (fun c33 => ?_)
      refine x_iload_n C dX7_readTape_36 rfl rfl ?_
      refine x_if_eq (tgt := 112) C dX7_readTape_37 (by decide) (fun c37 => ?_) (fun c37 => ?_)
      · refine x_aload_n C dX7_readTape_112 rfl rfl ?_
        refine x_iconst (v := (-1)) C dX7_readTape_113 (by decide) ?_
        refine x_putfield C dX7_readTape_114 fX7_75 (x_ovg 0 rfl) rfl rfl (Nat.le_of_ble_eq_true rfl) ?_
        refine x_to (x_st_ov 0 (Nat.le_of_ble_eq_true rfl)) ?_
        refine x_to (show _ = x_ov M t (tkT t tp kw s1 (-1) kd st vl) from rfl) ?_
        refine x_aload_n C dX7_readTape_117 rfl rfl ?_
        refine x_callV0 C dX7_readTape_118 kX7_78 (c_X7_advanceT hO hn (hpF _ rfl) hd x_ov_bk) (x_ovg 0 rfl) rfl (by decide) ⟨Nat.zero_le _, Nat.zero_le _⟩ (Nat.le_of_ble_eq_true rfl) ?_
        rintro _ _ ⟨rfl, rfl⟩
        refine x_to (x_ov_ov tk_len) ?_
        refine x_vret C E dX7_readTape_121 ?_
        have e9 : k_lp f n kw 401 0 2 ((0, s.1.2), s.2) = s1 := by rw [hq]; first | rfl | (simp only [k_lp, if_pos c37]; done) | fail
        rw [e9]
        refine ⟨rfl, ?_⟩
        rw [← rgk_0 (f := s1.2.1) (x := kd), ← rgk_0 (f := s1.2.2.1) (x := st), ← rgk_0L (f := s1.2.2.2) (x := vl)]
        rfl
      · refine x_iload_n C dX7_readTape_40 rfl rfl ?_
        refine x_iconst (v := 1) C dX7_readTape_41 (by decide) ?_
        refine x_icmp_eq (tgt := 112) C dX7_readTape_42 (by decide) (fun c42 => ?_) (fun c42 => ?_)
        · refine x_aload_n C dX7_readTape_112 rfl rfl ?_
          refine x_iconst (v := (-1)) C dX7_readTape_113 (by decide) ?_
          refine x_putfield C dX7_readTape_114 fX7_75 (x_ovg 0 rfl) rfl rfl (Nat.le_of_ble_eq_true rfl) ?_
          refine x_to (x_st_ov 0 (Nat.le_of_ble_eq_true rfl)) ?_
          refine x_to (show _ = x_ov M t (tkT t tp kw s1 (-1) kd st vl) from rfl) ?_
          refine x_aload_n C dX7_readTape_117 rfl rfl ?_
          refine x_callV0 C dX7_readTape_118 kX7_78 (c_X7_advanceT hO hn (hpF _ rfl) hd x_ov_bk) (x_ovg 0 rfl) rfl (by decide) ⟨Nat.zero_le _, Nat.zero_le _⟩ (Nat.le_of_ble_eq_true rfl) ?_
          rintro _ _ ⟨rfl, rfl⟩
          refine x_to (x_ov_ov tk_len) ?_
          refine x_vret C E dX7_readTape_121 ?_
          have e9 : k_lp f n kw 401 0 2 ((0, s.1.2), s.2) = s1 := by rw [hq]; first | rfl | (simp only [k_lp, if_neg c37, if_pos c42]; done) | fail
          rw [e9]
          refine ⟨rfl, ?_⟩
          rw [← rgk_0 (f := s1.2.1) (x := kd), ← rgk_0 (f := s1.2.2.1) (x := st), ← rgk_0L (f := s1.2.2.2) (x := vl)]
          rfl
        · refine x_aload_n C dX7_readTape_45 rfl rfl ?_
          refine x_callV0 C dX7_readTape_46 kX7_61 (c_X7_skipGaps hO hn (hpF _ rfl) hd x_ov_bk hs1) (x_ovg 0 rfl) rfl (by decide) ⟨Nat.zero_le _, Nat.zero_le _⟩ (Nat.le_of_ble_eq_true rfl) ?_
          rintro _ _ ⟨rfl, rfl⟩
          refine x_to (x_ov_ov tk_len) ?_
          have hg9 := (k_gap_le (f := f) hs1).2
          refine x_aload_n C dX7_readTape_49 rfl rfl ?_
          refine x_getfield C dX7_readTape_50 fX7_19 (x_ovg 0 rfl) rfl ?_
          refine x_iload_n C dX7_readTape_53 rfl rfl ?_
          refine x_aload_n C dX7_readTape_54 rfl rfl ?_
          refine x_getfield C dX7_readTape_55 fX7_51 (x_ovg 0 rfl) rfl ?_
          refine x_iastore C dX7_readTape_58 (x_ovg 3 rfl) (nI_in (show i < 401 by omega) (by decide)) ?_
          refine x_to (x_st_ov 3 (Nat.le_of_ble_eq_true rfl)) ?_
          rw [nI_clamp (show i < 2 ^ 31 by omega)]
          refine x_to (show _ = x_ov M t (tkT t tp kw ((k_gap f n s1.1.1, s1.1.2), s1.2.1, upd s1.2.2.1 i (nI (k_gap f n s1.1.1)), s1.2.2.2) ix kd st vl) from rfl) ?_
          refine x_iload_n C dX7_readTape_59 rfl rfl ?_
          refine x_sipush (v := 400) C dX7_readTape_60 (by decide) ?_
          refine x_icmp_lt (tgt := 80) C dX7_readTape_63 (by decide) (fun c63 => ?_) (fun c63 => ?_)
          · have c63 : i < 400 := (nI_ltI (show i < 2 ^ 31 by omega) (show 400 < 2 ^ 31 by decide)).mp c63
            refine x_aload_n C dX7_readTape_80 rfl rfl ?_
            refine x_callV0 C dX7_readTape_81 kX7_68 (c_X7_readToken hO hn (hpF _ rfl) hd x_ov_bk hc hZ hsy hf hg9) (x_ovg 0 rfl) rfl (by decide) ⟨Nat.zero_le _, Nat.zero_le _⟩ (Nat.le_of_ble_eq_true rfl) ?_
            rintro _ _ ⟨rfl, rfl⟩
            refine x_to (x_ov_ov tk_len) ?_
            have hr9 := k_tok_le (f := f) (kw := kw) (v := s1.1.2) hg9
            refine x_goto (tgt := 88) C dX7_readTape_84 (by decide) ?_
            refine x_istore_n C dX7_readTape_88 rfl rfl (by decide) ?_
            exact j89 i s1 (k_tok f n kw (k_gap f n s1.1.1) s1.1.2) hi9 hs1 hr9 (by unfold k_nxt; rw [if_pos c63]) (fun z hz => ih (i + 1) z _ _ (by omega) hz (k_nxt_le hs1) (by rw [hq]; simp only [k_lp, if_neg c37, if_neg c42]))
          · have c63 : ¬ i < 400 := fun q => c63 (nI_lt q (by decide))
            refine x_aload_n C dX7_readTape_66 rfl rfl ?_
            refine x_getfield C dX7_readTape_67 fX7_51 (x_ovg 0 rfl) rfl ?_
            refine x_aload_n C dX7_readTape_70 rfl rfl ?_
            refine x_getfield C dX7_readTape_71 fX7_25 (x_ovg 0 rfl) rfl ?_
            refine x_getfield C dX7_readTape_74 fX7_64 ((hpF _ rfl) 0 _ rfl) rfl ?_
            refine x_icmp_lt (tgt := 87) C dX7_readTape_77 (by decide) (fun c77 => ?_) (fun c77 => ?_)
            · have h77 : k_gap f n s1.1.1 < n := (nI_ltI (by omega) (by omega)).mp c77
              refine x_iconst (v := 1) C dX7_readTape_87 (by decide) ?_
              refine x_istore_n C dX7_readTape_88 rfl rfl (by decide) ?_
              exact j89 i s1 (1, k_gap f n s1.1.1, s1.1.2) hi9 hs1 hg9 (by unfold k_nxt; rw [if_neg c63, if_pos h77]) (fun z hz => ih (i + 1) z _ _ (by omega) hz (k_nxt_le hs1) (by rw [hq]; simp only [k_lp, if_neg c37, if_neg c42]))
            · have h77 : ¬ k_gap f n s1.1.1 < n := fun q => c77 (nI_lt q (by omega))
              refine x_aload_n C dX7_readTape_80 rfl rfl ?_
              refine x_callV0 C dX7_readTape_81 kX7_68 (c_X7_readToken hO hn (hpF _ rfl) hd x_ov_bk hc hZ hsy hf hg9) (x_ovg 0 rfl) rfl (by decide) ⟨Nat.zero_le _, Nat.zero_le _⟩ (Nat.le_of_ble_eq_true rfl) ?_
              rintro _ _ ⟨rfl, rfl⟩
              refine x_to (x_ov_ov tk_len) ?_
              have hr9 := k_tok_le (f := f) (kw := kw) (v := s1.1.2) hg9
              refine x_goto (tgt := 88) C dX7_readTape_84 (by decide) ?_
              refine x_istore_n C dX7_readTape_88 rfl rfl (by decide) ?_
              exact j89 i s1 (k_tok f n kw (k_gap f n s1.1.1) s1.1.2) hi9 hs1 hr9 (by unfold k_nxt; rw [if_neg c63, if_neg h77]) (fun z hz => ih (i + 1) z _ _ (by omega) hz (k_nxt_le hs1) (by rw [hq]; simp only [k_lp, if_neg c37, if_neg c42]))
  refine x_aload_n C dX7_readTape_0 rfl rfl ?_
  refine x_iconst (v := 0) C dX7_readTape_1 (by decide) ?_
  refine x_putfield C dX7_readTape_2 fX7_51 (x_ovg 0 rfl) rfl rfl (Nat.le_of_ble_eq_true rfl) ?_
  refine x_to (x_st_ov 0 (Nat.le_of_ble_eq_true rfl)) ?_
  refine x_to (show _ = x_ov M t (tkT t tp kw ((0, s.1.2), s.2) ix kd st vl) from rfl) ?_
  refine x_iconst (v := 2) C dX7_readTape_5 (by decide) ?_
  refine x_istore_n C dX7_readTape_6 rfl rfl (by decide) ?_
  refine x_aload_n C dX7_readTape_7 rfl rfl ?_
  refine x_getfield C dX7_readTape_8 fX7_15 (x_ovg 0 rfl) rfl ?_
  refine x_alen C dX7_readTape_11 (x_ovg 2 rfl) (by decide) ?_
  refine x_aload_n C dX7_readTape_12 rfl rfl ?_
  refine x_getfield C dX7_readTape_13 fX7_19 (x_ovg 0 rfl) rfl ?_
  refine x_alen C dX7_readTape_16 (x_ovg 3 rfl) (by decide) ?_
  refine x_aload_n C dX7_readTape_17 rfl rfl ?_
  refine x_getfield C dX7_readTape_18 fX7_22 (x_ovg 0 rfl) rfl ?_
  refine x_alen C dX7_readTape_21 (x_ovg 4 rfl) (by decide) ?_
  refine x_mmin C dX7_readTape_22 mX7_55 (by decide) ⟨Nat.zero_le _, Nat.zero_le _⟩ (Nat.le_of_ble_eq_true rfl) ?_
  refine x_mmin C dX7_readTape_25 mX7_55 (by decide) ⟨Nat.zero_le _, Nat.zero_le _⟩ (Nat.le_of_ble_eq_true rfl) ?_
  refine x_istore_n C dX7_readTape_28 rfl rfl (by decide) ?_
  refine x_iconst (v := 0) C dX7_readTape_29 (by decide) ?_
  refine x_istore_n C dX7_readTape_30 rfl rfl (by decide) ?_
  exact lp 401 0 0 2 _ (by omega) rfl (Nat.zero_le _) rfl
