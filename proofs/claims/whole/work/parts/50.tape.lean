set_option maxHeartbeats 4000000 in
set_option maxRecDepth 100000 in
theorem c_X7_readSymbol {l : Launch} {Y0 : x_Y} (hO : x_Ok Y0) {M : x_M} {t tp n : Nat} {f : Nat → Int32} {kw : Nat → Int64} {s : kS} {ix kd st : Int32} {vl : Int64} (hn : n ≤ 2000) (hp : x_bk M tp (tpT tp (nI n) f)) (hd : tp + 3 ≤ t ∨ t + 7 ≤ tp) (hb : x_bk M t (tkT t tp kw s ix kd st vl)) (hc : x_Stc Y0) {qs ts : Nat} (hZ : vk_R RX7 119 "()[];,+-*/<>=" qs Y0.1) (hsy : x_Str Y0 qs ts k_SYM) {c : Nat} (hc9 : c < 256) (hfx : f s.1.1 = nI c) (hx : s.1.1 < n) : x_C l Y0 yX7_readSymbol cX7_readSymbol 2 (some .int) 5 0 0 [.ref t, .int (f s.1.1)] M (fun u M1 => u = some (.int (k_tS f n s.1.1 s.1.2).1) ∧ M1 = x_ov M t (tkT t tp kw ((k_tS f n s.1.1 s.1.2).2, s.2) ix kd st vl)) := by
  refine x_start hO (by decide +kernel) (Nat.le_of_ble_eq_true rfl) (fun K C E => ?_)
  have hpF : ∀ L : List x_E, L.length = 7 → x_bk (x_ov M t L) tp (tpT tp (nI n) f) := fun L h => x_ov_far 7 hp h hd
  refine x_to (x_ov_self hb).symm ?_
  refine x_aload_n C dX7_readSymbol_0 rfl rfl ?_
  refine x_dup C dX7_readSymbol_1 rfl ?_
  refine x_getfield C dX7_readSymbol_2 fX7_56 (x_ovg 0 rfl) rfl ?_
  refine x_iconst (v := 1) C dX7_readSymbol_5 (by decide) ?_
  refine x_iadd C dX7_readSymbol_6 ?_
  rw [nI_1 s.1.1]
  refine x_putfield C dX7_readSymbol_7 fX7_56 (x_ovg 0 rfl) rfl rfl (Nat.le_of_ble_eq_true rfl) ?_
  refine x_to (x_st_ov 0 (Nat.le_of_ble_eq_true rfl)) ?_
  refine x_to (show _ = x_ov M t (tkT t tp kw ((s.1.1 + 1, s.1.2), s.2) ix kd st vl) from rfl) ?_
  refine x_iload_n C dX7_readSymbol_10 rfl rfl ?_
  refine x_bipush (v := 60) C dX7_readSymbol_11 (by decide) ?_
  refine x_icmp_eq (tgt := 22) C dX7_readSymbol_13 (by decide) (fun c13 => ?_) (fun c13 => ?_)
  · refine x_aload_n C dX7_readSymbol_22 rfl rfl ?_
    refine x_getfield C dX7_readSymbol_23 fX7_30 (x_ovg 0 rfl) rfl ?_
    refine x_aload_n C dX7_readSymbol_26 rfl rfl ?_
    refine x_getfield C dX7_readSymbol_27 fX7_56 (x_ovg 0 rfl) rfl ?_
    refine x_callV1 C dX7_readSymbol_30 kX7_97 (c_X5_at (i := s.1.1 + 1) hO (hpF _ rfl) hn (by omega)) ((hpF _ rfl) 0 _ rfl) rfl (by decide) ⟨Nat.zero_le _, Nat.zero_le _⟩ (Nat.le_of_ble_eq_true rfl) ?_
    rintro _ _ ⟨rfl, rfl⟩
    refine x_topi (k_at f n (s.1.1 + 1)) rfl ?_
    refine x_bipush (v := 61) C dX7_readSymbol_33 (by decide) ?_
    refine x_icmp_ne (tgt := 64) C dX7_readSymbol_35 (by decide) (fun c35 => ?_) (fun c35 => ?_)
    · refine x_ldcS C dX7_readSymbol_64 hZ ?_
      refine x_iload_n C dX7_readSymbol_66 rfl rfl ?_
      refine x_i2c C dX7_readSymbol_67 ?_
      refine x_topi (nI c) (by rw [hfx]; exact s_c16 c hc9) ?_
      refine x_callT (As := [_]) C dX7_readSymbol_68 kX7_121 (c_J0_indexOf hO hc hsy k_SYMa hc9 (by decide)) hsy.1 rfl rfl rfl (by decide) ⟨Nat.zero_le _, Nat.zero_le _⟩ (Nat.le_of_ble_eq_true rfl) ?_
      rintro _ _ ⟨rfl, rfl⟩
      refine x_if_lt (tgt := 78) C dX7_readSymbol_71 (by decide) (fun c71 => ?_) (fun c71 => ?_)
      · refine x_iconst (v := 1) C dX7_readSymbol_78 (by decide) ?_
        refine x_iret C E dX7_readSymbol_79 ?_
        have hk1 : k_sy1 (f s.1.1) = 1 := by
          unfold k_sy1
          rw [hfx, nI_clamp (show c < 2 ^ 31 by omega), if_pos c71]
        refine ⟨?_, ?_⟩
        · first | (simp only [k_tS, if_pos c13, if_neg c35, hk1]; done) | (simp only [k_tS, if_pos c13, if_neg c35, hk1]; rfl) | fail
        · first | (simp only [k_tS, if_pos c13, if_neg c35, hk1]; done) | (simp only [k_tS, if_pos c13, if_neg c35, hk1]; rfl) | fail
      · refine x_iload_n C dX7_readSymbol_74 rfl rfl ?_
        refine x_goto (tgt := 79) C dX7_readSymbol_75 (by decide) ?_
        refine x_iret C E dX7_readSymbol_79 ?_
        have hk1 : k_sy1 (f s.1.1) = f s.1.1 := by
          unfold k_sy1
          rw [hfx, nI_clamp (show c < 2 ^ 31 by omega), if_neg c71]
        refine ⟨?_, ?_⟩
        · first | (simp only [k_tS, if_pos c13, if_neg c35, hk1]; done) | (simp only [k_tS, if_pos c13, if_neg c35, hk1]; rfl) | fail
        · first | (simp only [k_tS, if_pos c13, if_neg c35, hk1]; done) | (simp only [k_tS, if_pos c13, if_neg c35, hk1]; rfl) | fail
    · refine x_aload_n C dX7_readSymbol_38 rfl rfl ?_
      refine x_dup C dX7_readSymbol_39 rfl ?_
      refine x_getfield C dX7_readSymbol_40 fX7_56 (x_ovg 0 rfl) rfl ?_
      refine x_iconst (v := 1) C dX7_readSymbol_43 (by decide) ?_
      refine x_iadd C dX7_readSymbol_44 ?_
      rw [nI_1 (s.1.1 + 1)]
      refine x_putfield C dX7_readSymbol_45 fX7_56 (x_ovg 0 rfl) rfl rfl (Nat.le_of_ble_eq_true rfl) ?_
      refine x_to (x_st_ov 0 (Nat.le_of_ble_eq_true rfl)) ?_
      refine x_to (show _ = x_ov M t (tkT t tp kw ((s.1.1 + 1 + 1, s.1.2), s.2) ix kd st vl) from rfl) ?_
      refine x_iload_n C dX7_readSymbol_48 rfl rfl ?_
      refine x_bipush (v := 60) C dX7_readSymbol_49 (by decide) ?_
      refine x_icmp_ne (tgt := 60) C dX7_readSymbol_51 (by decide) (fun c51 => ?_) (fun c51 => ?_)
      · exact absurd c13 c51
      · refine x_sipush (v := 188) C dX7_readSymbol_54 (by decide) ?_
        refine x_goto (tgt := 63) C dX7_readSymbol_57 (by decide) ?_
        refine x_iret C E dX7_readSymbol_63 ?_
        refine ⟨?_, ?_⟩
        · first | (simp only [k_tS, if_pos c13, if_pos c35, if_pos c51]; done) | (simp only [k_tS, if_pos c13, if_pos c35, if_pos c51]; rfl) | fail
        · first | (simp only [k_tS, if_pos c13, if_pos c35, if_pos c51]; done) | (simp only [k_tS, if_pos c13, if_pos c35, if_pos c51]; rfl) | fail
  · refine x_iload_n C dX7_readSymbol_16 rfl rfl ?_
    refine x_bipush (v := 62) C dX7_readSymbol_17 (by decide) ?_
    refine x_icmp_ne (tgt := 64) C dX7_readSymbol_19 (by decide) (fun c19 => ?_) (fun c19 => ?_)
    · refine x_ldcS C dX7_readSymbol_64 hZ ?_
      refine x_iload_n C dX7_readSymbol_66 rfl rfl ?_
      refine x_i2c C dX7_readSymbol_67 ?_
      refine x_topi (nI c) (by rw [hfx]; exact s_c16 c hc9) ?_
      refine x_callT (As := [_]) C dX7_readSymbol_68 kX7_121 (c_J0_indexOf hO hc hsy k_SYMa hc9 (by decide)) hsy.1 rfl rfl rfl (by decide) ⟨Nat.zero_le _, Nat.zero_le _⟩ (Nat.le_of_ble_eq_true rfl) ?_
      rintro _ _ ⟨rfl, rfl⟩
      refine x_if_lt (tgt := 78) C dX7_readSymbol_71 (by decide) (fun c71 => ?_) (fun c71 => ?_)
      · refine x_iconst (v := 1) C dX7_readSymbol_78 (by decide) ?_
        refine x_iret C E dX7_readSymbol_79 ?_
        have hk1 : k_sy1 (f s.1.1) = 1 := by
          unfold k_sy1
          rw [hfx, nI_clamp (show c < 2 ^ 31 by omega), if_pos c71]
        refine ⟨?_, ?_⟩
        · first | (simp only [k_tS, if_neg c13, if_neg c19, hk1]; done) | (simp only [k_tS, if_neg c13, if_neg c19, hk1]; rfl) | fail
        · first | (simp only [k_tS, if_neg c13, if_neg c19, hk1]; done) | (simp only [k_tS, if_neg c13, if_neg c19, hk1]; rfl) | fail
      · refine x_iload_n C dX7_readSymbol_74 rfl rfl ?_
        refine x_goto (tgt := 79) C dX7_readSymbol_75 (by decide) ?_
        refine x_iret C E dX7_readSymbol_79 ?_
        have hk1 : k_sy1 (f s.1.1) = f s.1.1 := by
          unfold k_sy1
          rw [hfx, nI_clamp (show c < 2 ^ 31 by omega), if_neg c71]
        refine ⟨?_, ?_⟩
        · first | (simp only [k_tS, if_neg c13, if_neg c19, hk1]; done) | (simp only [k_tS, if_neg c13, if_neg c19, hk1]; rfl) | fail
        · first | (simp only [k_tS, if_neg c13, if_neg c19, hk1]; done) | (simp only [k_tS, if_neg c13, if_neg c19, hk1]; rfl) | fail
    · refine x_aload_n C dX7_readSymbol_22 rfl rfl ?_
      refine x_getfield C dX7_readSymbol_23 fX7_30 (x_ovg 0 rfl) rfl ?_
      refine x_aload_n C dX7_readSymbol_26 rfl rfl ?_
      refine x_getfield C dX7_readSymbol_27 fX7_56 (x_ovg 0 rfl) rfl ?_
      refine x_callV1 C dX7_readSymbol_30 kX7_97 (c_X5_at (i := s.1.1 + 1) hO (hpF _ rfl) hn (by omega)) ((hpF _ rfl) 0 _ rfl) rfl (by decide) ⟨Nat.zero_le _, Nat.zero_le _⟩ (Nat.le_of_ble_eq_true rfl) ?_
      rintro _ _ ⟨rfl, rfl⟩
      refine x_topi (k_at f n (s.1.1 + 1)) rfl ?_
      refine x_bipush (v := 61) C dX7_readSymbol_33 (by decide) ?_
      refine x_icmp_ne (tgt := 64) C dX7_readSymbol_35 (by decide) (fun c35 => ?_) (fun c35 => ?_)
      · refine x_ldcS C dX7_readSymbol_64 hZ ?_
        refine x_iload_n C dX7_readSymbol_66 rfl rfl ?_
        refine x_i2c C dX7_readSymbol_67 ?_
        refine x_topi (nI c) (by rw [hfx]; exact s_c16 c hc9) ?_
        refine x_callT (As := [_]) C dX7_readSymbol_68 kX7_121 (c_J0_indexOf hO hc hsy k_SYMa hc9 (by decide)) hsy.1 rfl rfl rfl (by decide) ⟨Nat.zero_le _, Nat.zero_le _⟩ (Nat.le_of_ble_eq_true rfl) ?_
        rintro _ _ ⟨rfl, rfl⟩
        refine x_if_lt (tgt := 78) C dX7_readSymbol_71 (by decide) (fun c71 => ?_) (fun c71 => ?_)
        · refine x_iconst (v := 1) C dX7_readSymbol_78 (by decide) ?_
          refine x_iret C E dX7_readSymbol_79 ?_
          have hk1 : k_sy1 (f s.1.1) = 1 := by
            unfold k_sy1
            rw [hfx, nI_clamp (show c < 2 ^ 31 by omega), if_pos c71]
          refine ⟨?_, ?_⟩
          · first | (simp only [k_tS, if_neg c13, if_pos c19, if_neg c35, hk1]; done) | (simp only [k_tS, if_neg c13, if_pos c19, if_neg c35, hk1]; rfl) | fail
          · first | (simp only [k_tS, if_neg c13, if_pos c19, if_neg c35, hk1]; done) | (simp only [k_tS, if_neg c13, if_pos c19, if_neg c35, hk1]; rfl) | fail
        · refine x_iload_n C dX7_readSymbol_74 rfl rfl ?_
          refine x_goto (tgt := 79) C dX7_readSymbol_75 (by decide) ?_
          refine x_iret C E dX7_readSymbol_79 ?_
          have hk1 : k_sy1 (f s.1.1) = f s.1.1 := by
            unfold k_sy1
            rw [hfx, nI_clamp (show c < 2 ^ 31 by omega), if_neg c71]
          refine ⟨?_, ?_⟩
          · first | (simp only [k_tS, if_neg c13, if_pos c19, if_neg c35, hk1]; done) | (simp only [k_tS, if_neg c13, if_pos c19, if_neg c35, hk1]; rfl) | fail
          · first | (simp only [k_tS, if_neg c13, if_pos c19, if_neg c35, hk1]; done) | (simp only [k_tS, if_neg c13, if_pos c19, if_neg c35, hk1]; rfl) | fail
      · refine x_aload_n C dX7_readSymbol_38 rfl rfl ?_
        refine x_dup C dX7_readSymbol_39 rfl ?_
        refine x_getfield C dX7_readSymbol_40 fX7_56 (x_ovg 0 rfl) rfl ?_
        refine x_iconst (v := 1) C dX7_readSymbol_43 (by decide) ?_
        refine x_iadd C dX7_readSymbol_44 ?_
        rw [nI_1 (s.1.1 + 1)]
        refine x_putfield C dX7_readSymbol_45 fX7_56 (x_ovg 0 rfl) rfl rfl (Nat.le_of_ble_eq_true rfl) ?_
        refine x_to (x_st_ov 0 (Nat.le_of_ble_eq_true rfl)) ?_
        refine x_to (show _ = x_ov M t (tkT t tp kw ((s.1.1 + 1 + 1, s.1.2), s.2) ix kd st vl) from rfl) ?_
        refine x_iload_n C dX7_readSymbol_48 rfl rfl ?_
        refine x_bipush (v := 60) C dX7_readSymbol_49 (by decide) ?_
        refine x_icmp_ne (tgt := 60) C dX7_readSymbol_51 (by decide) (fun c51 => ?_) (fun c51 => ?_)
        · refine x_sipush (v := 190) C dX7_readSymbol_60 (by decide) ?_
          refine x_iret C E dX7_readSymbol_63 ?_
          refine ⟨?_, ?_⟩
          · first | (simp only [k_tS, if_neg c13, if_pos c19, if_pos c35, if_neg c51]; done) | (simp only [k_tS, if_neg c13, if_pos c19, if_pos c35, if_neg c51]; rfl) | fail
          · first | (simp only [k_tS, if_neg c13, if_pos c19, if_pos c35, if_neg c51]; done) | (simp only [k_tS, if_neg c13, if_pos c19, if_pos c35, if_neg c51]; rfl) | fail
        · exact absurd c51 c13
set_option maxHeartbeats 4000000 in
set_option maxRecDepth 100000 in
theorem c_X7_readToken {l : Launch} {Y0 : x_Y} (hO : x_Ok Y0) {M : x_M} {t tp n : Nat} {f : Nat → Int32} {kw : Nat → Int64} {s : kS} {ix kd st : Int32} {vl : Int64} (hn : n ≤ 2000) (hp : x_bk M tp (tpT tp (nI n) f)) (hd : tp + 3 ≤ t ∨ t + 7 ≤ tp) (hb : x_bk M t (tkT t tp kw s ix kd st vl)) (hc : x_Stc Y0) {qs ts : Nat} (hZ : vk_R RX7 119 "()[];,+-*/<>=" qs Y0.1) (hsy : x_Str Y0 qs ts k_SYM) (hf : k_by f) (hs : s.1.1 ≤ n) : x_C l Y0 yX7_readToken cX7_readToken 2 (some .int) 6 0 0 [.ref t] M (fun u M1 => u = some (.int (k_tok f n kw s.1.1 s.1.2).1) ∧ M1 = x_ov M t (tkT t tp kw ((k_tok f n kw s.1.1 s.1.2).2, s.2) ix kd st vl)) := by
  refine x_start hO (by decide +kernel) (Nat.le_of_ble_eq_true rfl) (fun K C E => ?_)
  have hpF : ∀ L : List x_E, L.length = 7 → x_bk (x_ov M t L) tp (tpT tp (nI n) f) := fun L h => x_ov_far 7 hp h hd
  refine x_to (x_ov_self hb).symm ?_
  obtain ⟨c, hc9, hfx⟩ := hf s.1.1
  refine x_aload_n C dX7_readToken_0 rfl rfl ?_
  refine x_getfield C dX7_readToken_1 fX7_30 (x_ovg 0 rfl) rfl ?_
  refine x_aload_n C dX7_readToken_4 rfl rfl ?_
  refine x_getfield C dX7_readToken_5 fX7_56 (x_ovg 0 rfl) rfl ?_
  refine x_callV1 C dX7_readToken_8 kX7_97 (c_X5_at (i := s.1.1) hO (hpF _ rfl) hn (by omega)) ((hpF _ rfl) 0 _ rfl) rfl (by decide) ⟨Nat.zero_le _, Nat.zero_le _⟩ (Nat.le_of_ble_eq_true rfl) ?_
  rintro _ _ ⟨rfl, rfl⟩
  refine x_istore_n C dX7_readToken_11 rfl rfl (by decide) ?_
  refine x_aload_n C dX7_readToken_12 rfl rfl ?_
  refine x_getfield C dX7_readToken_13 fX7_56 (x_ovg 0 rfl) rfl ?_
  refine x_aload_n C dX7_readToken_16 rfl rfl ?_
  refine x_getfield C dX7_readToken_17 fX7_30 (x_ovg 0 rfl) rfl ?_
  refine x_getfield C dX7_readToken_20 fX7_67 ((hpF _ rfl) 0 _ rfl) rfl ?_
  refine x_icmp_lt (tgt := 28) C dX7_readToken_23 (by decide) (fun c23 => ?_) (fun c23 => ?_)
  · have hx : s.1.1 < n := (nI_ltI (by omega) (by omega)).mp c23
    rw [if_pos hx]
    refine x_iload_n C dX7_readToken_28 rfl rfl ?_
    refine x_callS1 C dX7_readToken_29 kX7_52 (c_X7_isLetter hO) (by decide) ⟨Nat.zero_le _, Nat.zero_le _⟩ (Nat.le_of_ble_eq_true rfl) ?_
    rintro _ _ ⟨rfl, rfl⟩
    refine x_if_eq (tgt := 40) C dX7_readToken_32 (by decide) (fun c32 => ?_) (fun c32 => ?_)
    · have c32 := b_n c32
      refine x_iload_n C dX7_readToken_40 rfl rfl ?_
      refine x_callS1 C dX7_readToken_41 kX7_103 (c_X7_isDigit hO) (by decide) ⟨Nat.zero_le _, Nat.zero_le _⟩ (Nat.le_of_ble_eq_true rfl) ?_
      rintro _ _ ⟨rfl, rfl⟩
      refine x_if_eq (tgt := 54) C dX7_readToken_44 (by decide) (fun c44 => ?_) (fun c44 => ?_)
      · have c44 := b_n c44
        refine x_aload_n C dX7_readToken_54 rfl rfl ?_
        refine x_iload_n C dX7_readToken_55 rfl rfl ?_
        refine x_callV1 C dX7_readToken_56 kX7_109 (c_X7_readSymbol hO hn (hpF _ rfl) hd x_ov_bk hc hZ hsy hc9 hfx hx) (x_ovg 0 rfl) rfl (by decide) ⟨Nat.zero_le _, Nat.zero_le _⟩ (Nat.le_of_ble_eq_true rfl) ?_
        rintro _ _ ⟨rfl, rfl⟩
        refine x_to (x_ov_ov tk_len) ?_
        refine x_iret C E dX7_readToken_59 ?_
        unfold k_tok
        rw [if_neg (Nat.not_le.mpr hx), if_neg c32, if_neg c44]
        exact ⟨rfl, rfl⟩
      · have c44 := b_y c44
        refine x_aload_n C dX7_readToken_47 rfl rfl ?_
        refine x_callV0 C dX7_readToken_48 kX7_106 (c_X7_readNumber hO hn (hpF _ rfl) hd x_ov_bk hs) (x_ovg 0 rfl) rfl (by decide) ⟨Nat.zero_le _, Nat.zero_le _⟩ (Nat.le_of_ble_eq_true rfl) ?_
        rintro _ _ ⟨rfl, rfl⟩
        refine x_to (x_ov_ov tk_len) ?_
        refine x_goto (tgt := 59) C dX7_readToken_51 (by decide) ?_
        refine x_iret C E dX7_readToken_59 ?_
        unfold k_tok
        rw [if_neg (Nat.not_le.mpr hx), if_neg c32, if_pos c44]
        exact ⟨rfl, rfl⟩
    · have c32 := b_y c32
      refine x_aload_n C dX7_readToken_35 rfl rfl ?_
      refine x_callV0 C dX7_readToken_36 kX7_100 (c_X7_readWord hO hn (hpF _ rfl) hd x_ov_bk hs) (x_ovg 0 rfl) rfl (by decide) ⟨Nat.zero_le _, Nat.zero_le _⟩ (Nat.le_of_ble_eq_true rfl) ?_
      rintro _ _ ⟨rfl, rfl⟩
      refine x_to (x_ov_ov tk_len) ?_
      refine x_iret C E dX7_readToken_39 ?_
      unfold k_tok
      rw [if_neg (Nat.not_le.mpr hx), if_pos c32]
      exact ⟨rfl, rfl⟩
  · have hx : n ≤ s.1.1 := Nat.le_of_not_lt (fun q => c23 (nI_lt q (by omega)))
    refine x_iconst (v := 0) C dX7_readToken_26 (by decide) ?_
    refine x_iret C E dX7_readToken_27 ?_
    unfold k_tok
    rw [if_pos hx]
    exact ⟨rfl, rfl⟩
set_option maxHeartbeats 4000000 in
set_option maxRecDepth 100000 in
theorem c_X7_advanceT {l : Launch} {Y0 : x_Y} (hO : x_Ok Y0) {M : x_M} {t tp n : Nat} {f : Nat → Int32} {kw : Nat → Int64} {s : kS} {ix kd st : Int32} {vl : Int64} (hn : n ≤ 2000) (hp : x_bk M tp (tpT tp (nI n) f)) (hd : tp + 3 ≤ t ∨ t + 7 ≤ tp) (hb : x_bk M t (tkT t tp kw s ix kd st vl)) : x_C l Y0 yX7_advance cX7_advance 1 none 2 0 0 [.ref t] M (fun u M1 => u = none ∧ M1 = x_ov M t (tkT t tp kw s (ix + 1) (rg 401 s.2.1 (ix + 1)) (rg 401 s.2.2.1 (ix + 1)) (rgL 401 s.2.2.2 (ix + 1)))) := by
  refine x_start hO (by decide +kernel) (Nat.le_of_ble_eq_true rfl) (fun K C E => ?_)
  have hpF : ∀ L : List x_E, L.length = 7 → x_bk (x_ov M t L) tp (tpT tp (nI n) f) := fun L h => x_ov_far 7 hp h hd
  refine x_to (x_ov_self hb).symm ?_
  refine x_aload_n C dX7_advance_0 rfl rfl ?_
  refine x_dup C dX7_advance_1 rfl ?_
  refine x_getfield C dX7_advance_2 fX7_78 (x_ovg 0 rfl) rfl ?_
  refine x_iconst (v := 1) C dX7_advance_5 (by decide) ?_
  refine x_iadd C dX7_advance_6 ?_
  refine x_putfield C dX7_advance_7 fX7_78 (x_ovg 0 rfl) rfl rfl (Nat.le_of_ble_eq_true rfl) ?_
  refine x_to (x_st_ov 0 (Nat.le_of_ble_eq_true rfl)) ?_
  refine x_aload_n C dX7_advance_10 rfl rfl ?_
  refine x_aload_n C dX7_advance_11 rfl rfl ?_
  refine x_getfield C dX7_advance_12 fX7_20 (x_ovg 0 rfl) rfl ?_
  refine x_aload_n C dX7_advance_15 rfl rfl ?_
  refine x_getfield C dX7_advance_16 fX7_78 (x_ovg 0 rfl) rfl ?_
  refine x_callV1 C dX7_advance_19 kX7_84 (c_X4_get hO (by decide) (x_bk_sub x_ov_bk 2 rfl)) (x_ovg 2 rfl) rfl (by decide) ⟨Nat.zero_le _, Nat.zero_le _⟩ (Nat.le_of_ble_eq_true rfl) ?_
  rintro _ _ ⟨rfl, rfl⟩
  refine x_putfield C dX7_advance_22 fX7_88 (x_ovg 0 rfl) rfl rfl (Nat.le_of_ble_eq_true rfl) ?_
  refine x_to (x_st_ov 0 (Nat.le_of_ble_eq_true rfl)) ?_
  refine x_aload_n C dX7_advance_25 rfl rfl ?_
  refine x_aload_n C dX7_advance_26 rfl rfl ?_
  refine x_getfield C dX7_advance_27 fX7_24 (x_ovg 0 rfl) rfl ?_
  refine x_aload_n C dX7_advance_30 rfl rfl ?_
  refine x_getfield C dX7_advance_31 fX7_78 (x_ovg 0 rfl) rfl ?_
  refine x_callV1 C dX7_advance_34 kX7_84 (c_X4_get hO (by decide) (x_bk_sub x_ov_bk 4 rfl)) (x_ovg 4 rfl) rfl (by decide) ⟨Nat.zero_le _, Nat.zero_le _⟩ (Nat.le_of_ble_eq_true rfl) ?_
  rintro _ _ ⟨rfl, rfl⟩
  refine x_putfield C dX7_advance_37 fX7_91 (x_ovg 0 rfl) rfl rfl (Nat.le_of_ble_eq_true rfl) ?_
  refine x_to (x_st_ov 0 (Nat.le_of_ble_eq_true rfl)) ?_
  refine x_aload_n C dX7_advance_40 rfl rfl ?_
  refine x_aload_n C dX7_advance_41 rfl rfl ?_
  refine x_getfield C dX7_advance_42 fX7_78 (x_ovg 0 rfl) rfl ?_
  refine x_if_lt (tgt := 72) C dX7_advance_45 (by decide) (fun c45 => ?_) (fun c45 => ?_)
  · refine x_lconst (v := 0) C dX7_advance_72 (by decide) ?_
    refine x_putfield C dX7_advance_73 fX7_94 (x_ovg 0 rfl) rfl rfl (Nat.le_of_ble_eq_true rfl) ?_
    refine x_to (x_st_ov 0 (Nat.le_of_ble_eq_true rfl)) ?_
    refine x_vret C E dX7_advance_76 ?_
    have e9 : rgL 401 s.2.2.2 (ix + 1) = 0 := by unfold rgL; rw [if_pos (Or.inl c45)]
    refine ⟨rfl, ?_⟩
    rw [e9]
    rfl
  · refine x_aload_n C dX7_advance_48 rfl rfl ?_
    refine x_getfield C dX7_advance_49 fX7_78 (x_ovg 0 rfl) rfl ?_
    refine x_aload_n C dX7_advance_52 rfl rfl ?_
    refine x_getfield C dX7_advance_53 fX7_27 (x_ovg 0 rfl) rfl ?_
    refine x_alen C dX7_advance_56 (x_ovg 6 rfl) (by decide) ?_
    refine x_icmp_ge (tgt := 72) C dX7_advance_57 (by decide) (fun c57 => ?_) (fun c57 => ?_)
    · refine x_lconst (v := 0) C dX7_advance_72 (by decide) ?_
      refine x_putfield C dX7_advance_73 fX7_94 (x_ovg 0 rfl) rfl rfl (Nat.le_of_ble_eq_true rfl) ?_
      refine x_to (x_st_ov 0 (Nat.le_of_ble_eq_true rfl)) ?_
      refine x_vret C E dX7_advance_76 ?_
      have e9 : rgL 401 s.2.2.2 (ix + 1) = 0 := by unfold rgL; rw [if_pos (Or.inr ((x_ge_len (n := 401) (by decide) c45).mp c57))]
      refine ⟨rfl, ?_⟩
      rw [e9]
      rfl
    · refine x_aload_n C dX7_advance_60 rfl rfl ?_
      refine x_getfield C dX7_advance_61 fX7_27 (x_ovg 0 rfl) rfl ?_
      refine x_aload_n C dX7_advance_64 rfl rfl ?_
      refine x_getfield C dX7_advance_65 fX7_78 (x_ovg 0 rfl) rfl ?_
      refine x_laload C dX7_advance_68 (x_ovg 6 rfl) (rw_lt (n := 401) (by decide) c45 c57) ?_
      refine x_goto (tgt := 73) C dX7_advance_69 (by decide) ?_
      refine x_putfield C dX7_advance_73 fX7_94 (x_ovg 0 rfl) rfl rfl (Nat.le_of_ble_eq_true rfl) ?_
      refine x_to (x_st_ov 0 (Nat.le_of_ble_eq_true rfl)) ?_
      refine x_vret C E dX7_advance_76 ?_
      have e9 : rgL 401 s.2.2.2 (ix + 1) = s.2.2.2 (ix + 1).toNatClampNeg := by unfold rgL; rw [if_neg (rw_lt (n := 401) (by decide) c45 c57)]
      refine ⟨rfl, ?_⟩
      rw [e9]
      rfl
set_option maxHeartbeats 4000000 in
set_option maxRecDepth 100000 in
theorem c_X7_readTape {l : Launch} {Y0 : x_Y} (hO : x_Ok Y0) {M : x_M} {t tp n : Nat} {f : Nat → Int32} {kw : Nat → Int64} {s : kS} {ix kd st : Int32} {vl : Int64} (hn : n ≤ 2000) (hp : x_bk M tp (tpT tp (nI n) f)) (hd : tp + 3 ≤ t ∨ t + 7 ≤ tp) (hb : x_bk M t (tkT t tp kw s ix kd st vl)) (hc : x_Stc Y0) {qs ts : Nat} (hZ : vk_R RX7 119 "()[];,+-*/<>=" qs Y0.1) (hsy : x_Str Y0 qs ts k_SYM) (hf : k_by f) : x_C l Y0 yX7_readTape cX7_readTape 3 none 7 0 0 [.ref t] M (fun u M1 => u = none ∧ M1 = x_ov M t (tkT t tp kw (k_lp f n kw 401 0 2 ((0, s.1.2), s.2)) 0 (rg 401 (k_lp f n kw 401 0 2 ((0, s.1.2), s.2)).2.1 0) (rg 401 (k_lp f n kw 401 0 2 ((0, s.1.2), s.2)).2.2.1 0) (rgL 401 (k_lp f n kw 401 0 2 ((0, s.1.2), s.2)).2.2.2 0))) := by
  refine x_start hO (by decide +kernel) (Nat.le_of_ble_eq_true rfl) (fun K C E => ?_)
  have hpF : ∀ L : List x_E, L.length = 7 → x_bk (x_ov M t L) tp (tpT tp (nI n) f) := fun L h => x_ov_far 7 hp h hd
  refine x_to (x_ov_self hb).symm ?_
  have j73 : ∀ (i : Nat) (s1 : kS) (r : Int32 × Nat × Int64), i < 401 → s1.1.1 ≤ n → r.2.1 ≤ n → r = k_nxt f n kw i s1 → (∀ z, z = nI (i + 1) → x_X K 3 0 0 9 [(0, .ref t), (1, .int (k_nxt f n kw i s1).1), (2, .int z)] [] (x_ov M t (tkT t tp kw (k_put f n i s1 (k_nxt f n kw i s1)) ix kd st vl))) → x_X K 3 0 0 73 [(0, .ref t), (1, .int r.1), (2, .int (nI i))] [] (x_ov M t (tkT t tp kw (r.2, s1.2.1, upd s1.2.2.1 i (nI (k_gap f n s1.1.1)), s1.2.2.2) ix kd st vl)) := by
      intro i s1 r hi hs1 hr he kk
      rw [he]
      refine x_aload_n C dX7_readTape_73 rfl rfl ?_
      refine x_getfield C dX7_readTape_74 fX7_20 (x_ovg 0 rfl) rfl ?_
      refine x_iload_n C dX7_readTape_77 rfl rfl ?_
      refine x_iload_n C dX7_readTape_78 rfl rfl ?_
      refine x_callV2 C dX7_readTape_79 kX7_63 (c_X4_set hO (by decide) (x_bk_sub x_ov_bk 2 rfl)) (x_ovg 2 rfl) rfl (by decide) ⟨Nat.zero_le _, Nat.zero_le _⟩ (Nat.le_of_ble_eq_true rfl) ?_
      rintro _ _ ⟨rfl, rfl⟩
      refine x_to (x_st_ov 3 (Nat.le_of_ble_eq_true rfl)) ?_
      rw [rs_nI (show i < 401 by omega) (by decide)]
      refine x_aload_n C dX7_readTape_82 rfl rfl ?_
      refine x_getfield C dX7_readTape_83 fX7_27 (x_ovg 0 rfl) rfl ?_
      refine x_iload_n C dX7_readTape_86 rfl rfl ?_
      refine x_aload_n C dX7_readTape_87 rfl rfl ?_
      refine x_getfield C dX7_readTape_88 fX7_74 (x_ovg 0 rfl) rfl ?_
      refine x_lastore C dX7_readTape_91 (x_ovg 6 rfl) (nI_in (show i < 401 by omega) (by decide)) ?_
      refine x_to (x_st_ov 6 (Nat.le_of_ble_eq_true rfl)) ?_
      rw [nI_clamp (show i < 2 ^ 31 by omega)]
      refine x_to (show _ = x_ov M t (tkT t tp kw (k_put f n i s1 (k_nxt f n kw i s1)) ix kd st vl) from rfl) ?_
      refine x_iinc (v := 1) C dX7_readTape_92 rfl (by decide) rfl (by decide) ?_
      refine x_goto (tgt := 9) C dX7_readTape_95 (by decide) ?_
      exact kk _ (nI_1 i)
  have lp : ∀ (w i : Nat) (z l9 : Int32) (s1 : kS), i + w = 401 → z = nI i → s1.1.1 ≤ n → k_lp f n kw 401 0 2 ((0, s.1.2), s.2) = k_lp f n kw w i l9 s1 → x_X K 3 0 0 9 [(0, .ref t), (1, .int l9), (2, .int z)] [] (x_ov M t (tkT t tp kw s1 ix kd st vl)) := by
    intro w
    induction w with
    | zero =>
      intro i z l9 s1 hi hz hs1 hq
      subst hz
      have e : i = 401 := by omega
      subst e
      refine x_iload_n C dX7_readTape_9 rfl rfl ?_
      refine x_aload_n C dX7_readTape_10 rfl rfl ?_
      refine x_getfield C dX7_readTape_11 fX7_27 (x_ovg 0 rfl) rfl ?_
      refine x_alen C dX7_readTape_14 (x_ovg 6 rfl) (by decide) ?_
      refine x_icmp_ge (tgt := 98) C dX7_readTape_15 (by decide) (fun c15 => ?_) (fun c15 => absurd (show nI 401 ≤ nI 401 by decide) c15)
      refine x_aload_n C dX7_readTape_98 rfl rfl ?_
      refine x_iconst (v := (-1)) C dX7_readTape_99 (by decide) ?_
      refine x_putfield C dX7_readTape_100 fX7_78 (x_ovg 0 rfl) rfl rfl (Nat.le_of_ble_eq_true rfl) ?_
      refine x_to (x_st_ov 0 (Nat.le_of_ble_eq_true rfl)) ?_
      refine x_to (show _ = x_ov M t (tkT t tp kw s1 (-1) kd st vl) from rfl) ?_
      refine x_aload_n C dX7_readTape_103 rfl rfl ?_
      refine x_callV0 C dX7_readTape_104 kX7_81 (c_X7_advanceT hO hn (hpF _ rfl) hd x_ov_bk) (x_ovg 0 rfl) rfl (by decide) ⟨Nat.zero_le _, Nat.zero_le _⟩ (Nat.le_of_ble_eq_true rfl) ?_
      rintro _ _ ⟨rfl, rfl⟩
      refine x_to (x_ov_ov tk_len) ?_
      refine x_vret C E dX7_readTape_107 ?_
      have e9 : k_lp f n kw 401 0 2 ((0, s.1.2), s.2) = s1 := by rw [hq]; first | rfl | (simp only [k_lp]; done) | fail
      rw [e9]
      exact ⟨rfl, rfl⟩
    | succ w ih =>
      intro i z l9 s1 hi hz hs1 hq
      subst hz
      have hi9 : i < 401 := by omega
      refine x_iload_n C dX7_readTape_9 rfl rfl ?_
      refine x_aload_n C dX7_readTape_10 rfl rfl ?_
      refine x_getfield C dX7_readTape_11 fX7_27 (x_ovg 0 rfl) rfl ?_
      refine x_alen C dX7_readTape_14 (x_ovg 6 rfl) (by decide) ?_
      refine x_icmp_ge (tgt := 98) C dX7_readTape_15 (by decide) (fun c15 => absurd c15 (show ¬ nI 401 ≤ nI i from nI_ge (by omega) (by decide))) (fun c15 => ?_)
      refine x_iload_n C dX7_readTape_18 rfl rfl ?_
      refine x_if_eq (tgt := 98) C dX7_readTape_19 (by decide) (fun c19 => ?_) (fun c19 => ?_)
      · refine x_aload_n C dX7_readTape_98 rfl rfl ?_
        refine x_iconst (v := (-1)) C dX7_readTape_99 (by decide) ?_
        refine x_putfield C dX7_readTape_100 fX7_78 (x_ovg 0 rfl) rfl rfl (Nat.le_of_ble_eq_true rfl) ?_
        refine x_to (x_st_ov 0 (Nat.le_of_ble_eq_true rfl)) ?_
        refine x_to (show _ = x_ov M t (tkT t tp kw s1 (-1) kd st vl) from rfl) ?_
        refine x_aload_n C dX7_readTape_103 rfl rfl ?_
        refine x_callV0 C dX7_readTape_104 kX7_81 (c_X7_advanceT hO hn (hpF _ rfl) hd x_ov_bk) (x_ovg 0 rfl) rfl (by decide) ⟨Nat.zero_le _, Nat.zero_le _⟩ (Nat.le_of_ble_eq_true rfl) ?_
        rintro _ _ ⟨rfl, rfl⟩
        refine x_to (x_ov_ov tk_len) ?_
        refine x_vret C E dX7_readTape_107 ?_
        have e9 : k_lp f n kw 401 0 2 ((0, s.1.2), s.2) = s1 := by rw [hq]; first | rfl | (simp only [k_lp, if_pos c19]; done) | fail
        rw [e9]
        exact ⟨rfl, rfl⟩
      · refine x_iload_n C dX7_readTape_22 rfl rfl ?_
        refine x_iconst (v := 1) C dX7_readTape_23 (by decide) ?_
        refine x_icmp_eq (tgt := 98) C dX7_readTape_24 (by decide) (fun c24 => ?_) (fun c24 => ?_)
        · refine x_aload_n C dX7_readTape_98 rfl rfl ?_
          refine x_iconst (v := (-1)) C dX7_readTape_99 (by decide) ?_
          refine x_putfield C dX7_readTape_100 fX7_78 (x_ovg 0 rfl) rfl rfl (Nat.le_of_ble_eq_true rfl) ?_
          refine x_to (x_st_ov 0 (Nat.le_of_ble_eq_true rfl)) ?_
          refine x_to (show _ = x_ov M t (tkT t tp kw s1 (-1) kd st vl) from rfl) ?_
          refine x_aload_n C dX7_readTape_103 rfl rfl ?_
          refine x_callV0 C dX7_readTape_104 kX7_81 (c_X7_advanceT hO hn (hpF _ rfl) hd x_ov_bk) (x_ovg 0 rfl) rfl (by decide) ⟨Nat.zero_le _, Nat.zero_le _⟩ (Nat.le_of_ble_eq_true rfl) ?_
          rintro _ _ ⟨rfl, rfl⟩
          refine x_to (x_ov_ov tk_len) ?_
          refine x_vret C E dX7_readTape_107 ?_
          have e9 : k_lp f n kw 401 0 2 ((0, s.1.2), s.2) = s1 := by rw [hq]; first | rfl | (simp only [k_lp, if_neg c19, if_pos c24]; done) | fail
          rw [e9]
          exact ⟨rfl, rfl⟩
        · refine x_aload_n C dX7_readTape_27 rfl rfl ?_
          refine x_callV0 C dX7_readTape_28 kX7_60 (c_X7_skipGaps hO hn (hpF _ rfl) hd x_ov_bk hs1) (x_ovg 0 rfl) rfl (by decide) ⟨Nat.zero_le _, Nat.zero_le _⟩ (Nat.le_of_ble_eq_true rfl) ?_
          rintro _ _ ⟨rfl, rfl⟩
          refine x_to (x_ov_ov tk_len) ?_
          have hg9 := (k_gap_le (f := f) hs1).2
          refine x_aload_n C dX7_readTape_31 rfl rfl ?_
          refine x_getfield C dX7_readTape_32 fX7_24 (x_ovg 0 rfl) rfl ?_
          refine x_iload_n C dX7_readTape_35 rfl rfl ?_
          refine x_aload_n C dX7_readTape_36 rfl rfl ?_
          refine x_getfield C dX7_readTape_37 fX7_56 (x_ovg 0 rfl) rfl ?_
          refine x_callV2 C dX7_readTape_40 kX7_63 (c_X4_set hO (by decide) (x_bk_sub x_ov_bk 4 rfl)) (x_ovg 4 rfl) rfl (by decide) ⟨Nat.zero_le _, Nat.zero_le _⟩ (Nat.le_of_ble_eq_true rfl) ?_
          rintro _ _ ⟨rfl, rfl⟩
          refine x_to (x_st_ov 5 (Nat.le_of_ble_eq_true rfl)) ?_
          rw [rs_nI (show i < 401 by omega) (by decide)]
          refine x_to (show _ = x_ov M t (tkT t tp kw ((k_gap f n s1.1.1, s1.1.2), s1.2.1, upd s1.2.2.1 i (nI (k_gap f n s1.1.1)), s1.2.2.2) ix kd st vl) from rfl) ?_
          refine x_iload_n C dX7_readTape_43 rfl rfl ?_
          refine x_sipush (v := 400) C dX7_readTape_44 (by decide) ?_
          refine x_icmp_lt (tgt := 64) C dX7_readTape_47 (by decide) (fun c47 => ?_) (fun c47 => ?_)
          · have c47 : i < 400 := (nI_ltI (show i < 2 ^ 31 by omega) (show 400 < 2 ^ 31 by decide)).mp c47
            refine x_aload_n C dX7_readTape_64 rfl rfl ?_
            refine x_callV0 C dX7_readTape_65 kX7_71 (c_X7_readToken hO hn (hpF _ rfl) hd x_ov_bk hc hZ hsy hf hg9) (x_ovg 0 rfl) rfl (by decide) ⟨Nat.zero_le _, Nat.zero_le _⟩ (Nat.le_of_ble_eq_true rfl) ?_
            rintro _ _ ⟨rfl, rfl⟩
            refine x_to (x_ov_ov tk_len) ?_
            have hr9 := k_tok_le (f := f) (kw := kw) (v := s1.1.2) hg9
            refine x_goto (tgt := 72) C dX7_readTape_68 (by decide) ?_
            refine x_istore_n C dX7_readTape_72 rfl rfl (by decide) ?_
            exact j73 i s1 (k_tok f n kw (k_gap f n s1.1.1) s1.1.2) hi9 hs1 hr9 (by unfold k_nxt; rw [if_pos c47]) (fun z hz => ih (i + 1) z _ _ (by omega) hz (k_nxt_le hs1) (by rw [hq]; simp only [k_lp, if_neg c19, if_neg c24]))
          · have c47 : ¬ i < 400 := fun q => c47 (nI_lt q (by decide))
            refine x_aload_n C dX7_readTape_50 rfl rfl ?_
            refine x_getfield C dX7_readTape_51 fX7_56 (x_ovg 0 rfl) rfl ?_
            refine x_aload_n C dX7_readTape_54 rfl rfl ?_
            refine x_getfield C dX7_readTape_55 fX7_30 (x_ovg 0 rfl) rfl ?_
            refine x_getfield C dX7_readTape_58 fX7_67 ((hpF _ rfl) 0 _ rfl) rfl ?_
            refine x_icmp_lt (tgt := 71) C dX7_readTape_61 (by decide) (fun c61 => ?_) (fun c61 => ?_)
            · have h61 : k_gap f n s1.1.1 < n := (nI_ltI (by omega) (by omega)).mp c61
              refine x_iconst (v := 1) C dX7_readTape_71 (by decide) ?_
              refine x_istore_n C dX7_readTape_72 rfl rfl (by decide) ?_
              exact j73 i s1 (1, k_gap f n s1.1.1, s1.1.2) hi9 hs1 hg9 (by unfold k_nxt; rw [if_neg c47, if_pos h61]) (fun z hz => ih (i + 1) z _ _ (by omega) hz (k_nxt_le hs1) (by rw [hq]; simp only [k_lp, if_neg c19, if_neg c24]))
            · have h61 : ¬ k_gap f n s1.1.1 < n := fun q => c61 (nI_lt q (by omega))
              refine x_aload_n C dX7_readTape_64 rfl rfl ?_
              refine x_callV0 C dX7_readTape_65 kX7_71 (c_X7_readToken hO hn (hpF _ rfl) hd x_ov_bk hc hZ hsy hf hg9) (x_ovg 0 rfl) rfl (by decide) ⟨Nat.zero_le _, Nat.zero_le _⟩ (Nat.le_of_ble_eq_true rfl) ?_
              rintro _ _ ⟨rfl, rfl⟩
              refine x_to (x_ov_ov tk_len) ?_
              have hr9 := k_tok_le (f := f) (kw := kw) (v := s1.1.2) hg9
              refine x_goto (tgt := 72) C dX7_readTape_68 (by decide) ?_
              refine x_istore_n C dX7_readTape_72 rfl rfl (by decide) ?_
              exact j73 i s1 (k_tok f n kw (k_gap f n s1.1.1) s1.1.2) hi9 hs1 hr9 (by unfold k_nxt; rw [if_neg c47, if_neg h61]) (fun z hz => ih (i + 1) z _ _ (by omega) hz (k_nxt_le hs1) (by rw [hq]; simp only [k_lp, if_neg c19, if_neg c24]))
  refine x_aload_n C dX7_readTape_0 rfl rfl ?_
  refine x_iconst (v := 0) C dX7_readTape_1 (by decide) ?_
  refine x_putfield C dX7_readTape_2 fX7_56 (x_ovg 0 rfl) rfl rfl (Nat.le_of_ble_eq_true rfl) ?_
  refine x_to (x_st_ov 0 (Nat.le_of_ble_eq_true rfl)) ?_
  refine x_to (show _ = x_ov M t (tkT t tp kw ((0, s.1.2), s.2) ix kd st vl) from rfl) ?_
  refine x_iconst (v := 2) C dX7_readTape_5 (by decide) ?_
  refine x_istore_n C dX7_readTape_6 rfl rfl (by decide) ?_
  refine x_iconst (v := 0) C dX7_readTape_7 (by decide) ?_
  refine x_istore_n C dX7_readTape_8 rfl rfl (by decide) ?_
  exact lp 401 0 0 2 _ (by omega) rfl (Nat.zero_le _) rfl
