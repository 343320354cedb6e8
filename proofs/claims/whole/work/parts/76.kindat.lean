set_option maxHeartbeats 4000000 in
set_option maxRecDepth 100000 in
theorem c_X11_kindAt {l : Launch} {Y0 : x_Y} (hO : x_Ok Y0) {M : x_M} {o r n x i : Nat} {Ev : rE} {R : rS} (hd : o + 7 ≤ r) (hb : rB M o r Ev R) (hn : Ev.1.1.2.1 = nI n) (hn2 : n ≤ 2000) (hx : x ≤ n) (hi : i < 401) (hby : k_by (Ev.2 20)) (hc : x_Stc Y0) {wa : Nat} {sa st9 : Nat → Nat} (hW : x_Wd Y0 wa sa st9) {qs ts : Nat} (hZ : vk_R RX11 109 "()[];,+-*/<>=" qs Y0.1) (hsy : x_Str Y0 qs ts k_SYM) : x_C l Y0 yX11_kindAt cX11_kindAt 6 (some .int) 6 0 0 [.ref o, .int (nI x), .int (nI i)] M (fun u M1 => u = some (.int (if x < n then (r_kd9 (Ev.2 20) n x).1 else 900)) ∧ M1 = rH M o r (if x < n then y_E Ev i (r_kd9 (Ev.2 20) n x).2 else Ev) R) := by
  refine x_start hO (by decide +kernel) (Nat.le_of_ble_eq_true rfl) (fun K C E => ?_)
  refine x_to (rH_self hb).symm ?_
  have j71 : ∀ (e : Nat), x < n → r_run (k_isL (Ev.2 20 x)) (Ev.2 20) n x = e → x < e → e ≤ n → ((k_isL (Ev.2 20 x)) = true ∨ k_isD (Ev.2 20 x) = true) → x_X K 6 0 0 71 [(0, .ref o), (1, .int (nI x)), (2, .int (nI i)), (3, .int (Ev.2 20 x)), (4, .int (nI e))] [] (rH M o r Ev R) := by
      intro e hxn he h1 h2 hw
      refine x_aload_n C dX11_kindAt_71 rfl rfl ?_
      refine x_getfield C dX11_kindAt_72 fX11_23 (rH_g0 hd) rfl ?_
      refine x_iload_n C dX11_kindAt_75 rfl rfl ?_
      refine x_iload C dX11_kindAt_76 rfl ?_
      refine x_iload_n C dX11_kindAt_78 rfl rfl ?_
      refine x_isub C dX11_kindAt_79 ?_
      rw [nI_sb (show x ≤ e by omega)]
      refine x_iastore C dX11_kindAt_80 (rH_g4 hd) (nI_in hi (by decide)) ?_
      rw [nI_clamp (show i < 2 ^ 31 by omega)]
      refine x_to (rH_my hd) ?_
      refine x_iload C dX11_kindAt_81 rfl ?_
      refine x_iload_n C dX11_kindAt_83 rfl rfl ?_
      refine x_isub C dX11_kindAt_84 ?_
      rw [nI_sb (show x ≤ e by omega)]
      refine x_iload_n C dX11_kindAt_85 rfl rfl ?_
      refine x_callS1 C dX11_kindAt_86 kX11_100 (c_X11_isLetter hO) (by decide) ⟨Nat.zero_le _, Nat.zero_le _⟩ (Nat.le_of_ble_eq_true rfl) ?_
      rintro _ _ ⟨rfl, rfl⟩
      refine x_if_eq (tgt := 97) C dX11_kindAt_89 (by decide) (fun c89 => ?_) (fun c89 => ?_)
      · have c89 := b_n c89
        refine x_bipush (v := 6) C dX11_kindAt_97 (by decide) ?_
        refine x_icmp_le (tgt := 106) C dX11_kindAt_99 (by decide) (fun c99 => ?_) (fun c99 => ?_)
        · refine x_iload_n C dX11_kindAt_106 rfl rfl ?_
          refine x_callS1 C dX11_kindAt_107 kX11_100 (c_X11_isLetter hO) (by decide) ⟨Nat.zero_le _, Nat.zero_le _⟩ (Nat.le_of_ble_eq_true rfl) ?_
          rintro _ _ ⟨rfl, rfl⟩
          refine x_if_eq (tgt := 125) C dX11_kindAt_110 (by decide) (fun c110 => ?_) (fun c110 => ?_)
          · have c110 := b_n c110
            refine x_bipush (v := 41) C dX11_kindAt_125 (by decide) ?_
            refine x_iret C E dX11_kindAt_127 ?_
            have he2 : r_kdD (Ev.2 20) n x = e := by rw [← he]; unfold r_run; rw [if_neg c89]
            have e9 : r_kd9 (Ev.2 20) n x = (41, e - x) := by unfold r_kd9; rw [if_neg c89, if_pos (hw.resolve_left c89), he2, if_neg (fun q => absurd (show nI (e - x) ≤ nI 6 from c99) (nI_ge q (by omega)))]
            exact ⟨by rw [if_pos hxn, e9], by rw [if_pos hxn, e9]⟩
          · have c110 := b_y c110
            exact absurd c110 c89
        · refine x_sipush (v := 901) C dX11_kindAt_102 (by decide) ?_
          refine x_iret C E dX11_kindAt_105 ?_
          have he2 : r_kdD (Ev.2 20) n x = e := by rw [← he]; unfold r_run; rw [if_neg c89]
          have e9 : r_kd9 (Ev.2 20) n x = (901, e - x) := by unfold r_kd9; rw [if_neg c89, if_pos (hw.resolve_left c89), he2, if_pos (Decidable.byContradiction fun q => c99 (show nI (e - x) ≤ nI 6 from nI_le (by omega) (by omega)))]
          exact ⟨by rw [if_pos hxn, e9], by rw [if_pos hxn, e9]⟩
      · have c89 := b_y c89
        refine x_bipush (v := 10) C dX11_kindAt_92 (by decide) ?_
        refine x_goto (tgt := 99) C dX11_kindAt_94 (by decide) ?_
        refine x_icmp_le (tgt := 106) C dX11_kindAt_99 (by decide) (fun c99 => ?_) (fun c99 => ?_)
        · refine x_iload_n C dX11_kindAt_106 rfl rfl ?_
          refine x_callS1 C dX11_kindAt_107 kX11_100 (c_X11_isLetter hO) (by decide) ⟨Nat.zero_le _, Nat.zero_le _⟩ (Nat.le_of_ble_eq_true rfl) ?_
          rintro _ _ ⟨rfl, rfl⟩
          refine x_if_eq (tgt := 125) C dX11_kindAt_110 (by decide) (fun c110 => ?_) (fun c110 => ?_)
          · have c110 := b_n c110
            exact absurd c89 c110
          · have c110 := b_y c110
            refine x_aload_n C dX11_kindAt_113 rfl rfl ?_
            refine x_iload_n C dX11_kindAt_114 rfl rfl ?_
            refine x_iload C dX11_kindAt_115 rfl ?_
            refine x_iload_n C dX11_kindAt_117 rfl rfl ?_
            refine x_isub C dX11_kindAt_118 ?_
            rw [nI_sb (show x ≤ e by omega)]
            refine x_callV2 C dX11_kindAt_119 kX11_106 (c_X11_word (at9 := x) (len := e - x) hO (rH_B hd) hc hW (by omega)) (rH_g0 hd) rfl (by decide) ⟨Nat.zero_le _, Nat.zero_le _⟩ (Nat.le_of_ble_eq_true rfl) ?_
            rintro _ _ ⟨rfl, rfl⟩
            refine x_goto (tgt := 127) C dX11_kindAt_122 (by decide) ?_
            refine x_iret C E dX11_kindAt_127 ?_
            have he2 : r_kdL (Ev.2 20) n x = e := by rw [← he]; unfold r_run; rw [if_pos c89]
            have e9 : r_kd9 (Ev.2 20) n x = (r_word (Ev.2 20) x (e - x), e - x) := by unfold r_kd9; rw [if_pos c89, he2, if_neg (fun q => absurd (show nI (e - x) ≤ nI 10 from c99) (nI_ge q (by omega)))]
            exact ⟨by rw [if_pos hxn, e9]; rfl, by rw [if_pos hxn, e9]⟩
        · refine x_sipush (v := 901) C dX11_kindAt_102 (by decide) ?_
          refine x_iret C E dX11_kindAt_105 ?_
          have he2 : r_kdL (Ev.2 20) n x = e := by rw [← he]; unfold r_run; rw [if_pos c89]
          have e9 : r_kd9 (Ev.2 20) n x = (901, e - x) := by unfold r_kd9; rw [if_pos c89, he2, if_pos (Decidable.byContradiction fun q => c99 (show nI (e - x) ≤ nI 10 from nI_le (by omega) (by omega)))]
          exact ⟨by rw [if_pos hxn, e9], by rw [if_pos hxn, e9]⟩
  have lp : x < n → ((k_isL (Ev.2 20 x)) = true ∨ k_isD (Ev.2 20 x) = true) → ∀ (w e : Nat), n < e + w → x < e → e ≤ n → r_run (k_isL (Ev.2 20 x)) (Ev.2 20) n x = k_run (r_qq (k_isL (Ev.2 20 x))) (r_by (Ev.2 20) n) w e → x_X K 6 0 0 34 [(0, .ref o), (1, .int (nI x)), (2, .int (nI i)), (3, .int (Ev.2 20 x)), (4, .int (nI e))] [] (rH M o r Ev R) := by
    intro hxn hw w
    induction w with
    | zero =>
      intro e h1 h2 h3
      omega
    | succ w ih =>
      intro e h1 h2 h3 hq
      refine x_aload_n C dX11_kindAt_34 rfl rfl ?_
      refine x_iload C dX11_kindAt_35 rfl ?_
      refine x_callV1 C dX11_kindAt_37 kX11_96 (c_X11_byteOf hO (rH_B hd) hn hn2 (by omega)) (rH_g0 hd) rfl (by decide) ⟨Nat.zero_le _, Nat.zero_le _⟩ (Nat.le_of_ble_eq_true rfl) ?_
      rintro _ _ ⟨rfl, rfl⟩
      refine x_callS1 C dX11_kindAt_40 kX11_103 (c_X11_isDigit hO) (by decide) ⟨Nat.zero_le _, Nat.zero_le _⟩ (Nat.le_of_ble_eq_true rfl) ?_
      rintro _ _ ⟨rfl, rfl⟩
      refine x_if_ne (tgt := 65) C dX11_kindAt_43 (by decide) (fun c43 => ?_) (fun c43 => ?_)
      · have c43 := b_y c43
        refine x_iinc (v := 1) C dX11_kindAt_65 rfl (by decide) rfl (by decide) ?_
        refine x_goto (tgt := 34) C dX11_kindAt_68 (by decide) ?_
        have hqt : r_qq (k_isL (Ev.2 20 x)) (r_by (Ev.2 20) n e) = true := by simp [r_qq, c43]
        have he9 : e < n := Decidable.byContradiction fun q => by rw [r_by_out q, r_qq1] at hqt; exact Bool.false_ne_true hqt
        rw [nI_1]
        exact ih (e + 1) (by omega) (by omega) (by omega) (by rw [hq]; simp only [k_run]; rw [if_pos hqt])
      · have c43 := b_n c43
        refine x_iload_n C dX11_kindAt_46 rfl rfl ?_
        refine x_callS1 C dX11_kindAt_47 kX11_100 (c_X11_isLetter hO) (by decide) ⟨Nat.zero_le _, Nat.zero_le _⟩ (Nat.le_of_ble_eq_true rfl) ?_
        rintro _ _ ⟨rfl, rfl⟩
        refine x_if_eq (tgt := 71) C dX11_kindAt_50 (by decide) (fun c50 => ?_) (fun c50 => ?_)
        · have c50 := b_n c50
          have hqf : r_qq (k_isL (Ev.2 20 x)) (r_by (Ev.2 20) n e) = false := by simp [r_qq, c43, c50]
          exact j71 e hxn (by rw [hq]; simp only [k_run]; rw [if_neg (ne_true_of_eq_false hqf)]) h2 h3 hw
        · have c50 := b_y c50
          refine x_aload_n C dX11_kindAt_53 rfl rfl ?_
          refine x_iload C dX11_kindAt_54 rfl ?_
          refine x_callV1 C dX11_kindAt_56 kX11_96 (c_X11_byteOf hO (rH_B hd) hn hn2 (by omega)) (rH_g0 hd) rfl (by decide) ⟨Nat.zero_le _, Nat.zero_le _⟩ (Nat.le_of_ble_eq_true rfl) ?_
          rintro _ _ ⟨rfl, rfl⟩
          refine x_callS1 C dX11_kindAt_59 kX11_100 (c_X11_isLetter hO) (by decide) ⟨Nat.zero_le _, Nat.zero_le _⟩ (Nat.le_of_ble_eq_true rfl) ?_
          rintro _ _ ⟨rfl, rfl⟩
          refine x_if_eq (tgt := 71) C dX11_kindAt_62 (by decide) (fun c62 => ?_) (fun c62 => ?_)
          · have c62 := b_n c62
            have hqf : r_qq (k_isL (Ev.2 20 x)) (r_by (Ev.2 20) n e) = false := by simp [r_qq, c43, c50, c62]
            exact j71 e hxn (by rw [hq]; simp only [k_run]; rw [if_neg (ne_true_of_eq_false hqf)]) h2 h3 hw
          · have c62 := b_y c62
            refine x_iinc (v := 1) C dX11_kindAt_65 rfl (by decide) rfl (by decide) ?_
            refine x_goto (tgt := 34) C dX11_kindAt_68 (by decide) ?_
            have hqt : r_qq (k_isL (Ev.2 20 x)) (r_by (Ev.2 20) n e) = true := by simp [r_qq, c43, c50, c62]
            have he9 : e < n := Decidable.byContradiction fun q => by rw [r_by_out q, r_qq1] at hqt; exact Bool.false_ne_true hqt
            rw [nI_1]
            exact ih (e + 1) (by omega) (by omega) (by omega) (by rw [hq]; simp only [k_run]; rw [if_pos hqt])
  refine x_aload_n C dX11_kindAt_0 rfl rfl ?_
  refine x_iload_n C dX11_kindAt_1 rfl rfl ?_
  refine x_callV1 C dX11_kindAt_2 kX11_96 (c_X11_byteOf hO (rH_B hd) hn hn2 (by omega)) (rH_g0 hd) rfl (by decide) ⟨Nat.zero_le _, Nat.zero_le _⟩ (Nat.le_of_ble_eq_true rfl) ?_
  rintro _ _ ⟨rfl, rfl⟩
  refine x_istore_n C dX11_kindAt_5 rfl rfl (by decide) ?_
  refine x_iload_n C dX11_kindAt_6 rfl rfl ?_
  refine x_iconst (v := 1) C dX11_kindAt_7 (by decide) ?_
  refine x_iadd C dX11_kindAt_8 ?_
  rw [nI_1]
  refine x_istore C dX11_kindAt_9 rfl (by decide) ?_
  refine x_iload_n C dX11_kindAt_11 rfl rfl ?_
  refine x_iconst (v := (-1)) C dX11_kindAt_12 (by decide) ?_
  refine x_icmp_ne (tgt := 20) C dX11_kindAt_13 (by decide) (fun c13 => ?_) (fun c13 => ?_)
  · have hxn : x < n := Decidable.byContradiction fun q => c13 (r_by_out q)
    rw [r_by_in hxn]
    obtain ⟨c, hc9, hfx⟩ := hby x
    refine x_iload_n C dX11_kindAt_20 rfl rfl ?_
    refine x_callS1 C dX11_kindAt_21 kX11_100 (c_X11_isLetter hO) (by decide) ⟨Nat.zero_le _, Nat.zero_le _⟩ (Nat.le_of_ble_eq_true rfl) ?_
    rintro _ _ ⟨rfl, rfl⟩
    refine x_if_ne (tgt := 34) C dX11_kindAt_24 (by decide) (fun c24 => ?_) (fun c24 => ?_)
    · have c24 := b_y c24
      exact lp hxn (Or.inl c24) 2001 (x + 1) (by omega) (by omega) (by omega) (by rw [r_runE]; exact (r_runB (r_qq1 _) 2001 (x + 1) (by omega) (by omega)).symm)
    · have c24 := b_n c24
      refine x_iload_n C dX11_kindAt_27 rfl rfl ?_
      refine x_callS1 C dX11_kindAt_28 kX11_103 (c_X11_isDigit hO) (by decide) ⟨Nat.zero_le _, Nat.zero_le _⟩ (Nat.le_of_ble_eq_true rfl) ?_
      rintro _ _ ⟨rfl, rfl⟩
      refine x_if_eq (tgt := 128) C dX11_kindAt_31 (by decide) (fun c31 => ?_) (fun c31 => ?_)
      · have c31 := b_n c31
        refine x_iload_n C dX11_kindAt_128 rfl rfl ?_
        refine x_bipush (v := 60) C dX11_kindAt_129 (by decide) ?_
        refine x_icmp_eq (tgt := 140) C dX11_kindAt_131 (by decide) (fun c131 => ?_) (fun c131 => ?_)
        · refine x_aload_n C dX11_kindAt_140 rfl rfl ?_
          refine x_iload C dX11_kindAt_141 rfl ?_
          refine x_callV1 C dX11_kindAt_143 kX11_96 (c_X11_byteOf hO (rH_B hd) hn hn2 (by omega)) (rH_g0 hd) rfl (by decide) ⟨Nat.zero_le _, Nat.zero_le _⟩ (Nat.le_of_ble_eq_true rfl) ?_
          rintro _ _ ⟨rfl, rfl⟩
          refine x_bipush (v := 61) C dX11_kindAt_146 (by decide) ?_
          refine x_icmp_ne (tgt := 155) C dX11_kindAt_148 (by decide) (fun c148 => ?_) (fun c148 => ?_)
          · refine x_iconst (v := 0) C dX11_kindAt_155 (by decide) ?_
            refine x_istore C dX11_kindAt_156 rfl (by decide) ?_
            refine x_aload_n C dX11_kindAt_158 rfl rfl ?_
            refine x_getfield C dX11_kindAt_159 fX11_23 (rH_g0 hd) rfl ?_
            refine x_iload_n C dX11_kindAt_162 rfl rfl ?_
            refine x_iload C dX11_kindAt_163 rfl ?_
            refine x_if_eq (tgt := 172) C dX11_kindAt_165 (by decide) (fun c165 => ?_) (fun c165 => absurd (by decide) c165)
            refine x_iconst (v := 1) C dX11_kindAt_172 (by decide) ?_
            refine x_iastore C dX11_kindAt_173 (rH_g4 hd) (nI_in hi (by decide)) ?_
            rw [nI_clamp (show i < 2 ^ 31 by omega)]
            refine x_to (rH_my hd) ?_
            refine x_iload C dX11_kindAt_174 rfl ?_
            refine x_if_eq (tgt := 195) C dX11_kindAt_176 (by decide) (fun c176 => ?_) (fun c176 => absurd (by decide) c176)
            refine x_iload_n C dX11_kindAt_195 rfl rfl ?_
            refine x_if_le (tgt := 223) C dX11_kindAt_196 (by decide) (fun c196 => ?_) (fun c196 => ?_)
            · refine x_sipush (v := 901) C dX11_kindAt_223 (by decide) ?_
              refine x_iret C E dX11_kindAt_226 ?_
              have hl : ¬ r_lng (Ev.2 20) n x = true := by simp [r_lng, c131, c148]
              have hs9 : r_sy1 (Ev.2 20 x) = 901 := by unfold r_sy1; rw [if_neg (Int32.not_lt.mpr c196)]
              have e9 : r_kd9 (Ev.2 20) n x = (901, 1) := by unfold r_kd9; rw [if_neg c24, if_neg c31, if_neg hl, hs9]
              exact ⟨by rw [if_pos hxn, e9], by rw [if_pos hxn, e9]⟩
            · refine x_iload_n C dX11_kindAt_199 rfl rfl ?_
              refine x_sipush (v := 128) C dX11_kindAt_200 (by decide) ?_
              refine x_icmp_ge (tgt := 223) C dX11_kindAt_203 (by decide) (fun c203 => ?_) (fun c203 => ?_)
              · refine x_sipush (v := 901) C dX11_kindAt_223 (by decide) ?_
                refine x_iret C E dX11_kindAt_226 ?_
                have hl : ¬ r_lng (Ev.2 20) n x = true := by simp [r_lng, c131, c148]
                have hs9 : r_sy1 (Ev.2 20 x) = 901 := by unfold r_sy1; rw [if_pos (Int32.not_le.mp c196), if_neg (Int32.not_lt.mpr c203)]
                have e9 : r_kd9 (Ev.2 20) n x = (901, 1) := by unfold r_kd9; rw [if_neg c24, if_neg c31, if_neg hl, hs9]
                exact ⟨by rw [if_pos hxn, e9], by rw [if_pos hxn, e9]⟩
              · refine x_ldcS C dX11_kindAt_206 hZ ?_
                refine x_iload_n C dX11_kindAt_208 rfl rfl ?_
                refine x_i2c C dX11_kindAt_209 ?_
                refine x_topi (nI c) (by rw [hfx]; exact s_c16 c hc9) ?_
                refine x_callT (As := [_]) C dX11_kindAt_210 kX11_111 (c_J0_indexOf hO hc hsy k_SYMa hc9 (by decide)) hsy.1 rfl rfl rfl (by decide) ⟨Nat.zero_le _, Nat.zero_le _⟩ (Nat.le_of_ble_eq_true rfl) ?_
                rintro _ _ ⟨rfl, rfl⟩
                refine x_if_lt (tgt := 223) C dX11_kindAt_213 (by decide) (fun c213 => ?_) (fun c213 => ?_)
                · refine x_sipush (v := 901) C dX11_kindAt_223 (by decide) ?_
                  refine x_iret C E dX11_kindAt_226 ?_
                  have hl : ¬ r_lng (Ev.2 20) n x = true := by simp [r_lng, c131, c148]
                  have hs9 : r_sy1 (Ev.2 20 x) = 901 := by unfold r_sy1; rw [if_pos (Int32.not_le.mp c196), if_pos (Int32.not_le.mp c203), show (Ev.2 20 x).toNatClampNeg = c by rw [hfx, nI_clamp (show c < 2 ^ 31 by omega)], if_pos c213]
                  have e9 : r_kd9 (Ev.2 20) n x = (901, 1) := by unfold r_kd9; rw [if_neg c24, if_neg c31, if_neg hl, hs9]
                  exact ⟨by rw [if_pos hxn, e9], by rw [if_pos hxn, e9]⟩
                · refine x_bipush (v := 50) C dX11_kindAt_216 (by decide) ?_
                  refine x_iload_n C dX11_kindAt_218 rfl rfl ?_
                  refine x_iadd C dX11_kindAt_219 ?_
                  refine x_goto (tgt := 226) C dX11_kindAt_220 (by decide) ?_
                  refine x_iret C E dX11_kindAt_226 ?_
                  have hl : ¬ r_lng (Ev.2 20) n x = true := by simp [r_lng, c131, c148]
                  have hs9 : r_sy1 (Ev.2 20 x) = 50 + Ev.2 20 x := by unfold r_sy1; rw [if_pos (Int32.not_le.mp c196), if_pos (Int32.not_le.mp c203), show (Ev.2 20 x).toNatClampNeg = c by rw [hfx, nI_clamp (show c < 2 ^ 31 by omega)], if_neg c213]
                  have e9 : r_kd9 (Ev.2 20) n x = (50 + Ev.2 20 x, 1) := by unfold r_kd9; rw [if_neg c24, if_neg c31, if_neg hl, hs9]
                  exact ⟨by rw [if_pos hxn, e9], by rw [if_pos hxn, e9]⟩
          · refine x_iconst (v := 1) C dX11_kindAt_151 (by decide) ?_
            refine x_goto (tgt := 156) C dX11_kindAt_152 (by decide) ?_
            refine x_istore C dX11_kindAt_156 rfl (by decide) ?_
            refine x_aload_n C dX11_kindAt_158 rfl rfl ?_
            refine x_getfield C dX11_kindAt_159 fX11_23 (rH_g0 hd) rfl ?_
            refine x_iload_n C dX11_kindAt_162 rfl rfl ?_
            refine x_iload C dX11_kindAt_163 rfl ?_
            refine x_if_eq (tgt := 172) C dX11_kindAt_165 (by decide) (fun c165 => absurd c165 (by decide)) (fun c165 => ?_)
            refine x_iconst (v := 2) C dX11_kindAt_168 (by decide) ?_
            refine x_goto (tgt := 173) C dX11_kindAt_169 (by decide) ?_
            refine x_iastore C dX11_kindAt_173 (rH_g4 hd) (nI_in hi (by decide)) ?_
            rw [nI_clamp (show i < 2 ^ 31 by omega)]
            refine x_to (rH_my hd) ?_
            refine x_iload C dX11_kindAt_174 rfl ?_
            refine x_if_eq (tgt := 195) C dX11_kindAt_176 (by decide) (fun c176 => absurd c176 (by decide)) (fun c176 => ?_)
            refine x_iload_n C dX11_kindAt_179 rfl rfl ?_
            refine x_bipush (v := 60) C dX11_kindAt_180 (by decide) ?_
            refine x_icmp_ne (tgt := 191) C dX11_kindAt_182 (by decide) (fun c182 => ?_) (fun c182 => ?_)
            · exact absurd c131 c182
            · refine x_sipush (v := 300) C dX11_kindAt_185 (by decide) ?_
              refine x_goto (tgt := 194) C dX11_kindAt_188 (by decide) ?_
              refine x_iret C E dX11_kindAt_194 ?_
              have hl : r_lng (Ev.2 20) n x = true := by simp [r_lng, c131, c148]
              have e9 : r_kd9 (Ev.2 20) n x = (300, 2) := by unfold r_kd9; rw [if_neg c24, if_neg c31, if_pos hl, if_pos c182]
              exact ⟨by rw [if_pos hxn, e9], by rw [if_pos hxn, e9]⟩
        · refine x_iload_n C dX11_kindAt_134 rfl rfl ?_
          refine x_bipush (v := 62) C dX11_kindAt_135 (by decide) ?_
          refine x_icmp_ne (tgt := 155) C dX11_kindAt_137 (by decide) (fun c137 => ?_) (fun c137 => ?_)
          · refine x_iconst (v := 0) C dX11_kindAt_155 (by decide) ?_
            refine x_istore C dX11_kindAt_156 rfl (by decide) ?_
            refine x_aload_n C dX11_kindAt_158 rfl rfl ?_
            refine x_getfield C dX11_kindAt_159 fX11_23 (rH_g0 hd) rfl ?_
            refine x_iload_n C dX11_kindAt_162 rfl rfl ?_
            refine x_iload C dX11_kindAt_163 rfl ?_
            refine x_if_eq (tgt := 172) C dX11_kindAt_165 (by decide) (fun c165 => ?_) (fun c165 => absurd (by decide) c165)
            refine x_iconst (v := 1) C dX11_kindAt_172 (by decide) ?_
            refine x_iastore C dX11_kindAt_173 (rH_g4 hd) (nI_in hi (by decide)) ?_
            rw [nI_clamp (show i < 2 ^ 31 by omega)]
            refine x_to (rH_my hd) ?_
            refine x_iload C dX11_kindAt_174 rfl ?_
            refine x_if_eq (tgt := 195) C dX11_kindAt_176 (by decide) (fun c176 => ?_) (fun c176 => absurd (by decide) c176)
            refine x_iload_n C dX11_kindAt_195 rfl rfl ?_
            refine x_if_le (tgt := 223) C dX11_kindAt_196 (by decide) (fun c196 => ?_) (fun c196 => ?_)
            · refine x_sipush (v := 901) C dX11_kindAt_223 (by decide) ?_
              refine x_iret C E dX11_kindAt_226 ?_
              have hl : ¬ r_lng (Ev.2 20) n x = true := by simp [r_lng, c131, c137]
              have hs9 : r_sy1 (Ev.2 20 x) = 901 := by unfold r_sy1; rw [if_neg (Int32.not_lt.mpr c196)]
              have e9 : r_kd9 (Ev.2 20) n x = (901, 1) := by unfold r_kd9; rw [if_neg c24, if_neg c31, if_neg hl, hs9]
              exact ⟨by rw [if_pos hxn, e9], by rw [if_pos hxn, e9]⟩
            · refine x_iload_n C dX11_kindAt_199 rfl rfl ?_
              refine x_sipush (v := 128) C dX11_kindAt_200 (by decide) ?_
              refine x_icmp_ge (tgt := 223) C dX11_kindAt_203 (by decide) (fun c203 => ?_) (fun c203 => ?_)
              · refine x_sipush (v := 901) C dX11_kindAt_223 (by decide) ?_
                refine x_iret C E dX11_kindAt_226 ?_
                have hl : ¬ r_lng (Ev.2 20) n x = true := by simp [r_lng, c131, c137]
                have hs9 : r_sy1 (Ev.2 20 x) = 901 := by unfold r_sy1; rw [if_pos (Int32.not_le.mp c196), if_neg (Int32.not_lt.mpr c203)]
                have e9 : r_kd9 (Ev.2 20) n x = (901, 1) := by unfold r_kd9; rw [if_neg c24, if_neg c31, if_neg hl, hs9]
                exact ⟨by rw [if_pos hxn, e9], by rw [if_pos hxn, e9]⟩
              · refine x_ldcS C dX11_kindAt_206 hZ ?_
                refine x_iload_n C dX11_kindAt_208 rfl rfl ?_
                refine x_i2c C dX11_kindAt_209 ?_
                refine x_topi (nI c) (by rw [hfx]; exact s_c16 c hc9) ?_
                refine x_callT (As := [_]) C dX11_kindAt_210 kX11_111 (c_J0_indexOf hO hc hsy k_SYMa hc9 (by decide)) hsy.1 rfl rfl rfl (by decide) ⟨Nat.zero_le _, Nat.zero_le _⟩ (Nat.le_of_ble_eq_true rfl) ?_
                rintro _ _ ⟨rfl, rfl⟩
                refine x_if_lt (tgt := 223) C dX11_kindAt_213 (by decide) (fun c213 => ?_) (fun c213 => ?_)
                · refine x_sipush (v := 901) C dX11_kindAt_223 (by decide) ?_
                  refine x_iret C E dX11_kindAt_226 ?_
                  have hl : ¬ r_lng (Ev.2 20) n x = true := by simp [r_lng, c131, c137]
                  have hs9 : r_sy1 (Ev.2 20 x) = 901 := by unfold r_sy1; rw [if_pos (Int32.not_le.mp c196), if_pos (Int32.not_le.mp c203), show (Ev.2 20 x).toNatClampNeg = c by rw [hfx, nI_clamp (show c < 2 ^ 31 by omega)], if_pos c213]
                  have e9 : r_kd9 (Ev.2 20) n x = (901, 1) := by unfold r_kd9; rw [if_neg c24, if_neg c31, if_neg hl, hs9]
                  exact ⟨by rw [if_pos hxn, e9], by rw [if_pos hxn, e9]⟩
                · refine x_bipush (v := 50) C dX11_kindAt_216 (by decide) ?_
                  refine x_iload_n C dX11_kindAt_218 rfl rfl ?_
                  refine x_iadd C dX11_kindAt_219 ?_
                  refine x_goto (tgt := 226) C dX11_kindAt_220 (by decide) ?_
                  refine x_iret C E dX11_kindAt_226 ?_
                  have hl : ¬ r_lng (Ev.2 20) n x = true := by simp [r_lng, c131, c137]
                  have hs9 : r_sy1 (Ev.2 20 x) = 50 + Ev.2 20 x := by unfold r_sy1; rw [if_pos (Int32.not_le.mp c196), if_pos (Int32.not_le.mp c203), show (Ev.2 20 x).toNatClampNeg = c by rw [hfx, nI_clamp (show c < 2 ^ 31 by omega)], if_neg c213]
                  have e9 : r_kd9 (Ev.2 20) n x = (50 + Ev.2 20 x, 1) := by unfold r_kd9; rw [if_neg c24, if_neg c31, if_neg hl, hs9]
                  exact ⟨by rw [if_pos hxn, e9], by rw [if_pos hxn, e9]⟩
          · refine x_aload_n C dX11_kindAt_140 rfl rfl ?_
            refine x_iload C dX11_kindAt_141 rfl ?_
            refine x_callV1 C dX11_kindAt_143 kX11_96 (c_X11_byteOf hO (rH_B hd) hn hn2 (by omega)) (rH_g0 hd) rfl (by decide) ⟨Nat.zero_le _, Nat.zero_le _⟩ (Nat.le_of_ble_eq_true rfl) ?_
            rintro _ _ ⟨rfl, rfl⟩
            refine x_bipush (v := 61) C dX11_kindAt_146 (by decide) ?_
            refine x_icmp_ne (tgt := 155) C dX11_kindAt_148 (by decide) (fun c148 => ?_) (fun c148 => ?_)
            · refine x_iconst (v := 0) C dX11_kindAt_155 (by decide) ?_
              refine x_istore C dX11_kindAt_156 rfl (by decide) ?_
              refine x_aload_n C dX11_kindAt_158 rfl rfl ?_
              refine x_getfield C dX11_kindAt_159 fX11_23 (rH_g0 hd) rfl ?_
              refine x_iload_n C dX11_kindAt_162 rfl rfl ?_
              refine x_iload C dX11_kindAt_163 rfl ?_
              refine x_if_eq (tgt := 172) C dX11_kindAt_165 (by decide) (fun c165 => ?_) (fun c165 => absurd (by decide) c165)
              refine x_iconst (v := 1) C dX11_kindAt_172 (by decide) ?_
              refine x_iastore C dX11_kindAt_173 (rH_g4 hd) (nI_in hi (by decide)) ?_
              rw [nI_clamp (show i < 2 ^ 31 by omega)]
              refine x_to (rH_my hd) ?_
              refine x_iload C dX11_kindAt_174 rfl ?_
              refine x_if_eq (tgt := 195) C dX11_kindAt_176 (by decide) (fun c176 => ?_) (fun c176 => absurd (by decide) c176)
              refine x_iload_n C dX11_kindAt_195 rfl rfl ?_
              refine x_if_le (tgt := 223) C dX11_kindAt_196 (by decide) (fun c196 => ?_) (fun c196 => ?_)
              · refine x_sipush (v := 901) C dX11_kindAt_223 (by decide) ?_
                refine x_iret C E dX11_kindAt_226 ?_
                have hl : ¬ r_lng (Ev.2 20) n x = true := by simp [r_lng, c131, c137, c148]
                have hs9 : r_sy1 (Ev.2 20 x) = 901 := by unfold r_sy1; rw [if_neg (Int32.not_lt.mpr c196)]
                have e9 : r_kd9 (Ev.2 20) n x = (901, 1) := by unfold r_kd9; rw [if_neg c24, if_neg c31, if_neg hl, hs9]
                exact ⟨by rw [if_pos hxn, e9], by rw [if_pos hxn, e9]⟩
              · refine x_iload_n C dX11_kindAt_199 rfl rfl ?_
                refine x_sipush (v := 128) C dX11_kindAt_200 (by decide) ?_
                refine x_icmp_ge (tgt := 223) C dX11_kindAt_203 (by decide) (fun c203 => ?_) (fun c203 => ?_)
                · refine x_sipush (v := 901) C dX11_kindAt_223 (by decide) ?_
                  refine x_iret C E dX11_kindAt_226 ?_
                  have hl : ¬ r_lng (Ev.2 20) n x = true := by simp [r_lng, c131, c137, c148]
                  have hs9 : r_sy1 (Ev.2 20 x) = 901 := by unfold r_sy1; rw [if_pos (Int32.not_le.mp c196), if_neg (Int32.not_lt.mpr c203)]
                  have e9 : r_kd9 (Ev.2 20) n x = (901, 1) := by unfold r_kd9; rw [if_neg c24, if_neg c31, if_neg hl, hs9]
                  exact ⟨by rw [if_pos hxn, e9], by rw [if_pos hxn, e9]⟩
                · refine x_ldcS C dX11_kindAt_206 hZ ?_
                  refine x_iload_n C dX11_kindAt_208 rfl rfl ?_
                  refine x_i2c C dX11_kindAt_209 ?_
                  refine x_topi (nI c) (by rw [hfx]; exact s_c16 c hc9) ?_
                  refine x_callT (As := [_]) C dX11_kindAt_210 kX11_111 (c_J0_indexOf hO hc hsy k_SYMa hc9 (by decide)) hsy.1 rfl rfl rfl (by decide) ⟨Nat.zero_le _, Nat.zero_le _⟩ (Nat.le_of_ble_eq_true rfl) ?_
                  rintro _ _ ⟨rfl, rfl⟩
                  refine x_if_lt (tgt := 223) C dX11_kindAt_213 (by decide) (fun c213 => ?_) (fun c213 => ?_)
                  · refine x_sipush (v := 901) C dX11_kindAt_223 (by decide) ?_
                    refine x_iret C E dX11_kindAt_226 ?_
                    have hl : ¬ r_lng (Ev.2 20) n x = true := by simp [r_lng, c131, c137, c148]
                    have hs9 : r_sy1 (Ev.2 20 x) = 901 := by unfold r_sy1; rw [if_pos (Int32.not_le.mp c196), if_pos (Int32.not_le.mp c203), show (Ev.2 20 x).toNatClampNeg = c by rw [hfx, nI_clamp (show c < 2 ^ 31 by omega)], if_pos c213]
                    have e9 : r_kd9 (Ev.2 20) n x = (901, 1) := by unfold r_kd9; rw [if_neg c24, if_neg c31, if_neg hl, hs9]
                    exact ⟨by rw [if_pos hxn, e9], by rw [if_pos hxn, e9]⟩
                  · refine x_bipush (v := 50) C dX11_kindAt_216 (by decide) ?_
                    refine x_iload_n C dX11_kindAt_218 rfl rfl ?_
                    refine x_iadd C dX11_kindAt_219 ?_
                    refine x_goto (tgt := 226) C dX11_kindAt_220 (by decide) ?_
                    refine x_iret C E dX11_kindAt_226 ?_
                    have hl : ¬ r_lng (Ev.2 20) n x = true := by simp [r_lng, c131, c137, c148]
                    have hs9 : r_sy1 (Ev.2 20 x) = 50 + Ev.2 20 x := by unfold r_sy1; rw [if_pos (Int32.not_le.mp c196), if_pos (Int32.not_le.mp c203), show (Ev.2 20 x).toNatClampNeg = c by rw [hfx, nI_clamp (show c < 2 ^ 31 by omega)], if_neg c213]
                    have e9 : r_kd9 (Ev.2 20) n x = (50 + Ev.2 20 x, 1) := by unfold r_kd9; rw [if_neg c24, if_neg c31, if_neg hl, hs9]
                    exact ⟨by rw [if_pos hxn, e9], by rw [if_pos hxn, e9]⟩
            · refine x_iconst (v := 1) C dX11_kindAt_151 (by decide) ?_
              refine x_goto (tgt := 156) C dX11_kindAt_152 (by decide) ?_
              refine x_istore C dX11_kindAt_156 rfl (by decide) ?_
              refine x_aload_n C dX11_kindAt_158 rfl rfl ?_
              refine x_getfield C dX11_kindAt_159 fX11_23 (rH_g0 hd) rfl ?_
              refine x_iload_n C dX11_kindAt_162 rfl rfl ?_
              refine x_iload C dX11_kindAt_163 rfl ?_
              refine x_if_eq (tgt := 172) C dX11_kindAt_165 (by decide) (fun c165 => absurd c165 (by decide)) (fun c165 => ?_)
              refine x_iconst (v := 2) C dX11_kindAt_168 (by decide) ?_
              refine x_goto (tgt := 173) C dX11_kindAt_169 (by decide) ?_
              refine x_iastore C dX11_kindAt_173 (rH_g4 hd) (nI_in hi (by decide)) ?_
              rw [nI_clamp (show i < 2 ^ 31 by omega)]
              refine x_to (rH_my hd) ?_
              refine x_iload C dX11_kindAt_174 rfl ?_
              refine x_if_eq (tgt := 195) C dX11_kindAt_176 (by decide) (fun c176 => absurd c176 (by decide)) (fun c176 => ?_)
              refine x_iload_n C dX11_kindAt_179 rfl rfl ?_
              refine x_bipush (v := 60) C dX11_kindAt_180 (by decide) ?_
              refine x_icmp_ne (tgt := 191) C dX11_kindAt_182 (by decide) (fun c182 => ?_) (fun c182 => ?_)
              · refine x_sipush (v := 301) C dX11_kindAt_191 (by decide) ?_
                refine x_iret C E dX11_kindAt_194 ?_
                have hl : r_lng (Ev.2 20) n x = true := by simp [r_lng, c131, c137, c148]
                have e9 : r_kd9 (Ev.2 20) n x = (301, 2) := by unfold r_kd9; rw [if_neg c24, if_neg c31, if_pos hl, if_neg c182]
                exact ⟨by rw [if_pos hxn, e9], by rw [if_pos hxn, e9]⟩
              · exact absurd c182 c131
      · have c31 := b_y c31
        exact lp hxn (Or.inr c31) 2001 (x + 1) (by omega) (by omega) (by omega) (by rw [r_runE]; exact (r_runB (r_qq1 _) 2001 (x + 1) (by omega) (by omega)).symm)
  · have hxn : ¬ x < n := fun q => r_by_ne hby q c13
    refine x_sipush (v := 900) C dX11_kindAt_16 (by decide) ?_
    refine x_iret C E dX11_kindAt_19 ?_
    exact ⟨by rw [if_neg hxn], by rw [if_neg hxn]⟩
