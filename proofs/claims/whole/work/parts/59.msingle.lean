set_option maxHeartbeats 4000000 in
set_option maxRecDepth 100000 in
theorem c_X11_isSingle {l : Launch} {Y0 : x_Y} (hO : x_Ok Y0) {M : x_M} {o r N : Nat} {Ev : rE} {R : rS} (hd : o + 7 ≤ r) (hN : r_tok (tE Ev) N) (hk : r_ok N R) (hb : rB M o r Ev R) {dp d : Nat} (hdp0 : R.1.2 = dp) {dO dT dS : Nat} {fo ft fs : rF} (hd1 : dO + 1 ≤ d) (hd2 : dT + 1 ≤ d) (hd3 : dS + 1 ≤ d) (hd4 : 6 ≤ d) (hfo : dp < 8 → r_gd N fo) (hft : dp < 8 → r_gd N ft) (hfs : r_gd N fs) (hO8 : dp < 8 → rCt l Y0 yX11_isSingle cX11_isSingle 2 dO o r N Ev (dp + 1) fo) (hT8 : dp < 8 → rCt l Y0 yX11_isTest cX11_isTest 1 dT o r N Ev (dp + 1) ft) (hS : rCt l Y0 yX11_isSum cX11_isSum 2 dS o r N Ev dp fs) : x_C l Y0 yX11_isSingle cX11_isSingle 2 (some .boolean) d 0 0 [.ref o] M (fun u M1 => u = some (.int (h_b (r_single (tE Ev) fo ft fs R).2)) ∧ M1 = rH M o r Ev (r_single (tE Ev) fo ft fs R).1) := by
  refine x_start hO (by decide +kernel) (Nat.le_of_ble_eq_true rfl) (fun K C E => ?_)
  have hN4 : N ≤ 400 := hN.1
  have ha := hk
  obtain ⟨ha1, ha2, ha3, ha4⟩ := ha
  refine x_to (rH_self hb).symm ?_
  have j215 : ∀ (x : Int32), x = r_how ((tE Ev).1 (fs R).1.1.1) → ¬ (tE Ev).1 R.1.1 = 17 → ¬ (tE Ev).1 R.1.1 = 141 → ¬ (tE Ev).1 R.1.1 = 16 → (fs R).2 = true → x_X K 2 0 0 215 [(0, .ref o)] [.int x] (rH M o r Ev (fs R).1) := by
      intro x hx c6 c49 c91 c137
      subst hx
      have g0 := hfs _ hk
      have hk1 := r_st_ok hk g0.1
      refine x_istore_n C dX11_isSingle_215 rfl rfl (by decide) ?_
      refine x_iload_n C dX11_isSingle_216 rfl rfl ?_
      refine x_iconst (v := (-1)) C dX11_isSingle_217 (by decide) ?_
      refine x_icmp_ne (tgt := 223) C dX11_isSingle_218 (by decide) (fun c218 => ?_) (fun c218 => ?_)
      · obtain ⟨d1, -⟩ := r_ok_adv hN hk1 rfl (r_how_lt c218)
        obtain ⟨-, gs, -⟩ := r_gd_op (x := r_how ((tE Ev).1 (fs R).1.1.1)) (i := (0, 0, none)) hN hk1 rfl (r_how_lt c218) hfs
        refine x_aload_n C dX11_isSingle_223 rfl rfl ?_
        refine x_dup C dX11_isSingle_224 rfl ?_
        refine x_getfield C dX11_isSingle_225 fX11_131 (rH_g0 hd) rfl ?_
        refine x_iconst (v := 1) C dX11_isSingle_228 (by decide) ?_
        refine x_iadd C dX11_isSingle_229 ?_
        rw [nI_1]
        refine x_putfield C dX11_isSingle_230 fX11_131 (rH_g0 hd) rfl rfl (Nat.le_of_ble_eq_true rfl) ?_
        refine x_to (rH_adv hd) ?_
        refine x_to (show _ = rH M o r Ev (r_adv (fs R).1) from rfl) ?_
        refine x_aload_n C dX11_isSingle_233 rfl rfl ?_
        refine x_callV0 C dX11_isSingle_234 kX11_202 (hS _ _ d1 (show (fs R).1.1.2 = dp from (g0.2 c137).2.trans hdp0) (rH_B hd)) (rH_g0 hd) rfl (by omega) ⟨Nat.zero_le _, Nat.zero_le _⟩ (Nat.le_of_ble_eq_true rfl) ?_
        rintro _ _ ⟨rfl, rfl⟩
        refine x_to (rH_H hd) ?_
        refine x_if_ne (tgt := 242) C dX11_isSingle_237 (by decide) (fun c237 => ?_) (fun c237 => ?_)
        · have c237 := b_y c237
          refine x_aload_n C dX11_isSingle_242 rfl rfl ?_
          refine x_iload_n C dX11_isSingle_243 rfl rfl ?_
          refine x_callV1 C dX11_isSingle_244 kX11_177 (c_X11_put hO hd (show (fs (r_adv (fs R).1)).1.2.1.length < 800 by omega) (rH_B hd)) (rH_g0 hd) rfl (by omega) ⟨Nat.zero_le _, Nat.zero_le _⟩ (Nat.le_of_ble_eq_true rfl) ?_
          rintro _ _ ⟨rfl, rfl⟩
          refine x_to (rH_H hd) ?_
          refine x_to (show _ = rH M o r Ev (r_gh (r_put (fs (r_adv (fs R).1)).1 (r_how ((tE Ev).1 (fs R).1.1.1))) (r_hwn ((tE Ev).1 (fs R).1.1.1), 0, none)) from rfl) ?_
          refine x_iconst (v := 1) C dX11_isSingle_247 (by decide) ?_
          refine x_zret C E dX11_isSingle_248 rfl ?_
          refine ⟨?_, ?_⟩
          · first | (simp only [r_single, r_awk, r_cmp, if_neg c6, if_neg c49, if_neg c91, if_pos c137, if_neg c218, if_pos c237, r_eat_n c91, h_bd, h_bT, h_bF, if_true, if_false, Bool.false_eq_true]; done) | (simp only [r_single, r_awk, r_cmp, if_neg c6, if_neg c49, if_neg c91, if_pos c137, if_neg c218, if_pos c237, r_eat_n c91, h_bd, h_bT, h_bF, if_true, if_false, Bool.false_eq_true]; rfl)
          · refine congrArg (rH M o r Ev) ?_
            simp only [r_single, r_awk, r_cmp, if_neg c6, if_neg c49, if_neg c91, if_pos c137, if_neg c218, if_pos c237, r_eat_n c91, h_bd, h_bT, h_bF, if_true, if_false, Bool.false_eq_true]
        · have c237 := b_n c237
          refine x_iconst (v := 0) C dX11_isSingle_240 (by decide) ?_
          refine x_zret C E dX11_isSingle_241 rfl ?_
          refine ⟨?_, ?_⟩
          · first | (simp only [r_single, r_awk, r_cmp, if_neg c6, if_neg c49, if_neg c91, if_pos c137, if_neg c218, if_neg c237, r_eat_n c91, h_bd, h_bT, h_bF, if_true, if_false, Bool.false_eq_true]; done) | (simp only [r_single, r_awk, r_cmp, if_neg c6, if_neg c49, if_neg c91, if_pos c137, if_neg c218, if_neg c237, r_eat_n c91, h_bd, h_bT, h_bF, if_true, if_false, Bool.false_eq_true]; rfl)
          · refine congrArg (rH M o r Ev) ?_
            simp only [r_single, r_awk, r_cmp, if_neg c6, if_neg c49, if_neg c91, if_pos c137, if_neg c218, if_neg c237, r_eat_n c91, h_bd, h_bT, h_bF, if_true, if_false, Bool.false_eq_true]
      · refine x_iconst (v := 0) C dX11_isSingle_221 (by decide) ?_
        refine x_zret C E dX11_isSingle_222 rfl ?_
        refine ⟨?_, ?_⟩
        · first | (simp only [r_single, r_awk, r_cmp, if_neg c6, if_neg c49, if_neg c91, if_pos c137, if_pos c218, r_eat_n c91, h_bd, h_bT, h_bF, if_true, if_false, Bool.false_eq_true]; done) | (simp only [r_single, r_awk, r_cmp, if_neg c6, if_neg c49, if_neg c91, if_pos c137, if_pos c218, r_eat_n c91, h_bd, h_bT, h_bF, if_true, if_false, Bool.false_eq_true]; rfl)
        · refine congrArg (rH M o r Ev) ?_
          simp only [r_single, r_awk, r_cmp, if_neg c6, if_neg c49, if_neg c91, if_pos c137, if_pos c218, r_eat_n c91, h_bd, h_bT, h_bF, if_true, if_false, Bool.false_eq_true]
  refine x_aload_n C dX11_isSingle_0 rfl rfl ?_
  refine x_bipush (v := 17) C dX11_isSingle_1 (by decide) ?_
  refine x_callV1 C dX11_isSingle_3 kX11_134 (c_X11_is hO hd hN hk.1 (rH_B hd)) (rH_g0 hd) rfl (by omega) ⟨Nat.zero_le _, Nat.zero_le _⟩ (Nat.le_of_ble_eq_true rfl) ?_
  rintro _ _ ⟨rfl, rfl⟩
  refine x_if_eq (tgt := 43) C dX11_isSingle_6 (by decide) (fun c6 => ?_) (fun c6 => ?_)
  · have c6 := b_n c6
    refine x_aload_n C dX11_isSingle_43 rfl rfl ?_
    refine x_bipush (v := 91) C dX11_isSingle_44 (by decide) ?_
    refine x_callV1 C dX11_isSingle_46 kX11_199 (c_X11_isSign hO hd hN hk.1 (rH_B hd) (w := 141) (by decide)) (rH_g0 hd) rfl (by omega) ⟨Nat.zero_le _, Nat.zero_le _⟩ (Nat.le_of_ble_eq_true rfl) ?_
    rintro _ _ ⟨rfl, rfl⟩
    refine x_if_eq (tgt := 85) C dX11_isSingle_49 (by decide) (fun c49 => ?_) (fun c49 => ?_)
    · have c49 := b_n c49
      refine x_aload_n C dX11_isSingle_85 rfl rfl ?_
      refine x_bipush (v := 16) C dX11_isSingle_86 (by decide) ?_
      refine x_callV1 C dX11_isSingle_88 kX11_137 (c_X11_eat hO hd hN hk.1 (rH_B hd)) (rH_g0 hd) rfl (by omega) ⟨Nat.zero_le _, Nat.zero_le _⟩ (Nat.le_of_ble_eq_true rfl) ?_
      rintro _ _ ⟨rfl, rfl⟩
      refine x_to (rH_H hd) ?_
      refine x_if_eq (tgt := 133) C dX11_isSingle_91 (by decide) (fun c91 => ?_) (fun c91 => ?_)
      · have c91 := b_n c91
        rw [r_eat_n c91]
        refine x_aload_n C dX11_isSingle_133 rfl rfl ?_
        refine x_callV0 C dX11_isSingle_134 kX11_202 (hS _ _ hk hdp0 (rH_B hd)) (rH_g0 hd) rfl (by omega) ⟨Nat.zero_le _, Nat.zero_le _⟩ (Nat.le_of_ble_eq_true rfl) ?_
        rintro _ _ ⟨rfl, rfl⟩
        refine x_to (rH_H hd) ?_
        refine x_if_ne (tgt := 142) C dX11_isSingle_137 (by decide) (fun c137 => ?_) (fun c137 => ?_)
        · have c137 := b_y c137
          have g0 := hfs _ hk
          have hk1 := r_st_ok hk g0.1
          refine x_aload_n C dX11_isSingle_142 rfl rfl ?_
          refine x_bipush (v := 60) C dX11_isSingle_143 (by decide) ?_
          refine x_callV1 C dX11_isSingle_145 kX11_199 (c_X11_isSign hO hd hN hk1.1 (rH_B hd) (w := 110) (by decide)) (rH_g0 hd) rfl (by omega) ⟨Nat.zero_le _, Nat.zero_le _⟩ (Nat.le_of_ble_eq_true rfl) ?_
          rintro _ _ ⟨rfl, rfl⟩
          refine x_if_eq (tgt := 156) C dX11_isSingle_148 (by decide) (fun c148 => ?_) (fun c148 => ?_)
          · have c148 := b_n c148
            refine x_aload_n C dX11_isSingle_156 rfl rfl ?_
            refine x_bipush (v := 62) C dX11_isSingle_157 (by decide) ?_
            refine x_callV1 C dX11_isSingle_159 kX11_199 (c_X11_isSign hO hd hN hk1.1 (rH_B hd) (w := 112) (by decide)) (rH_g0 hd) rfl (by omega) ⟨Nat.zero_le _, Nat.zero_le _⟩ (Nat.le_of_ble_eq_true rfl) ?_
            rintro _ _ ⟨rfl, rfl⟩
            refine x_if_eq (tgt := 170) C dX11_isSingle_162 (by decide) (fun c162 => ?_) (fun c162 => ?_)
            · have c162 := b_n c162
              refine x_aload_n C dX11_isSingle_170 rfl rfl ?_
              refine x_bipush (v := 61) C dX11_isSingle_171 (by decide) ?_
              refine x_callV1 C dX11_isSingle_173 kX11_199 (c_X11_isSign hO hd hN hk1.1 (rH_B hd) (w := 111) (by decide)) (rH_g0 hd) rfl (by omega) ⟨Nat.zero_le _, Nat.zero_le _⟩ (Nat.le_of_ble_eq_true rfl) ?_
              rintro _ _ ⟨rfl, rfl⟩
              refine x_if_eq (tgt := 184) C dX11_isSingle_176 (by decide) (fun c176 => ?_) (fun c176 => ?_)
              · have c176 := b_n c176
                refine x_aload_n C dX11_isSingle_184 rfl rfl ?_
                refine x_sipush (v := 300) C dX11_isSingle_185 (by decide) ?_
                refine x_callV1 C dX11_isSingle_188 kX11_134 (c_X11_is hO hd hN hk1.1 (rH_B hd)) (rH_g0 hd) rfl (by omega) ⟨Nat.zero_le _, Nat.zero_le _⟩ (Nat.le_of_ble_eq_true rfl) ?_
                rintro _ _ ⟨rfl, rfl⟩
                refine x_if_eq (tgt := 199) C dX11_isSingle_191 (by decide) (fun c191 => ?_) (fun c191 => ?_)
                · have c191 := b_n c191
                  refine x_aload_n C dX11_isSingle_199 rfl rfl ?_
                  refine x_sipush (v := 301) C dX11_isSingle_200 (by decide) ?_
                  refine x_callV1 C dX11_isSingle_203 kX11_134 (c_X11_is hO hd hN hk1.1 (rH_B hd)) (rH_g0 hd) rfl (by omega) ⟨Nat.zero_le _, Nat.zero_le _⟩ (Nat.le_of_ble_eq_true rfl) ?_
                  rintro _ _ ⟨rfl, rfl⟩
                  refine x_if_eq (tgt := 214) C dX11_isSingle_206 (by decide) (fun c206 => ?_) (fun c206 => ?_)
                  · have c206 := b_n c206
                    refine x_iconst (v := (-1)) C dX11_isSingle_214 (by decide) ?_
                    exact j215 _ (by simp only [r_how, if_neg c148, if_neg c162, if_neg c176, if_neg c191, if_neg c206]) c6 c49 c91 c137
                  · have c206 := b_y c206
                    refine x_bipush (v := 44) C dX11_isSingle_209 (by decide) ?_
                    refine x_goto (tgt := 215) C dX11_isSingle_211 (by decide) ?_
                    exact j215 _ (by simp only [r_how, if_neg c148, if_neg c162, if_neg c176, if_neg c191, if_pos c206]) c6 c49 c91 c137
                · have c191 := b_y c191
                  refine x_bipush (v := 43) C dX11_isSingle_194 (by decide) ?_
                  refine x_goto (tgt := 215) C dX11_isSingle_196 (by decide) ?_
                  exact j215 _ (by simp only [r_how, if_neg c148, if_neg c162, if_neg c176, if_pos c191]) c6 c49 c91 c137
              · have c176 := b_y c176
                refine x_bipush (v := 42) C dX11_isSingle_179 (by decide) ?_
                refine x_goto (tgt := 215) C dX11_isSingle_181 (by decide) ?_
                exact j215 _ (by simp only [r_how, if_neg c148, if_neg c162, if_pos c176]) c6 c49 c91 c137
            · have c162 := b_y c162
              refine x_bipush (v := 39) C dX11_isSingle_165 (by decide) ?_
              refine x_goto (tgt := 215) C dX11_isSingle_167 (by decide) ?_
              exact j215 _ (by simp only [r_how, if_neg c148, if_pos c162]) c6 c49 c91 c137
          · have c148 := b_y c148
            refine x_bipush (v := 38) C dX11_isSingle_151 (by decide) ?_
            refine x_goto (tgt := 215) C dX11_isSingle_153 (by decide) ?_
            exact j215 _ (by simp only [r_how, if_pos c148]) c6 c49 c91 c137
        · have c137 := b_n c137
          refine x_iconst (v := 0) C dX11_isSingle_140 (by decide) ?_
          refine x_zret C E dX11_isSingle_141 rfl ?_
          refine ⟨?_, ?_⟩
          · first | (simp only [r_single, r_awk, r_cmp, if_neg c6, if_neg c49, if_neg c91, if_neg c137, r_eat_n c91, h_bd, h_bT, h_bF, if_true, if_false, Bool.false_eq_true]; done) | (simp only [r_single, r_awk, r_cmp, if_neg c6, if_neg c49, if_neg c91, if_neg c137, r_eat_n c91, h_bd, h_bT, h_bF, if_true, if_false, Bool.false_eq_true]; rfl)
          · refine congrArg (rH M o r Ev) ?_
            simp only [r_single, r_awk, r_cmp, if_neg c6, if_neg c49, if_neg c91, if_neg c137, r_eat_n c91, h_bd, h_bT, h_bF, if_true, if_false, Bool.false_eq_true]
      · have c91 := b_y c91
        rw [r_eat_p c91]
        have hlt : R.1.1 < N := r_ltn hN ha1 c91 (by decide)
        have hl0 : (r_adv R).2.1.length < 800 := by show R.2.1.length < 800; omega
        have hl1 : (r_put (r_adv R) 16).2.1.length < 800 := by show (R.2.1 ++ [16]).length < 800; rw [r_app1]; omega
        have hp2 : (r_put (r_adv R) 16).2.2.1.length < 400 := by show R.2.2.1.length < 400; omega
        refine x_aload_n C dX11_isSingle_94 rfl rfl ?_
        refine x_bipush (v := 16) C dX11_isSingle_95 (by decide) ?_
        refine x_callV1 C dX11_isSingle_97 kX11_177 (c_X11_put hO hd hl0 (rH_B hd)) (rH_g0 hd) rfl (by omega) ⟨Nat.zero_le _, Nat.zero_le _⟩ (Nat.le_of_ble_eq_true rfl) ?_
        rintro _ _ ⟨rfl, rfl⟩
        refine x_to (rH_H hd) ?_
        refine x_aload_n C dX11_isSingle_100 rfl rfl ?_
        refine x_bipush (v := 9) C dX11_isSingle_101 (by decide) ?_
        refine x_callV1 C dX11_isSingle_103 kX11_134 (c_X11_is hO hd hN (show (r_put (r_adv R) 16).1.1 ≤ N from hlt) (rH_B hd)) (rH_g0 hd) rfl (by omega) ⟨Nat.zero_le _, Nat.zero_le _⟩ (Nat.le_of_ble_eq_true rfl) ?_
        rintro _ _ ⟨rfl, rfl⟩
        refine x_if_ne (tgt := 115) C dX11_isSingle_106 (by decide) (fun c106 => ?_) (fun c106 => ?_)
        · have c106 := b_y c106
          refine x_aload_n C dX11_isSingle_115 rfl rfl ?_
          refine x_bipush (v := 8) C dX11_isSingle_116 (by decide) ?_
          refine x_callV1 C dX11_isSingle_118 kX11_177 (c_X11_put hO hd hl1 (rH_B hd)) (rH_g0 hd) rfl (by omega) ⟨Nat.zero_le _, Nat.zero_le _⟩ (Nat.le_of_ble_eq_true rfl) ?_
          rintro _ _ ⟨rfl, rfl⟩
          refine x_to (rH_H hd) ?_
          refine x_aload_n C dX11_isSingle_121 rfl rfl ?_
          refine x_dup C dX11_isSingle_122 rfl ?_
          refine x_getfield C dX11_isSingle_123 fX11_131 (rH_g0 hd) rfl ?_
          refine x_iconst (v := 1) C dX11_isSingle_126 (by decide) ?_
          refine x_iadd C dX11_isSingle_127 ?_
          rw [nI_1]
          refine x_putfield C dX11_isSingle_128 fX11_131 (rH_g0 hd) rfl rfl (Nat.le_of_ble_eq_true rfl) ?_
          refine x_to (rH_adv hd) ?_
          refine x_to (show _ = rH M o r Ev (r_adv (r_put (r_put (r_adv R) 16) 8)) from rfl) ?_
          refine x_to (show _ = rH M o r Ev (r_gh (r_adv (r_put (r_put (r_adv R) 16) 8)) (272, 8, none)) from rfl) ?_
          refine x_iconst (v := 1) C dX11_isSingle_131 (by decide) ?_
          refine x_zret C E dX11_isSingle_132 rfl ?_
          refine ⟨?_, ?_⟩
          · first | (simp only [r_single, r_awk, r_cmp, if_neg c6, if_neg c49, if_pos c91, if_pos c106, r_eat_p c91, h_bd, h_bT, h_bF, if_true, if_false, Bool.false_eq_true]; done) | (simp only [r_single, r_awk, r_cmp, if_neg c6, if_neg c49, if_pos c91, if_pos c106, r_eat_p c91, h_bd, h_bT, h_bF, if_true, if_false, Bool.false_eq_true]; rfl)
          · refine congrArg (rH M o r Ev) ?_
            simp only [r_single, r_awk, r_cmp, if_neg c6, if_neg c49, if_pos c91, if_pos c106, r_eat_p c91, h_bd, h_bT, h_bF, if_true, if_false, Bool.false_eq_true]
        · have c106 := b_n c106
          refine x_aload_n C dX11_isSingle_109 rfl rfl ?_
          refine x_iconst (v := 5) C dX11_isSingle_110 (by decide) ?_
          refine x_callV1 C dX11_isSingle_111 kX11_193 (c_X11_isName (R := (r_put (r_adv R) 16)) hO hd hN hlt (rH_B hd) hl1 hp2) (rH_g0 hd) rfl (by omega) ⟨Nat.zero_le _, Nat.zero_le _⟩ (Nat.le_of_ble_eq_true rfl) ?_
          rintro _ _ ⟨rfl, rfl⟩
          refine x_to (rH_H hd) ?_
          refine x_to (show _ = rH M o r Ev (r_gh (r_name (tE Ev) (r_put (r_adv R) 16) 5) (272, 0, some (r_adv R).1.1)) from rfl) ?_
          refine x_zret C E dX11_isSingle_114 (by split <;> rfl) ?_
          refine ⟨?_, ?_⟩
          · first | (simp only [r_single, r_awk, r_cmp, if_neg c6, if_neg c49, if_pos c91, if_neg c106, r_eat_p c91, h_bd, h_bT, h_bF, if_true, if_false, Bool.false_eq_true]; done) | (simp only [r_single, r_awk, r_cmp, if_neg c6, if_neg c49, if_pos c91, if_neg c106, r_eat_p c91, h_bd, h_bT, h_bF, if_true, if_false, Bool.false_eq_true]; rfl)
          · refine congrArg (rH M o r Ev) ?_
            simp only [r_single, r_awk, r_cmp, if_neg c6, if_neg c49, if_pos c91, if_neg c106, r_eat_p c91, h_bd, h_bT, h_bF, if_true, if_false, Bool.false_eq_true]
    · have c49 := b_y c49
      refine x_aload_n C dX11_isSingle_52 rfl rfl ?_
      refine x_callV0 C dX11_isSingle_53 kX11_196 (c_X11_isDeeper hO hd hN hk.1 (rH_B hd) hk.2.1) (rH_g0 hd) rfl (by omega) ⟨Nat.zero_le _, Nat.zero_le _⟩ (Nat.le_of_ble_eq_true rfl) ?_
      rintro _ _ ⟨rfl, rfl⟩
      refine x_to (rH_H hd) ?_
      refine x_if_eq (tgt := 66) C dX11_isSingle_56 (by decide) (fun c56 => ?_) (fun c56 => ?_)
      · have c56 := b_n c56
        have c56 : R.1.2 = 8 := Decidable.byContradiction c56
        refine x_iconst (v := 0) C dX11_isSingle_66 (by decide) ?_
        refine x_zret C E dX11_isSingle_67 rfl ?_
        refine ⟨?_, ?_⟩
        · first | (simp only [r_single, r_awk, r_cmp, if_neg c6, if_pos c49, if_pos c56, h_bd, h_bT, h_bF, if_true, if_false, Bool.false_eq_true]; done) | (simp only [r_single, r_awk, r_cmp, if_neg c6, if_pos c49, if_pos c56, h_bd, h_bT, h_bF, if_true, if_false, Bool.false_eq_true]; rfl)
        · refine congrArg (rH M o r Ev) ?_
          simp only [r_single, r_awk, r_cmp, if_neg c6, if_pos c49, if_pos c56, h_bd, h_bT, h_bF, if_true, if_false, Bool.false_eq_true]
      · have c56 := b_y c56
        obtain ⟨hk1, hq1, hr1⟩ := r_ok_deep hN hk c49 (by decide) c56
        have h8 : dp < 8 := by omega
        have hp1 : (r_deep R).1.2 = dp + 1 := by rw [hq1, ← hdp0]
        obtain ⟨g1, g2⟩ := r_gd_dp (x := 17) (i := (273, 0, none)) hN hk c49 (by decide) c56 (hft h8)
        refine x_aload_n C dX11_isSingle_59 rfl rfl ?_
        refine x_callV0 C dX11_isSingle_60 kX11_168 (hT8 h8 _ _ hk1 hp1 (rH_B hd)) (rH_g0 hd) rfl (by omega) ⟨Nat.zero_le _, Nat.zero_le _⟩ (Nat.le_of_ble_eq_true rfl) ?_
        rintro _ _ ⟨rfl, rfl⟩
        refine x_to (rH_H hd) ?_
        refine x_if_ne (tgt := 68) C dX11_isSingle_63 (by decide) (fun c63 => ?_) (fun c63 => ?_)
        · have c63 := b_y c63
          obtain ⟨-, -, -, e4, hs4⟩ := g2 c63
          refine x_aload_n C dX11_isSingle_68 rfl rfl ?_
          refine x_dup C dX11_isSingle_69 rfl ?_
          refine x_getfield C dX11_isSingle_70 fX11_184 (rH_g0 hd) rfl ?_
          refine x_iconst (v := 1) C dX11_isSingle_73 (by decide) ?_
          refine x_isub C dX11_isSingle_74 ?_
          refine x_topi (nI ((ft (r_deep R)).1.1.2 - 1)) (by rw [e4]; exact nI_pred _) ?_
          refine x_putfield C dX11_isSingle_75 fX11_184 (rH_g0 hd) rfl rfl (Nat.le_of_ble_eq_true rfl) ?_
          refine x_to (rH_up hd) ?_
          refine x_to (show _ = rH M o r Ev (r_up (ft (r_deep R)).1) from rfl) ?_
          refine x_aload_n C dX11_isSingle_78 rfl rfl ?_
          refine x_bipush (v := 93) C dX11_isSingle_79 (by decide) ?_
          refine x_callV1 C dX11_isSingle_81 kX11_148 (c_X11_eatSign (R := r_up (ft (r_deep R)).1) hO hd hN g1.2.1 (rH_B hd) (w := 143) (by decide)) (rH_g0 hd) rfl (by omega) ⟨Nat.zero_le _, Nat.zero_le _⟩ (Nat.le_of_ble_eq_true rfl) ?_
          rintro _ _ ⟨rfl, rfl⟩
          refine x_to (rH_H hd) ?_
          refine x_zret C E dX11_isSingle_84 (by split <;> rfl) ?_
          refine ⟨?_, ?_⟩
          · first | (simp only [r_single, r_awk, r_cmp, if_neg c6, if_pos c49, if_neg c56, if_pos c63, h_bd, h_bT, h_bF, if_true, if_false, Bool.false_eq_true]; done) | (simp only [r_single, r_awk, r_cmp, if_neg c6, if_pos c49, if_neg c56, if_pos c63, h_bd, h_bT, h_bF, if_true, if_false, Bool.false_eq_true]; rfl)
          · refine congrArg (rH M o r Ev) ?_
            simp only [r_single, r_awk, r_cmp, if_neg c6, if_pos c49, if_neg c56, if_pos c63, h_bd, h_bT, h_bF, if_true, if_false, Bool.false_eq_true]
        · have c63 := b_n c63
          refine x_iconst (v := 0) C dX11_isSingle_66 (by decide) ?_
          refine x_zret C E dX11_isSingle_67 rfl ?_
          refine ⟨?_, ?_⟩
          · first | (simp only [r_single, r_awk, r_cmp, if_neg c6, if_pos c49, if_neg c56, if_neg c63, h_bd, h_bT, h_bF, if_true, if_false, Bool.false_eq_true]; done) | (simp only [r_single, r_awk, r_cmp, if_neg c6, if_pos c49, if_neg c56, if_neg c63, h_bd, h_bT, h_bF, if_true, if_false, Bool.false_eq_true]; rfl)
          · refine congrArg (rH M o r Ev) ?_
            simp only [r_single, r_awk, r_cmp, if_neg c6, if_pos c49, if_neg c56, if_neg c63, h_bd, h_bT, h_bF, if_true, if_false, Bool.false_eq_true]
  · have c6 := b_y c6
    refine x_aload_n C dX11_isSingle_9 rfl rfl ?_
    refine x_callV0 C dX11_isSingle_10 kX11_196 (c_X11_isDeeper hO hd hN hk.1 (rH_B hd) hk.2.1) (rH_g0 hd) rfl (by omega) ⟨Nat.zero_le _, Nat.zero_le _⟩ (Nat.le_of_ble_eq_true rfl) ?_
    rintro _ _ ⟨rfl, rfl⟩
    refine x_to (rH_H hd) ?_
    refine x_if_eq (tgt := 23) C dX11_isSingle_13 (by decide) (fun c13 => ?_) (fun c13 => ?_)
    · have c13 := b_n c13
      have c13 : R.1.2 = 8 := Decidable.byContradiction c13
      refine x_iconst (v := 0) C dX11_isSingle_23 (by decide) ?_
      refine x_zret C E dX11_isSingle_24 rfl ?_
      refine ⟨?_, ?_⟩
      · first | (simp only [r_single, r_awk, r_cmp, if_pos c6, if_pos c13, h_bd, h_bT, h_bF, if_true, if_false, Bool.false_eq_true]; done) | (simp only [r_single, r_awk, r_cmp, if_pos c6, if_pos c13, h_bd, h_bT, h_bF, if_true, if_false, Bool.false_eq_true]; rfl)
      · refine congrArg (rH M o r Ev) ?_
        simp only [r_single, r_awk, r_cmp, if_pos c6, if_pos c13, h_bd, h_bT, h_bF, if_true, if_false, Bool.false_eq_true]
    · have c13 := b_y c13
      obtain ⟨hk1, hq1, hr1⟩ := r_ok_deep hN hk c6 (by decide) c13
      have h8 : dp < 8 := by omega
      have hp1 : (r_deep R).1.2 = dp + 1 := by rw [hq1, ← hdp0]
      obtain ⟨g1, g2⟩ := r_gd_dp (x := 17) (i := (273, 0, none)) hN hk c6 (by decide) c13 (hfo h8)
      refine x_aload_n C dX11_isSingle_16 rfl rfl ?_
      refine x_callV0 C dX11_isSingle_17 kX11_181 (hO8 h8 _ _ hk1 hp1 (rH_B hd)) (rH_g0 hd) rfl (by omega) ⟨Nat.zero_le _, Nat.zero_le _⟩ (Nat.le_of_ble_eq_true rfl) ?_
      rintro _ _ ⟨rfl, rfl⟩
      refine x_to (rH_H hd) ?_
      refine x_if_ne (tgt := 25) C dX11_isSingle_20 (by decide) (fun c20 => ?_) (fun c20 => ?_)
      · have c20 := b_y c20
        obtain ⟨-, -, -, e4, hs4⟩ := g2 c20
        have hs5 : (fo (r_deep R)).1.2.1.length < 800 := by omega
        refine x_aload_n C dX11_isSingle_25 rfl rfl ?_
        refine x_dup C dX11_isSingle_26 rfl ?_
        refine x_getfield C dX11_isSingle_27 fX11_184 (rH_g0 hd) rfl ?_
        refine x_iconst (v := 1) C dX11_isSingle_30 (by decide) ?_
        refine x_isub C dX11_isSingle_31 ?_
        refine x_topi (nI ((fo (r_deep R)).1.1.2 - 1)) (by rw [e4]; exact nI_pred _) ?_
        refine x_putfield C dX11_isSingle_32 fX11_184 (rH_g0 hd) rfl rfl (Nat.le_of_ble_eq_true rfl) ?_
        refine x_to (rH_up hd) ?_
        refine x_to (show _ = rH M o r Ev (r_up (fo (r_deep R)).1) from rfl) ?_
        refine x_aload_n C dX11_isSingle_35 rfl rfl ?_
        refine x_bipush (v := 17) C dX11_isSingle_36 (by decide) ?_
        refine x_callV1 C dX11_isSingle_38 kX11_177 (c_X11_put (R := r_up (fo (r_deep R)).1) hO hd hs5 (rH_B hd)) (rH_g0 hd) rfl (by omega) ⟨Nat.zero_le _, Nat.zero_le _⟩ (Nat.le_of_ble_eq_true rfl) ?_
        rintro _ _ ⟨rfl, rfl⟩
        refine x_to (rH_H hd) ?_
        refine x_to (show _ = rH M o r Ev (r_gh (r_put (r_up (fo (r_deep R)).1) 17) (273, 0, none)) from rfl) ?_
        refine x_iconst (v := 1) C dX11_isSingle_41 (by decide) ?_
        refine x_zret C E dX11_isSingle_42 rfl ?_
        refine ⟨?_, ?_⟩
        · first | (simp only [r_single, r_awk, r_cmp, if_pos c6, if_neg c13, if_pos c20, h_bd, h_bT, h_bF, if_true, if_false, Bool.false_eq_true]; done) | (simp only [r_single, r_awk, r_cmp, if_pos c6, if_neg c13, if_pos c20, h_bd, h_bT, h_bF, if_true, if_false, Bool.false_eq_true]; rfl)
        · refine congrArg (rH M o r Ev) ?_
          simp only [r_single, r_awk, r_cmp, if_pos c6, if_neg c13, if_pos c20, h_bd, h_bT, h_bF, if_true, if_false, Bool.false_eq_true]
      · have c20 := b_n c20
        refine x_iconst (v := 0) C dX11_isSingle_23 (by decide) ?_
        refine x_zret C E dX11_isSingle_24 rfl ?_
        refine ⟨?_, ?_⟩
        · first | (simp only [r_single, r_awk, r_cmp, if_pos c6, if_neg c13, if_neg c20, h_bd, h_bT, h_bF, if_true, if_false, Bool.false_eq_true]; done) | (simp only [r_single, r_awk, r_cmp, if_pos c6, if_neg c13, if_neg c20, h_bd, h_bT, h_bF, if_true, if_false, Bool.false_eq_true]; rfl)
        · refine congrArg (rH M o r Ev) ?_
          simp only [r_single, r_awk, r_cmp, if_pos c6, if_neg c13, if_neg c20, h_bd, h_bT, h_bF, if_true, if_false, Bool.false_eq_true]
