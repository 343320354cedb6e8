set_option maxHeartbeats 4000000 in
set_option maxRecDepth 100000 in
theorem c_X11_isValue {l : Launch} {Y0 : x_Y} (hO : x_Ok Y0) {M : x_M} {o r N : Nat} {Ev : rE} {R : rS} (hd : o + 7 ≤ r) (hN : r_tok (tE Ev) N) (hk : r_ok N R) (hb : rB M o r Ev R) {dp d : Nat} (hdp0 : R.1.2 = dp) {dV dS : Nat} {fv fs : rF} (hd1 : dV + 1 ≤ d) (hd4 : 6 ≤ d) {dI : Nat} (hdI : dS + 1 ≤ dI) (hdI5 : 5 ≤ dI) (hd3 : dI + 1 ≤ d) (hin : ∀ i, i < N → (tE Ev).1 i = 41 → r_in Ev i) (hfv : dp < 8 → r_gd N fv) (hfs : dp < 8 → r_gd N fs) (hV : dp < 8 → rCt l Y0 yX11_isValue cX11_isValue 2 dV o r N Ev (dp + 1) fv) (hS : dp < 8 → rCt l Y0 yX11_isSum cX11_isSum 2 dS o r N Ev (dp + 1) fs) : x_C l Y0 yX11_isValue cX11_isValue 2 (some .boolean) d 0 0 [.ref o] M (fun u M1 => u = some (.int (h_b (r_val (tE Ev) fv fs R).2)) ∧ M1 = rH M o r Ev (r_val (tE Ev) fv fs R).1) := by
  refine x_start hO (by decide +kernel) (Nat.le_of_ble_eq_true rfl) (fun K C E => ?_)
  have hN4 : N ≤ 400 := hN.1
  have ha := hk
  obtain ⟨ha1, ha2, ha3, ha4⟩ := ha
  refine x_to (rH_self hb).symm ?_
  have h41 : R.1.1 < 401 := by omega
  have j78 : r_dv ((tE Ev).1 R.1.1) = false → ¬ (tE Ev).1 R.1.1 = 41 → x_X K 2 0 0 78 [(0, .ref o), (1, .int ((tE Ev).1 R.1.1))] [] (rH M o r Ev R) := by
      intro hdv c16
      refine x_iload_n C dX11_isValue_78 rfl rfl ?_
      refine x_iconst (v := 1) C dX11_isValue_79 (by decide) ?_
      refine x_icmp_eq (tgt := 89) C dX11_isValue_80 (by decide) (fun c80 => ?_) (fun c80 => ?_)
      · have hlt : R.1.1 < N := r_ltn hN ha1 c80 (by decide)
        have hl0 : R.2.1.length < 800 := by omega
        refine x_aload_n C dX11_isValue_89 rfl rfl ?_
        refine x_iload_n C dX11_isValue_90 rfl rfl ?_
        refine x_callV1 C dX11_isValue_91 kX11_177 (c_X11_put hO hd hl0 (rH_B hd)) (rH_g0 hd) rfl (by omega) ⟨Nat.zero_le _, Nat.zero_le _⟩ (Nat.le_of_ble_eq_true rfl) ?_
        rintro _ _ ⟨rfl, rfl⟩
        refine x_to (rH_H hd) ?_
        refine x_aload_n C dX11_isValue_94 rfl rfl ?_
        refine x_dup C dX11_isValue_95 rfl ?_
        refine x_getfield C dX11_isValue_96 fX11_131 (rH_g0 hd) rfl ?_
        refine x_iconst (v := 1) C dX11_isValue_99 (by decide) ?_
        refine x_iadd C dX11_isValue_100 ?_
        rw [nI_1]
        refine x_putfield C dX11_isValue_101 fX11_131 (rH_g0 hd) rfl rfl (Nat.le_of_ble_eq_true rfl) ?_
        refine x_to (rH_adv hd) ?_
        refine x_to (show _ = rH M o r Ev (r_adv (r_put R ((tE Ev).1 R.1.1))) from rfl) ?_
        refine x_aload_n C dX11_isValue_104 rfl rfl ?_
        refine x_bipush (v := 15) C dX11_isValue_105 (by decide) ?_
        refine x_callV1 C dX11_isValue_107 kX11_137 (c_X11_eat hO hd hN (show (r_adv (r_put R ((tE Ev).1 R.1.1))).1.1 ≤ N from hlt) (rH_B hd)) (rH_g0 hd) rfl (by omega) ⟨Nat.zero_le _, Nat.zero_le _⟩ (Nat.le_of_ble_eq_true rfl) ?_
        rintro _ _ ⟨rfl, rfl⟩
        refine x_to (rH_H hd) ?_
        refine x_if_eq (tgt := 135) C dX11_isValue_110 (by decide) (fun c110 => ?_) (fun c110 => ?_)
        · have c110 := b_n c110
          refine x_iconst (v := 0) C dX11_isValue_135 (by decide) ?_
          refine x_zret C E dX11_isValue_136 rfl ?_
          refine ⟨?_, ?_⟩
          · first | (simp only [r_val, r_vn, if_neg c16, if_neg (ne_true_of_eq_false hdv), if_pos c80, if_neg c110, r_eat_n c110, h_bd, h_bT, h_bF, if_true, if_false, Bool.false_eq_true]; done) | (simp only [r_val, r_vn, if_neg c16, if_neg (ne_true_of_eq_false hdv), if_pos c80, if_neg c110, r_eat_n c110, h_bd, h_bT, h_bF, if_true, if_false, Bool.false_eq_true]; rfl)
          · refine congrArg (rH M o r Ev) ?_
            simp only [r_val, r_vn, if_neg c16, if_neg (ne_true_of_eq_false hdv), if_pos c80, if_neg c110, r_eat_n c110, h_bd, h_bT, h_bF, if_true, if_false, Bool.false_eq_true]
        · have c110 := b_y c110
          rw [r_eat_p c110]
          have hlt2 : R.1.1 + 1 < N := r_ltn hN (show R.1.1 + 1 ≤ N from hlt) c110 (by decide)
          have hl2 : (r_adv (r_adv (r_put R ((tE Ev).1 R.1.1)))).2.1.length < 800 := by show (R.2.1 ++ [((tE Ev).1 R.1.1)]).length < 800; rw [r_app1]; omega
          have hp2 : (r_adv (r_adv (r_put R ((tE Ev).1 R.1.1)))).2.2.1.length < 400 := by show R.2.2.1.length < 400; omega
          refine x_aload_n C dX11_isValue_113 rfl rfl ?_
          refine x_iload_n C dX11_isValue_114 rfl rfl ?_
          refine x_iconst (v := 1) C dX11_isValue_115 (by decide) ?_
          refine x_icmp_ne (tgt := 123) C dX11_isValue_116 (by decide) (fun c116 => ?_) (fun c116 => ?_)
          · exact absurd c80 c116
          · refine x_iconst (v := 5) C dX11_isValue_119 (by decide) ?_
            refine x_goto (tgt := 125) C dX11_isValue_120 (by decide) ?_
            refine x_callV1 C dX11_isValue_125 kX11_193 (c_X11_isName (R := (r_adv (r_adv (r_put R ((tE Ev).1 R.1.1))))) hO hd hN (show R.1.1 + 2 ≤ N from hlt2) (rH_B hd) hl2 hp2) (rH_g0 hd) rfl (by omega) ⟨Nat.zero_le _, Nat.zero_le _⟩ (Nat.le_of_ble_eq_true rfl) ?_
            rintro _ _ ⟨rfl, rfl⟩
            refine x_to (rH_H hd) ?_
            refine x_to (show _ = rH M o r Ev (r_gh (r_name (tE Ev) (r_adv (r_adv (r_put R ((tE Ev).1 R.1.1)))) _) (((tE Ev).1 R.1.1).toNatClampNeg + 256, 0, some (R.1.1 + 2))) from rfl) ?_
            refine x_if_eq (tgt := 135) C dX11_isValue_128 (by decide) (fun c128 => ?_) (fun c128 => ?_)
            · have c128 := b_n c128
              have c128 : ¬ (tE Ev).1 (R.1.1 + 2) = 40 := c128
              refine x_iconst (v := 0) C dX11_isValue_135 (by decide) ?_
              refine x_zret C E dX11_isValue_136 rfl ?_
              refine ⟨?_, ?_⟩
              · first | (simp only [r_val, r_vn, if_neg c16, if_neg (ne_true_of_eq_false hdv), if_pos c80, if_pos c110, r_eat_p c110, h_bd, h_bT, h_bF, if_true, if_false, Bool.false_eq_true, if_neg c128, decide_eq_true_eq, decide_eq_false c128]; done) | (simp only [r_val, r_vn, if_neg c16, if_neg (ne_true_of_eq_false hdv), if_pos c80, if_pos c110, r_eat_p c110, h_bd, h_bT, h_bF, if_true, if_false, Bool.false_eq_true, if_neg c128, decide_eq_true_eq, decide_eq_false c128]; rfl)
              · refine congrArg (rH M o r Ev) ?_
                simp only [r_val, r_vn, if_neg c16, if_neg (ne_true_of_eq_false hdv), if_pos c80, if_pos c110, r_eat_p c110, h_bd, h_bT, h_bF, if_true, if_false, Bool.false_eq_true, if_neg c128, decide_eq_true_eq, decide_eq_false c128]
            · have c128 := b_y c128
              have c128 : (tE Ev).1 (R.1.1 + 2) = 40 := c128
              refine x_iconst (v := 1) C dX11_isValue_131 (by decide) ?_
              refine x_goto (tgt := 136) C dX11_isValue_132 (by decide) ?_
              refine x_zret C E dX11_isValue_136 rfl ?_
              refine ⟨?_, ?_⟩
              · first | (simp only [r_val, r_vn, if_neg c16, if_neg (ne_true_of_eq_false hdv), if_pos c80, if_pos c110, r_eat_p c110, h_bd, h_bT, h_bF, if_true, if_false, Bool.false_eq_true, if_pos c128, decide_eq_true_eq, decide_eq_true c128]; done) | (simp only [r_val, r_vn, if_neg c16, if_neg (ne_true_of_eq_false hdv), if_pos c80, if_pos c110, r_eat_p c110, h_bd, h_bT, h_bF, if_true, if_false, Bool.false_eq_true, if_pos c128, decide_eq_true_eq, decide_eq_true c128]; rfl)
              · refine congrArg (rH M o r Ev) ?_
                simp only [r_val, r_vn, if_neg c16, if_neg (ne_true_of_eq_false hdv), if_pos c80, if_pos c110, r_eat_p c110, h_bd, h_bT, h_bF, if_true, if_false, Bool.false_eq_true, if_pos c128, decide_eq_true_eq, decide_eq_true c128]
      · refine x_iload_n C dX11_isValue_83 rfl rfl ?_
        refine x_bipush (v := 14) C dX11_isValue_84 (by decide) ?_
        refine x_icmp_ne (tgt := 137) C dX11_isValue_86 (by decide) (fun c86 => ?_) (fun c86 => ?_)
        · refine x_aload_n C dX11_isValue_137 rfl rfl ?_
          refine x_bipush (v := 45) C dX11_isValue_138 (by decide) ?_
          refine x_callV1 C dX11_isValue_140 kX11_199 (c_X11_isSign hO hd hN hk.1 (rH_B hd) (w := 95) (by decide)) (rH_g0 hd) rfl (by omega) ⟨Nat.zero_le _, Nat.zero_le _⟩ (Nat.le_of_ble_eq_true rfl) ?_
          rintro _ _ ⟨rfl, rfl⟩
          refine x_if_eq (tgt := 180) C dX11_isValue_143 (by decide) (fun c143 => ?_) (fun c143 => ?_)
          · have c143 := b_n c143
            refine x_aload_n C dX11_isValue_180 rfl rfl ?_
            refine x_iload_n C dX11_isValue_181 rfl rfl ?_
            refine x_aload_n C dX11_isValue_182 rfl rfl ?_
            refine x_bipush (v := 20) C dX11_isValue_183 (by decide) ?_
            refine x_callV1 C dX11_isValue_185 kX11_137 (c_X11_eat hO hd hN hk.1 (rH_B hd)) (rH_g0 hd) rfl (by omega) ⟨Nat.zero_le _, Nat.zero_le _⟩ (Nat.le_of_ble_eq_true rfl) ?_
            rintro _ _ ⟨rfl, rfl⟩
            refine x_to (rH_H hd) ?_
            refine x_if_ne (tgt := 200) C dX11_isValue_188 (by decide) (fun c188 => ?_) (fun c188 => ?_)
            · have c188 := b_y c188
              rw [r_eat_p c188]
              have hk9 := (r_ok_adv hN hk c188 (by decide)).1
              refine x_iconst (v := 1) C dX11_isValue_200 (by decide) ?_
              refine x_goto (tgt := 205) C dX11_isValue_201 (by decide) ?_
              refine x_callV2 C dX11_isValue_205 kX11_214 (c_X11_isInside (dS := dS) (d := dI) hO hd hN hk9 (rH_B hd) (dp := dp) hdp0 hdI hdI5 hfs hS (two := true)) (rH_g0 hd) rfl (by omega) ⟨Nat.zero_le _, Nat.zero_le _⟩ (Nat.le_of_ble_eq_true rfl) ?_
              rintro _ _ ⟨rfl, rfl⟩
              refine x_to (rH_H hd) ?_
              refine x_zret C E dX11_isValue_208 (by unfold h_b; split <;> rfl) ?_
              refine ⟨?_, ?_⟩
              · first | (simp only [r_val, r_vn, if_neg c16, if_neg (ne_true_of_eq_false hdv), if_neg c80, if_neg c86, if_neg c143, if_pos c188, r_eat_p c188, h_bd, h_bT, h_bF, if_true, if_false, Bool.false_eq_true]; done) | (simp only [r_val, r_vn, if_neg c16, if_neg (ne_true_of_eq_false hdv), if_neg c80, if_neg c86, if_neg c143, if_pos c188, r_eat_p c188, h_bd, h_bT, h_bF, if_true, if_false, Bool.false_eq_true]; rfl)
              · refine congrArg (rH M o r Ev) ?_
                simp only [r_val, r_vn, if_neg c16, if_neg (ne_true_of_eq_false hdv), if_neg c80, if_neg c86, if_neg c143, if_pos c188, r_eat_p c188, h_bd, h_bT, h_bF, if_true, if_false, Bool.false_eq_true]
            · have c188 := b_n c188
              rw [r_eat_n c188]
              refine x_aload_n C dX11_isValue_191 rfl rfl ?_
              refine x_bipush (v := 21) C dX11_isValue_192 (by decide) ?_
              refine x_callV1 C dX11_isValue_194 kX11_137 (c_X11_eat hO hd hN hk.1 (rH_B hd)) (rH_g0 hd) rfl (by omega) ⟨Nat.zero_le _, Nat.zero_le _⟩ (Nat.le_of_ble_eq_true rfl) ?_
              rintro _ _ ⟨rfl, rfl⟩
              refine x_to (rH_H hd) ?_
              refine x_if_eq (tgt := 204) C dX11_isValue_197 (by decide) (fun c197 => ?_) (fun c197 => ?_)
              · have c197 := b_n c197
                rw [r_eat_n c197]
                have hk9 := hk
                refine x_iconst (v := 0) C dX11_isValue_204 (by decide) ?_
                refine x_callV2 C dX11_isValue_205 kX11_214 (c_X11_isInside (dS := dS) (d := dI) hO hd hN hk9 (rH_B hd) (dp := dp) hdp0 hdI hdI5 hfs hS (two := false)) (rH_g0 hd) rfl (by omega) ⟨Nat.zero_le _, Nat.zero_le _⟩ (Nat.le_of_ble_eq_true rfl) ?_
                rintro _ _ ⟨rfl, rfl⟩
                refine x_to (rH_H hd) ?_
                refine x_zret C E dX11_isValue_208 (by unfold h_b; split <;> rfl) ?_
                refine ⟨?_, ?_⟩
                · first | (simp only [r_val, r_vn, if_neg c16, if_neg (ne_true_of_eq_false hdv), if_neg c80, if_neg c86, if_neg c143, if_neg c188, if_neg c197, r_eat_n c188, r_eat_n c197, h_bd, h_bT, h_bF, if_true, if_false, Bool.false_eq_true]; done) | (simp only [r_val, r_vn, if_neg c16, if_neg (ne_true_of_eq_false hdv), if_neg c80, if_neg c86, if_neg c143, if_neg c188, if_neg c197, r_eat_n c188, r_eat_n c197, h_bd, h_bT, h_bF, if_true, if_false, Bool.false_eq_true]; rfl)
                · refine congrArg (rH M o r Ev) ?_
                  simp only [r_val, r_vn, if_neg c16, if_neg (ne_true_of_eq_false hdv), if_neg c80, if_neg c86, if_neg c143, if_neg c188, if_neg c197, r_eat_n c188, r_eat_n c197, h_bd, h_bT, h_bF, if_true, if_false, Bool.false_eq_true]
              · have c197 := b_y c197
                rw [r_eat_p c197]
                have hk9 := (r_ok_adv hN hk c197 (by decide)).1
                refine x_iconst (v := 1) C dX11_isValue_200 (by decide) ?_
                refine x_goto (tgt := 205) C dX11_isValue_201 (by decide) ?_
                refine x_callV2 C dX11_isValue_205 kX11_214 (c_X11_isInside (dS := dS) (d := dI) hO hd hN hk9 (rH_B hd) (dp := dp) hdp0 hdI hdI5 hfs hS (two := true)) (rH_g0 hd) rfl (by omega) ⟨Nat.zero_le _, Nat.zero_le _⟩ (Nat.le_of_ble_eq_true rfl) ?_
                rintro _ _ ⟨rfl, rfl⟩
                refine x_to (rH_H hd) ?_
                refine x_zret C E dX11_isValue_208 (by unfold h_b; split <;> rfl) ?_
                refine ⟨?_, ?_⟩
                · first | (simp only [r_val, r_vn, if_neg c16, if_neg (ne_true_of_eq_false hdv), if_neg c80, if_neg c86, if_neg c143, if_neg c188, if_pos c197, r_eat_n c188, r_eat_p c197, h_bd, h_bT, h_bF, if_true, if_false, Bool.false_eq_true]; done) | (simp only [r_val, r_vn, if_neg c16, if_neg (ne_true_of_eq_false hdv), if_neg c80, if_neg c86, if_neg c143, if_neg c188, if_pos c197, r_eat_n c188, r_eat_p c197, h_bd, h_bT, h_bF, if_true, if_false, Bool.false_eq_true]; rfl)
                · refine congrArg (rH M o r Ev) ?_
                  simp only [r_val, r_vn, if_neg c16, if_neg (ne_true_of_eq_false hdv), if_neg c80, if_neg c86, if_neg c143, if_neg c188, if_pos c197, r_eat_n c188, r_eat_p c197, h_bd, h_bT, h_bF, if_true, if_false, Bool.false_eq_true]
          · have c143 := b_y c143
            refine x_aload_n C dX11_isValue_146 rfl rfl ?_
            refine x_callV0 C dX11_isValue_147 kX11_196 (c_X11_isDeeper hO hd hN hk.1 (rH_B hd) hk.2.1) (rH_g0 hd) rfl (by omega) ⟨Nat.zero_le _, Nat.zero_le _⟩ (Nat.le_of_ble_eq_true rfl) ?_
            rintro _ _ ⟨rfl, rfl⟩
            refine x_to (rH_H hd) ?_
            refine x_if_eq (tgt := 160) C dX11_isValue_150 (by decide) (fun c150 => ?_) (fun c150 => ?_)
            · have c150 := b_n c150
              have c150 : R.1.2 = 8 := Decidable.byContradiction c150
              refine x_iconst (v := 0) C dX11_isValue_160 (by decide) ?_
              refine x_zret C E dX11_isValue_161 rfl ?_
              refine ⟨?_, ?_⟩
              · first | (simp only [r_val, r_vn, if_neg c16, if_neg (ne_true_of_eq_false hdv), if_neg c80, if_neg c86, if_pos c143, if_pos c150, h_bd, h_bT, h_bF, if_true, if_false, Bool.false_eq_true]; done) | (simp only [r_val, r_vn, if_neg c16, if_neg (ne_true_of_eq_false hdv), if_neg c80, if_neg c86, if_pos c143, if_pos c150, h_bd, h_bT, h_bF, if_true, if_false, Bool.false_eq_true]; rfl)
              · refine congrArg (rH M o r Ev) ?_
                simp only [r_val, r_vn, if_neg c16, if_neg (ne_true_of_eq_false hdv), if_neg c80, if_neg c86, if_pos c143, if_pos c150, h_bd, h_bT, h_bF, if_true, if_false, Bool.false_eq_true]
            · have c150 := b_y c150
              obtain ⟨hk1, hq1, hr1⟩ := r_ok_deep hN hk c143 (by decide) c150
              have h8 : dp < 8 := by omega
              have hp1 : (r_deep R).1.2 = dp + 1 := by rw [hq1, ← hdp0]
              obtain ⟨g1, g2⟩ := r_gd_dp (x := 33) (i := (4, 0, none)) hN hk c143 (by decide) c150 (hfv h8)
              refine x_aload_n C dX11_isValue_153 rfl rfl ?_
              refine x_callV0 C dX11_isValue_154 kX11_208 (hV h8 _ _ hk1 hp1 (rH_B hd)) (rH_g0 hd) rfl (by omega) ⟨Nat.zero_le _, Nat.zero_le _⟩ (Nat.le_of_ble_eq_true rfl) ?_
              rintro _ _ ⟨rfl, rfl⟩
              refine x_to (rH_H hd) ?_
              refine x_if_ne (tgt := 162) C dX11_isValue_157 (by decide) (fun c157 => ?_) (fun c157 => ?_)
              · have c157 := b_y c157
                obtain ⟨-, -, -, e4, hs4⟩ := g2 c157
                have hs5 : (fv (r_deep R)).1.2.1.length < 800 := by omega
                refine x_aload_n C dX11_isValue_162 rfl rfl ?_
                refine x_dup C dX11_isValue_163 rfl ?_
                refine x_getfield C dX11_isValue_164 fX11_184 (rH_g0 hd) rfl ?_
                refine x_iconst (v := 1) C dX11_isValue_167 (by decide) ?_
                refine x_isub C dX11_isValue_168 ?_
                refine x_topi (nI ((fv (r_deep R)).1.1.2 - 1)) (by rw [e4]; exact nI_pred _) ?_
                refine x_putfield C dX11_isValue_169 fX11_184 (rH_g0 hd) rfl rfl (Nat.le_of_ble_eq_true rfl) ?_
                refine x_to (rH_up hd) ?_
                refine x_to (show _ = rH M o r Ev (r_up (fv (r_deep R)).1) from rfl) ?_
                refine x_aload_n C dX11_isValue_172 rfl rfl ?_
                refine x_bipush (v := 33) C dX11_isValue_173 (by decide) ?_
                refine x_callV1 C dX11_isValue_175 kX11_177 (c_X11_put (R := r_up (fv (r_deep R)).1) hO hd hs5 (rH_B hd)) (rH_g0 hd) rfl (by omega) ⟨Nat.zero_le _, Nat.zero_le _⟩ (Nat.le_of_ble_eq_true rfl) ?_
                rintro _ _ ⟨rfl, rfl⟩
                refine x_to (rH_H hd) ?_
                refine x_to (show _ = rH M o r Ev (r_gh (r_put (r_up (fv (r_deep R)).1) 33) (4, 0, none)) from rfl) ?_
                refine x_iconst (v := 1) C dX11_isValue_178 (by decide) ?_
                refine x_zret C E dX11_isValue_179 rfl ?_
                refine ⟨?_, ?_⟩
                · first | (simp only [r_val, r_vn, if_neg c16, if_neg (ne_true_of_eq_false hdv), if_neg c80, if_neg c86, if_pos c143, if_neg c150, if_pos c157, h_bd, h_bT, h_bF, if_true, if_false, Bool.false_eq_true]; done) | (simp only [r_val, r_vn, if_neg c16, if_neg (ne_true_of_eq_false hdv), if_neg c80, if_neg c86, if_pos c143, if_neg c150, if_pos c157, h_bd, h_bT, h_bF, if_true, if_false, Bool.false_eq_true]; rfl)
                · refine congrArg (rH M o r Ev) ?_
                  simp only [r_val, r_vn, if_neg c16, if_neg (ne_true_of_eq_false hdv), if_neg c80, if_neg c86, if_pos c143, if_neg c150, if_pos c157, h_bd, h_bT, h_bF, if_true, if_false, Bool.false_eq_true]
              · have c157 := b_n c157
                refine x_iconst (v := 0) C dX11_isValue_160 (by decide) ?_
                refine x_zret C E dX11_isValue_161 rfl ?_
                refine ⟨?_, ?_⟩
                · first | (simp only [r_val, r_vn, if_neg c16, if_neg (ne_true_of_eq_false hdv), if_neg c80, if_neg c86, if_pos c143, if_neg c150, if_neg c157, h_bd, h_bT, h_bF, if_true, if_false, Bool.false_eq_true]; done) | (simp only [r_val, r_vn, if_neg c16, if_neg (ne_true_of_eq_false hdv), if_neg c80, if_neg c86, if_pos c143, if_neg c150, if_neg c157, h_bd, h_bT, h_bF, if_true, if_false, Bool.false_eq_true]; rfl)
                · refine congrArg (rH M o r Ev) ?_
                  simp only [r_val, r_vn, if_neg c16, if_neg (ne_true_of_eq_false hdv), if_neg c80, if_neg c86, if_pos c143, if_neg c150, if_neg c157, h_bd, h_bT, h_bF, if_true, if_false, Bool.false_eq_true]
        · have hlt : R.1.1 < N := r_ltn hN ha1 c86 (by decide)
          have hl0 : R.2.1.length < 800 := by omega
          refine x_aload_n C dX11_isValue_89 rfl rfl ?_
          refine x_iload_n C dX11_isValue_90 rfl rfl ?_
          refine x_callV1 C dX11_isValue_91 kX11_177 (c_X11_put hO hd hl0 (rH_B hd)) (rH_g0 hd) rfl (by omega) ⟨Nat.zero_le _, Nat.zero_le _⟩ (Nat.le_of_ble_eq_true rfl) ?_
          rintro _ _ ⟨rfl, rfl⟩
          refine x_to (rH_H hd) ?_
          refine x_aload_n C dX11_isValue_94 rfl rfl ?_
          refine x_dup C dX11_isValue_95 rfl ?_
          refine x_getfield C dX11_isValue_96 fX11_131 (rH_g0 hd) rfl ?_
          refine x_iconst (v := 1) C dX11_isValue_99 (by decide) ?_
          refine x_iadd C dX11_isValue_100 ?_
          rw [nI_1]
          refine x_putfield C dX11_isValue_101 fX11_131 (rH_g0 hd) rfl rfl (Nat.le_of_ble_eq_true rfl) ?_
          refine x_to (rH_adv hd) ?_
          refine x_to (show _ = rH M o r Ev (r_adv (r_put R ((tE Ev).1 R.1.1))) from rfl) ?_
          refine x_aload_n C dX11_isValue_104 rfl rfl ?_
          refine x_bipush (v := 15) C dX11_isValue_105 (by decide) ?_
          refine x_callV1 C dX11_isValue_107 kX11_137 (c_X11_eat hO hd hN (show (r_adv (r_put R ((tE Ev).1 R.1.1))).1.1 ≤ N from hlt) (rH_B hd)) (rH_g0 hd) rfl (by omega) ⟨Nat.zero_le _, Nat.zero_le _⟩ (Nat.le_of_ble_eq_true rfl) ?_
          rintro _ _ ⟨rfl, rfl⟩
          refine x_to (rH_H hd) ?_
          refine x_if_eq (tgt := 135) C dX11_isValue_110 (by decide) (fun c110 => ?_) (fun c110 => ?_)
          · have c110 := b_n c110
            refine x_iconst (v := 0) C dX11_isValue_135 (by decide) ?_
            refine x_zret C E dX11_isValue_136 rfl ?_
            refine ⟨?_, ?_⟩
            · first | (simp only [r_val, r_vn, if_neg c16, if_neg (ne_true_of_eq_false hdv), if_neg c80, if_pos c86, if_neg c110, r_eat_n c110, h_bd, h_bT, h_bF, if_true, if_false, Bool.false_eq_true]; done) | (simp only [r_val, r_vn, if_neg c16, if_neg (ne_true_of_eq_false hdv), if_neg c80, if_pos c86, if_neg c110, r_eat_n c110, h_bd, h_bT, h_bF, if_true, if_false, Bool.false_eq_true]; rfl)
            · refine congrArg (rH M o r Ev) ?_
              simp only [r_val, r_vn, if_neg c16, if_neg (ne_true_of_eq_false hdv), if_neg c80, if_pos c86, if_neg c110, r_eat_n c110, h_bd, h_bT, h_bF, if_true, if_false, Bool.false_eq_true]
          · have c110 := b_y c110
            rw [r_eat_p c110]
            have hlt2 : R.1.1 + 1 < N := r_ltn hN (show R.1.1 + 1 ≤ N from hlt) c110 (by decide)
            have hl2 : (r_adv (r_adv (r_put R ((tE Ev).1 R.1.1)))).2.1.length < 800 := by show (R.2.1 ++ [((tE Ev).1 R.1.1)]).length < 800; rw [r_app1]; omega
            have hp2 : (r_adv (r_adv (r_put R ((tE Ev).1 R.1.1)))).2.2.1.length < 400 := by show R.2.2.1.length < 400; omega
            refine x_aload_n C dX11_isValue_113 rfl rfl ?_
            refine x_iload_n C dX11_isValue_114 rfl rfl ?_
            refine x_iconst (v := 1) C dX11_isValue_115 (by decide) ?_
            refine x_icmp_ne (tgt := 123) C dX11_isValue_116 (by decide) (fun c116 => ?_) (fun c116 => ?_)
            · refine x_bipush (v := 6) C dX11_isValue_123 (by decide) ?_
              refine x_callV1 C dX11_isValue_125 kX11_193 (c_X11_isName (R := (r_adv (r_adv (r_put R ((tE Ev).1 R.1.1))))) hO hd hN (show R.1.1 + 2 ≤ N from hlt2) (rH_B hd) hl2 hp2) (rH_g0 hd) rfl (by omega) ⟨Nat.zero_le _, Nat.zero_le _⟩ (Nat.le_of_ble_eq_true rfl) ?_
              rintro _ _ ⟨rfl, rfl⟩
              refine x_to (rH_H hd) ?_
              refine x_to (show _ = rH M o r Ev (r_gh (r_name (tE Ev) (r_adv (r_adv (r_put R ((tE Ev).1 R.1.1)))) _) (((tE Ev).1 R.1.1).toNatClampNeg + 256, 0, some (R.1.1 + 2))) from rfl) ?_
              refine x_if_eq (tgt := 135) C dX11_isValue_128 (by decide) (fun c128 => ?_) (fun c128 => ?_)
              · have c128 := b_n c128
                have c128 : ¬ (tE Ev).1 (R.1.1 + 2) = 40 := c128
                refine x_iconst (v := 0) C dX11_isValue_135 (by decide) ?_
                refine x_zret C E dX11_isValue_136 rfl ?_
                refine ⟨?_, ?_⟩
                · first | (simp only [r_val, r_vn, if_neg c16, if_neg (ne_true_of_eq_false hdv), if_neg c80, if_pos c86, if_pos c110, r_eat_p c110, h_bd, h_bT, h_bF, if_true, if_false, Bool.false_eq_true, if_neg c128, decide_eq_true_eq, decide_eq_false c128]; done) | (simp only [r_val, r_vn, if_neg c16, if_neg (ne_true_of_eq_false hdv), if_neg c80, if_pos c86, if_pos c110, r_eat_p c110, h_bd, h_bT, h_bF, if_true, if_false, Bool.false_eq_true, if_neg c128, decide_eq_true_eq, decide_eq_false c128]; rfl)
                · refine congrArg (rH M o r Ev) ?_
                  simp only [r_val, r_vn, if_neg c16, if_neg (ne_true_of_eq_false hdv), if_neg c80, if_pos c86, if_pos c110, r_eat_p c110, h_bd, h_bT, h_bF, if_true, if_false, Bool.false_eq_true, if_neg c128, decide_eq_true_eq, decide_eq_false c128]
              · have c128 := b_y c128
                have c128 : (tE Ev).1 (R.1.1 + 2) = 40 := c128
                refine x_iconst (v := 1) C dX11_isValue_131 (by decide) ?_
                refine x_goto (tgt := 136) C dX11_isValue_132 (by decide) ?_
                refine x_zret C E dX11_isValue_136 rfl ?_
                refine ⟨?_, ?_⟩
                · first | (simp only [r_val, r_vn, if_neg c16, if_neg (ne_true_of_eq_false hdv), if_neg c80, if_pos c86, if_pos c110, r_eat_p c110, h_bd, h_bT, h_bF, if_true, if_false, Bool.false_eq_true, if_pos c128, decide_eq_true_eq, decide_eq_true c128]; done) | (simp only [r_val, r_vn, if_neg c16, if_neg (ne_true_of_eq_false hdv), if_neg c80, if_pos c86, if_pos c110, r_eat_p c110, h_bd, h_bT, h_bF, if_true, if_false, Bool.false_eq_true, if_pos c128, decide_eq_true_eq, decide_eq_true c128]; rfl)
                · refine congrArg (rH M o r Ev) ?_
                  simp only [r_val, r_vn, if_neg c16, if_neg (ne_true_of_eq_false hdv), if_neg c80, if_pos c86, if_pos c110, r_eat_p c110, h_bd, h_bT, h_bF, if_true, if_false, Bool.false_eq_true, if_pos c128, decide_eq_true_eq, decide_eq_true c128]
            · exact absurd c116 c80
  refine x_aload_n C dX11_isValue_0 rfl rfl ?_
  refine x_getfield C dX11_isValue_1 fX11_17 (rH_g0 hd) rfl ?_
  refine x_aload_n C dX11_isValue_4 rfl rfl ?_
  refine x_getfield C dX11_isValue_5 fX11_131 (rH_g0 hd) rfl ?_
  refine x_iaload C dX11_isValue_8 (rH_g2 hd) (nI_in h41 (by decide)) ?_
  rw [nI_clamp (show R.1.1 < 2 ^ 31 by omega)]
  refine x_topi ((tE Ev).1 R.1.1) rfl ?_
  refine x_istore_n C dX11_isValue_9 rfl rfl (by decide) ?_
  refine x_aload_n C dX11_isValue_10 rfl rfl ?_
  refine x_bipush (v := 41) C dX11_isValue_11 (by decide) ?_
  refine x_callV1 C dX11_isValue_13 kX11_134 (c_X11_is hO hd hN hk.1 (rH_B hd)) (rH_g0 hd) rfl (by omega) ⟨Nat.zero_le _, Nat.zero_le _⟩ (Nat.le_of_ble_eq_true rfl) ?_
  rintro _ _ ⟨rfl, rfl⟩
  refine x_if_eq (tgt := 49) C dX11_isValue_16 (by decide) (fun c16 => ?_) (fun c16 => ?_)
  · have c16 := b_n c16
    refine x_iload_n C dX11_isValue_49 rfl rfl ?_
    refine x_bipush (v := 11) C dX11_isValue_50 (by decide) ?_
    refine x_icmp_lt (tgt := 78) C dX11_isValue_52 (by decide) (fun c52 => ?_) (fun c52 => ?_)
    · exact j78 (by simp [r_dv, c52]) c16
    · refine x_iload_n C dX11_isValue_55 rfl rfl ?_
      refine x_bipush (v := 13) C dX11_isValue_56 (by decide) ?_
      refine x_icmp_gt (tgt := 78) C dX11_isValue_58 (by decide) (fun c58 => ?_) (fun c58 => ?_)
      · exact j78 (by simp [r_dv, c52, c58]) c16
      · have hdv9 : r_dv ((tE Ev).1 R.1.1) = true := by simp [r_dv, c52, c58]
        have hlt : R.1.1 < N := r_ltn hN ha1 rfl (r_dv_lt hdv9)
        have hl0 : R.2.1.length < 800 := by omega
        refine x_aload_n C dX11_isValue_61 rfl rfl ?_
        refine x_iload_n C dX11_isValue_62 rfl rfl ?_
        refine x_callV1 C dX11_isValue_63 kX11_177 (c_X11_put hO hd hl0 (rH_B hd)) (rH_g0 hd) rfl (by omega) ⟨Nat.zero_le _, Nat.zero_le _⟩ (Nat.le_of_ble_eq_true rfl) ?_
        rintro _ _ ⟨rfl, rfl⟩
        refine x_to (rH_H hd) ?_
        refine x_aload_n C dX11_isValue_66 rfl rfl ?_
        refine x_dup C dX11_isValue_67 rfl ?_
        refine x_getfield C dX11_isValue_68 fX11_131 (rH_g0 hd) rfl ?_
        refine x_iconst (v := 1) C dX11_isValue_71 (by decide) ?_
        refine x_iadd C dX11_isValue_72 ?_
        rw [nI_1]
        refine x_putfield C dX11_isValue_73 fX11_131 (rH_g0 hd) rfl rfl (Nat.le_of_ble_eq_true rfl) ?_
        refine x_to (rH_adv hd) ?_
        refine x_to (show _ = rH M o r Ev (r_adv (r_put R ((tE Ev).1 R.1.1))) from rfl) ?_
        refine x_to (show _ = rH M o r Ev (r_adv (r_gh (r_put R ((tE Ev).1 R.1.1)) (((tE Ev).1 R.1.1).toNatClampNeg + 256, 0, none))) from rfl) ?_
        refine x_iconst (v := 1) C dX11_isValue_76 (by decide) ?_
        refine x_zret C E dX11_isValue_77 rfl ?_
        have hdv : r_dv ((tE Ev).1 R.1.1) = true := by simp [r_dv, c52, c58]
        refine ⟨?_, ?_⟩
        · first | (simp only [r_val, r_vn, if_neg c16, h_bd, h_bT, h_bF, if_true, if_false, Bool.false_eq_true, if_pos hdv]; done) | (simp only [r_val, r_vn, if_neg c16, h_bd, h_bT, h_bF, if_true, if_false, Bool.false_eq_true, if_pos hdv]; rfl)
        · refine congrArg (rH M o r Ev) ?_
          simp only [r_val, r_vn, if_neg c16, h_bd, h_bT, h_bF, if_true, if_false, Bool.false_eq_true, if_pos hdv]
  · have c16 := b_y c16
    have hlt : R.1.1 < N := r_ltn hN ha1 c16 (by decide)
    have hl0 : R.2.1.length < 800 := by omega
    have hl1 : (r_put R 32).2.1.length < 800 := by show (R.2.1 ++ [32]).length < 800; rw [r_app1]; omega
    refine x_aload_n C dX11_isValue_19 rfl rfl ?_
    refine x_bipush (v := 32) C dX11_isValue_20 (by decide) ?_
    refine x_callV1 C dX11_isValue_22 kX11_177 (c_X11_put hO hd hl0 (rH_B hd)) (rH_g0 hd) rfl (by omega) ⟨Nat.zero_le _, Nat.zero_le _⟩ (Nat.le_of_ble_eq_true rfl) ?_
    rintro _ _ ⟨rfl, rfl⟩
    refine x_to (rH_H hd) ?_
    refine x_aload_n C dX11_isValue_25 rfl rfl ?_
    refine x_aload_n C dX11_isValue_26 rfl rfl ?_
    refine x_aload_n C dX11_isValue_27 rfl rfl ?_
    refine x_getfield C dX11_isValue_28 fX11_131 (rH_g0 hd) rfl ?_
    refine x_callV1 C dX11_isValue_31 kX11_211 (c_X11_numberAt (i := R.1.1) hO h41 (hin _ hlt c16) (rH_B hd)) (rH_g0 hd) rfl (by omega) ⟨Nat.zero_le _, Nat.zero_le _⟩ (Nat.le_of_ble_eq_true rfl) ?_
    rintro _ _ ⟨rfl, rfl⟩
    refine x_callV1 C dX11_isValue_34 kX11_177 (c_X11_put hO hd hl1 (rH_B hd)) (rH_g0 hd) rfl (by omega) ⟨Nat.zero_le _, Nat.zero_le _⟩ (Nat.le_of_ble_eq_true rfl) ?_
    rintro _ _ ⟨rfl, rfl⟩
    refine x_to (rH_H hd) ?_
    refine x_aload_n C dX11_isValue_37 rfl rfl ?_
    refine x_dup C dX11_isValue_38 rfl ?_
    refine x_getfield C dX11_isValue_39 fX11_131 (rH_g0 hd) rfl ?_
    refine x_iconst (v := 1) C dX11_isValue_42 (by decide) ?_
    refine x_iadd C dX11_isValue_43 ?_
    rw [nI_1]
    refine x_putfield C dX11_isValue_44 fX11_131 (rH_g0 hd) rfl rfl (Nat.le_of_ble_eq_true rfl) ?_
    refine x_to (rH_adv hd) ?_
    refine x_to (show _ = rH M o r Ev (r_adv (r_put (r_put R 32) ((tE Ev).2 R.1.1))) from rfl) ?_
    refine x_to (show _ = rH M o r Ev (r_adv (r_gh (r_put (r_put R 32) ((tE Ev).2 R.1.1)) (3, (tE Ev).2 R.1.1, none))) from rfl) ?_
    refine x_iconst (v := 1) C dX11_isValue_47 (by decide) ?_
    refine x_zret C E dX11_isValue_48 rfl ?_
    refine ⟨?_, ?_⟩
    · first | (simp only [r_val, r_vn, if_pos c16, h_bd, h_bT, h_bF, if_true, if_false, Bool.false_eq_true]; done) | (simp only [r_val, r_vn, if_pos c16, h_bd, h_bT, h_bF, if_true, if_false, Bool.false_eq_true]; rfl)
    · refine congrArg (rH M o r Ev) ?_
      simp only [r_val, r_vn, if_pos c16, h_bd, h_bT, h_bF, if_true, if_false, Bool.false_eq_true]
