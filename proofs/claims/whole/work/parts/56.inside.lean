def rCt (l : Launch) (Y0 : x_Y) (y : MethodName) (cc : ByteArray) (nL d o r N : Nat) (Ev : rE) (dp : Nat) (f : rF) : Prop := ∀ (M : x_M) (R : rS), r_ok N R → R.1.2 = dp → rB M o r Ev R → x_C l Y0 y cc nL (some .boolean) d 0 0 [.ref o] M (fun u M1 => u = some (.int (h_b (f R).2)) ∧ M1 = rH M o r Ev (f R).1)
theorem h_bd {P : Prop} [Decidable P] : h_b (decide P) = if P then 1 else 0 := by
  unfold h_b
  by_cases h : P
  · rw [if_pos h, if_pos (decide_eq_true h)]
  · rw [if_neg h, if_neg (by rw [decide_eq_false h]; decide)]
theorem h_bT : h_b true = 1 := rfl
theorem h_bF : h_b false = 0 := rfl
set_option maxHeartbeats 4000000 in
set_option maxRecDepth 100000 in
theorem c_X11_isInside {l : Launch} {Y0 : x_Y} (hO : x_Ok Y0) {M : x_M} {o r N : Nat} {Ev : rE} {R : rS} (hd : o + 7 ≤ r) (hN : r_tok (tE Ev) N) (hk : r_ok N R) (hb : rB M o r Ev R) {dp d : Nat} (hdp0 : R.1.2 = dp) {dS : Nat} {fs : rF} (hd1 : dS + 1 ≤ d) (hd4 : 5 ≤ d) (hfs : dp < 8 → r_gd N fs) (hS : dp < 8 → rCt l Y0 yX11_isSum cX11_isSum 2 dS o r N Ev (dp + 1) fs) {k : Int32} {two : Bool} : x_C l Y0 yX11_isInside cX11_isInside 3 (some .boolean) d 0 0 [.ref o, .int k, .int (h_b two)] M (fun u M1 => u = some (.int (h_b (r_ins (tE Ev) fs R k two).2)) ∧ M1 = rH M o r Ev (r_ins (tE Ev) fs R k two).1) := by
  refine x_start hO (by decide +kernel) (Nat.le_of_ble_eq_true rfl) (fun K C E => ?_)
  have hN4 : N ≤ 400 := hN.1
  have ha := hk
  obtain ⟨ha1, ha2, ha3, ha4⟩ := ha
  refine x_to (rH_self hb).symm ?_
  refine x_aload_n C dX11_isInside_0 rfl rfl ?_
  refine x_bipush (v := 40) C dX11_isInside_1 (by decide) ?_
  refine x_callV1 C dX11_isInside_3 kX11_199 (c_X11_isSign hO hd hN hk.1 (rH_B hd) (w := 90) (by decide)) (rH_g0 hd) rfl (by omega) ⟨Nat.zero_le _, Nat.zero_le _⟩ (Nat.le_of_ble_eq_true rfl) ?_
  rintro _ _ ⟨rfl, rfl⟩
  refine x_if_eq (tgt := 43) C dX11_isInside_6 (by decide) (fun c6 => ?_) (fun c6 => ?_)
  · have c6 := b_n c6
    refine x_iconst (v := 0) C dX11_isInside_43 (by decide) ?_
    refine x_zret C E dX11_isInside_44 rfl ?_
    refine ⟨?_, ?_⟩
    · first | (simp only [r_ins, if_neg c6, h_bd, h_bT, h_bF, if_true, if_false, Bool.false_eq_true]; done) | (simp only [r_ins, if_neg c6, h_bd, h_bT, h_bF, if_true, if_false, Bool.false_eq_true]; rfl)
    · refine congrArg (rH M o r Ev) ?_
      simp only [r_ins, if_neg c6, h_bd, h_bT, h_bF, if_true, if_false, Bool.false_eq_true]
  · have c6 := b_y c6
    refine x_aload_n C dX11_isInside_9 rfl rfl ?_
    refine x_callV0 C dX11_isInside_10 kX11_196 (c_X11_isDeeper hO hd hN hk.1 (rH_B hd) hk.2.1) (rH_g0 hd) rfl (by omega) ⟨Nat.zero_le _, Nat.zero_le _⟩ (Nat.le_of_ble_eq_true rfl) ?_
    rintro _ _ ⟨rfl, rfl⟩
    refine x_to (rH_H hd) ?_
    refine x_if_eq (tgt := 43) C dX11_isInside_13 (by decide) (fun c13 => ?_) (fun c13 => ?_)
    · have c13 := b_n c13
      have c13 : R.1.2 = 8 := Decidable.byContradiction c13
      refine x_iconst (v := 0) C dX11_isInside_43 (by decide) ?_
      refine x_zret C E dX11_isInside_44 rfl ?_
      refine ⟨?_, ?_⟩
      · first | (simp only [r_ins, if_pos c6, if_pos c13, h_bd, h_bT, h_bF, if_true, if_false, Bool.false_eq_true]; done) | (simp only [r_ins, if_pos c6, if_pos c13, h_bd, h_bT, h_bF, if_true, if_false, Bool.false_eq_true]; rfl)
      · refine congrArg (rH M o r Ev) ?_
        simp only [r_ins, if_pos c6, if_pos c13, h_bd, h_bT, h_bF, if_true, if_false, Bool.false_eq_true]
    · have c13 := b_y c13
      obtain ⟨hk1, hq1, hr1⟩ := r_ok_deep hN hk c6 (by decide) c13
      have h8 : dp < 8 := by omega
      have g1 := hfs h8 _ hk1
      have hk2 := r_st_ok hk1 g1.1
      have hp1 : (r_deep R).1.2 = dp + 1 := by rw [hq1, ← hdp0]
      refine x_aload_n C dX11_isInside_16 rfl rfl ?_
      refine x_callV0 C dX11_isInside_17 kX11_202 (hS h8 _ _ hk1 hp1 (rH_B hd)) (rH_g0 hd) rfl (by omega) ⟨Nat.zero_le _, Nat.zero_le _⟩ (Nat.le_of_ble_eq_true rfl) ?_
      rintro _ _ ⟨rfl, rfl⟩
      refine x_to (rH_H hd) ?_
      refine x_if_eq (tgt := 43) C dX11_isInside_20 (by decide) (fun c20 => ?_) (fun c20 => ?_)
      · have c20 := b_n c20
        refine x_iconst (v := 0) C dX11_isInside_43 (by decide) ?_
        refine x_zret C E dX11_isInside_44 rfl ?_
        refine ⟨?_, ?_⟩
        · first | (simp only [r_ins, if_pos c6, if_neg c13, if_neg c20, h_bd, h_bT, h_bF, if_true, if_false, Bool.false_eq_true]; done) | (simp only [r_ins, if_pos c6, if_neg c13, if_neg c20, h_bd, h_bT, h_bF, if_true, if_false, Bool.false_eq_true]; rfl)
        · refine congrArg (rH M o r Ev) ?_
          simp only [r_ins, if_pos c6, if_neg c13, if_neg c20, h_bd, h_bT, h_bF, if_true, if_false, Bool.false_eq_true]
      · have c20 := b_y c20
        have e2 : (fs (r_deep R)).1.1.2 = R.1.2 + 1 := by rw [(g1.2 c20).2, hq1]
        refine x_iload_n C dX11_isInside_23 rfl rfl ?_
        refine x_if_eq (tgt := 45) C dX11_isInside_24 (by decide) (fun c24 => ?_) (fun c24 => ?_)
        · have hw2 : two = false := by
            cases two with
            | false => rfl
            | true => exact absurd c24 (by decide)
          subst hw2
          refine x_aload_n C dX11_isInside_45 rfl rfl ?_
          refine x_dup C dX11_isInside_46 rfl ?_
          refine x_getfield C dX11_isInside_47 fX11_184 (rH_g0 hd) rfl ?_
          refine x_iconst (v := 1) C dX11_isInside_50 (by decide) ?_
          refine x_isub C dX11_isInside_51 ?_
          refine x_topi (nI ((fs (r_deep R)).1.1.2 - 1)) (by rw [e2]; exact nI_pred _) ?_
          refine x_putfield C dX11_isInside_52 fX11_184 (rH_g0 hd) rfl rfl (Nat.le_of_ble_eq_true rfl) ?_
          refine x_to (rH_up hd) ?_
          refine x_to (show _ = rH M o r Ev (r_up (fs (r_deep R)).1) from rfl) ?_
          refine x_iload_n C dX11_isInside_55 rfl rfl ?_
          refine x_if_eq (tgt := 64) C dX11_isInside_56 (by decide) (fun c56 => ?_) (fun c56 => ?_)
          · refine x_aload_n C dX11_isInside_64 rfl rfl ?_
            refine x_bipush (v := 41) C dX11_isInside_65 (by decide) ?_
            refine x_callV1 C dX11_isInside_67 kX11_148 (c_X11_eatSign (R := r_up (fs (r_deep R)).1) hO hd hN hk2.1 (rH_B hd) (w := 91) (by decide)) (rH_g0 hd) rfl (by omega) ⟨Nat.zero_le _, Nat.zero_le _⟩ (Nat.le_of_ble_eq_true rfl) ?_
            rintro _ _ ⟨rfl, rfl⟩
            refine x_to (rH_H hd) ?_
            refine x_zret C E dX11_isInside_70 (by split <;> rfl) ?_
            refine ⟨?_, ?_⟩
            · first | (simp only [r_ins, if_pos c6, if_neg c13, if_pos c20, h_bd, h_bT, h_bF, if_true, if_false, Bool.false_eq_true]; done) | (simp only [r_ins, if_pos c6, if_neg c13, if_pos c20, h_bd, h_bT, h_bF, if_true, if_false, Bool.false_eq_true]; rfl)
            · refine congrArg (rH M o r Ev) ?_
              simp only [r_ins, if_pos c6, if_neg c13, if_pos c20, h_bd, h_bT, h_bF, if_true, if_false, Bool.false_eq_true]
          · exact absurd c24 c56
        · have hw2 : two = true := by
            cases two with
            | true => rfl
            | false => exact absurd rfl c24
          subst hw2
          refine x_aload_n C dX11_isInside_27 rfl rfl ?_
          refine x_bipush (v := 44) C dX11_isInside_28 (by decide) ?_
          refine x_callV1 C dX11_isInside_30 kX11_148 (c_X11_eatSign hO hd hN hk2.1 (rH_B hd) (w := 94) (by decide)) (rH_g0 hd) rfl (by omega) ⟨Nat.zero_le _, Nat.zero_le _⟩ (Nat.le_of_ble_eq_true rfl) ?_
          rintro _ _ ⟨rfl, rfl⟩
          refine x_to (rH_H hd) ?_
          refine x_if_eq (tgt := 43) C dX11_isInside_33 (by decide) (fun c33 => ?_) (fun c33 => ?_)
          · have c33 := b_n c33
            refine x_iconst (v := 0) C dX11_isInside_43 (by decide) ?_
            refine x_zret C E dX11_isInside_44 rfl ?_
            refine ⟨?_, ?_⟩
            · first | (simp only [r_ins, if_pos c6, if_neg c13, if_pos c20, if_neg c33, r_eat_n c33, h_bd, h_bT, h_bF, if_true, if_false, Bool.false_eq_true]; done) | (simp only [r_ins, if_pos c6, if_neg c13, if_pos c20, if_neg c33, r_eat_n c33, h_bd, h_bT, h_bF, if_true, if_false, Bool.false_eq_true]; rfl)
            · refine congrArg (rH M o r Ev) ?_
              simp only [r_ins, if_pos c6, if_neg c13, if_pos c20, if_neg c33, r_eat_n c33, h_bd, h_bT, h_bF, if_true, if_false, Bool.false_eq_true]
          · have c33 := b_y c33
            rw [r_eat_p c33]
            obtain ⟨hk3, -⟩ := r_ok_adv hN hk2 c33 (by decide)
            have g3 := hfs h8 _ hk3
            have hk4 := r_st_ok hk3 g3.1
            have hs4 : (fs (r_adv (fs (r_deep R)).1)).1.2.1.length < 800 := Nat.lt_of_lt_of_le (r_gd_op (x := k) (i := (0, 0, none)) hN hk2 c33 (by decide) (hfs h8)).2.1 (by decide)
            refine x_aload_n C dX11_isInside_36 rfl rfl ?_
            refine x_callV0 C dX11_isInside_37 kX11_202 (hS h8 _ _ hk3 (show (fs (r_deep R)).1.1.2 = dp + 1 by omega) (rH_B hd)) (rH_g0 hd) rfl (by omega) ⟨Nat.zero_le _, Nat.zero_le _⟩ (Nat.le_of_ble_eq_true rfl) ?_
            rintro _ _ ⟨rfl, rfl⟩
            refine x_to (rH_H hd) ?_
            refine x_if_ne (tgt := 45) C dX11_isInside_40 (by decide) (fun c40 => ?_) (fun c40 => ?_)
            · have c40 := b_y c40
              have e4 : (fs (r_adv (fs (r_deep R)).1)).1.1.2 = R.1.2 + 1 := (g3.2 c40).2.trans e2
              refine x_aload_n C dX11_isInside_45 rfl rfl ?_
              refine x_dup C dX11_isInside_46 rfl ?_
              refine x_getfield C dX11_isInside_47 fX11_184 (rH_g0 hd) rfl ?_
              refine x_iconst (v := 1) C dX11_isInside_50 (by decide) ?_
              refine x_isub C dX11_isInside_51 ?_
              refine x_topi (nI ((fs (r_adv (fs (r_deep R)).1)).1.1.2 - 1)) (by rw [e4]; exact nI_pred _) ?_
              refine x_putfield C dX11_isInside_52 fX11_184 (rH_g0 hd) rfl rfl (Nat.le_of_ble_eq_true rfl) ?_
              refine x_to (rH_up hd) ?_
              refine x_to (show _ = rH M o r Ev (r_up (fs (r_adv (fs (r_deep R)).1)).1) from rfl) ?_
              refine x_iload_n C dX11_isInside_55 rfl rfl ?_
              refine x_if_eq (tgt := 64) C dX11_isInside_56 (by decide) (fun c56 => ?_) (fun c56 => ?_)
              · exact absurd c56 c24
              · refine x_aload_n C dX11_isInside_59 rfl rfl ?_
                refine x_iload_n C dX11_isInside_60 rfl rfl ?_
                refine x_callV1 C dX11_isInside_61 kX11_177 (c_X11_put (R := r_up (fs (r_adv (fs (r_deep R)).1)).1) hO hd hs4 (rH_B hd)) (rH_g0 hd) rfl (by omega) ⟨Nat.zero_le _, Nat.zero_le _⟩ (Nat.le_of_ble_eq_true rfl) ?_
                rintro _ _ ⟨rfl, rfl⟩
                refine x_to (rH_H hd) ?_
                refine x_to (show _ = rH M o r Ev (r_gh (r_put (r_up (fs (r_adv (fs (r_deep R)).1)).1) k) (k.toNatClampNeg + 256, 0, none)) from rfl) ?_
                refine x_aload_n C dX11_isInside_64 rfl rfl ?_
                refine x_bipush (v := 41) C dX11_isInside_65 (by decide) ?_
                refine x_callV1 C dX11_isInside_67 kX11_148 (c_X11_eatSign (R := r_gh (r_put (r_up (fs (r_adv (fs (r_deep R)).1)).1) k) (k.toNatClampNeg + 256, 0, none)) hO hd hN hk4.1 (rH_B hd) (w := 91) (by decide)) (rH_g0 hd) rfl (by omega) ⟨Nat.zero_le _, Nat.zero_le _⟩ (Nat.le_of_ble_eq_true rfl) ?_
                rintro _ _ ⟨rfl, rfl⟩
                refine x_to (rH_H hd) ?_
                refine x_zret C E dX11_isInside_70 (by split <;> rfl) ?_
                refine ⟨?_, ?_⟩
                · first | (simp only [r_ins, if_pos c6, if_neg c13, if_pos c20, if_pos c33, if_pos c40, r_eat_p c33, h_bd, h_bT, h_bF, if_true, if_false, Bool.false_eq_true]; done) | (simp only [r_ins, if_pos c6, if_neg c13, if_pos c20, if_pos c33, if_pos c40, r_eat_p c33, h_bd, h_bT, h_bF, if_true, if_false, Bool.false_eq_true]; rfl)
                · refine congrArg (rH M o r Ev) ?_
                  simp only [r_ins, if_pos c6, if_neg c13, if_pos c20, if_pos c33, if_pos c40, r_eat_p c33, h_bd, h_bT, h_bF, if_true, if_false, Bool.false_eq_true]
            · have c40 := b_n c40
              refine x_iconst (v := 0) C dX11_isInside_43 (by decide) ?_
              refine x_zret C E dX11_isInside_44 rfl ?_
              refine ⟨?_, ?_⟩
              · first | (simp only [r_ins, if_pos c6, if_neg c13, if_pos c20, if_pos c33, if_neg c40, r_eat_p c33, h_bd, h_bT, h_bF, if_true, if_false, Bool.false_eq_true]; done) | (simp only [r_ins, if_pos c6, if_neg c13, if_pos c20, if_pos c33, if_neg c40, r_eat_p c33, h_bd, h_bT, h_bF, if_true, if_false, Bool.false_eq_true]; rfl)
              · refine congrArg (rH M o r Ev) ?_
                simp only [r_ins, if_pos c6, if_neg c13, if_pos c20, if_pos c33, if_neg c40, r_eat_p c33, h_bd, h_bT, h_bF, if_true, if_false, Bool.false_eq_true]
