set_option maxHeartbeats 4000000 in
set_option maxRecDepth 100000 in
theorem c_X11_isPartOfDeal {l : Launch} {Y0 : x_Y} (hO : x_Ok Y0) {M : x_M} {o r N : Nat} {Ev : rE} {R : rS} (hd : o + 7 ≤ r) (hN : r_tok (tE Ev) N) (hk : r_ok N R) (hb : rB M o r Ev R) {dp d : Nat} (hdp0 : R.1.2 = dp) : x_C l Y0 yX11_isPartOfDeal cX11_isPartOfDeal 1 (some .boolean) 6 0 0 [.ref o] M (fun u M1 => u = some (.int (h_b (r_pd (tE Ev) R).2)) ∧ M1 = rH M o r Ev (r_pd (tE Ev) R).1) := by
  refine x_start hO (by decide +kernel) (Nat.le_of_ble_eq_true rfl) (fun K C E => ?_)
  have hN4 : N ≤ 400 := hN.1
  have ha := hk
  obtain ⟨ha1, ha2, ha3, ha4⟩ := ha
  refine x_to (rH_self hb).symm ?_
  refine x_aload_n C dX11_isPartOfDeal_0 rfl rfl ?_
  refine x_bipush (v := 40) C dX11_isPartOfDeal_1 (by decide) ?_
  refine x_iconst (v := 4) C dX11_isPartOfDeal_3 (by decide) ?_
  refine x_callV2 C dX11_isPartOfDeal_4 kX11_152 (c_X11_eatAs (R := R) hO hd hN hk.1 (rH_B hd)) (rH_g0 hd) rfl (by decide) ⟨Nat.zero_le _, Nat.zero_le _⟩ (Nat.le_of_ble_eq_true rfl) ?_
  rintro _ _ ⟨rfl, rfl⟩
  refine x_to (rH_H hd) ?_
  refine x_if_eq (tgt := 41) C dX11_isPartOfDeal_7 (by decide) (fun c7 => ?_) (fun c7 => ?_)
  · have c7 := b_n c7
    rw [r_eatAs_n c7]
    refine x_iconst (v := 0) C dX11_isPartOfDeal_41 (by decide) ?_
    refine x_zret C E dX11_isPartOfDeal_42 rfl ?_
    refine ⟨?_, ?_⟩
    · first | (simp only [r_pd, if_neg c7, h_bd, h_bT, h_bF, if_true, if_false, Bool.false_eq_true]; done) | (simp only [r_pd, if_neg c7, h_bd, h_bT, h_bF, if_true, if_false, Bool.false_eq_true]; rfl)
    · refine congrArg (rH M o r Ev) ?_
      simp only [r_pd, if_neg c7, h_bd, h_bT, h_bF, if_true, if_false, Bool.false_eq_true]
  · have c7 := b_y c7
    rw [r_eatAs_p c7]
    have hlt : R.1.1 < N := r_ltn hN ha1 c7 (by decide)
    refine x_aload_n C dX11_isPartOfDeal_10 rfl rfl ?_
    refine x_iconst (v := 4) C dX11_isPartOfDeal_11 (by decide) ?_
    refine x_callV1 C dX11_isPartOfDeal_12 kX11_137 (c_X11_eat (R := r_adv (r_role R 4)) hO hd hN hlt (rH_B hd)) (rH_g0 hd) rfl (by decide) ⟨Nat.zero_le _, Nat.zero_le _⟩ (Nat.le_of_ble_eq_true rfl) ?_
    rintro _ _ ⟨rfl, rfl⟩
    refine x_to (rH_H hd) ?_
    refine x_if_ne (tgt := 26) C dX11_isPartOfDeal_15 (by decide) (fun c15 => ?_) (fun c15 => ?_)
    · have c15 := b_y c15
      have c15 : (tE Ev).1 (R.1.1 + 1) = 4 := c15
      rw [r_eat_p (R := r_adv (r_role R 4)) c15]
      have hlt2 : R.1.1 + 1 < N := r_ltn hN hlt c15 (by decide)
      refine x_aload_n C dX11_isPartOfDeal_26 rfl rfl ?_
      refine x_bipush (v := 41) C dX11_isPartOfDeal_27 (by decide) ?_
      refine x_bipush (v := 9) C dX11_isPartOfDeal_29 (by decide) ?_
      refine x_callV2 C dX11_isPartOfDeal_31 kX11_152 (c_X11_eatAs (R := (r_adv (r_adv (r_role R 4)))) hO hd hN hlt2 (rH_B hd)) (rH_g0 hd) rfl (by decide) ⟨Nat.zero_le _, Nat.zero_le _⟩ (Nat.le_of_ble_eq_true rfl) ?_
      rintro _ _ ⟨rfl, rfl⟩
      refine x_to (rH_H hd) ?_
      refine x_if_eq (tgt := 41) C dX11_isPartOfDeal_34 (by decide) (fun c34 => ?_) (fun c34 => ?_)
      · have c34 := b_n c34
        have c34 : ¬ (tE Ev).1 (R.1.1 + 2) = 41 := c34
        refine x_iconst (v := 0) C dX11_isPartOfDeal_41 (by decide) ?_
        refine x_zret C E dX11_isPartOfDeal_42 rfl ?_
        refine ⟨?_, ?_⟩
        · first | (simp only [r_pd, if_pos c7, if_pos c15, if_neg c34, h_bd, h_bT, h_bF, if_true, if_false, Bool.false_eq_true]; done) | (simp only [r_pd, if_pos c7, if_pos c15, if_neg c34, h_bd, h_bT, h_bF, if_true, if_false, Bool.false_eq_true]; rfl)
        · refine congrArg (rH M o r Ev) ?_
          simp only [r_pd, if_pos c7, if_pos c15, if_neg c34, h_bd, h_bT, h_bF, if_true, if_false, Bool.false_eq_true]
      · have c34 := b_y c34
        have c34 : (tE Ev).1 (R.1.1 + 2) = 41 := c34
        refine x_iconst (v := 1) C dX11_isPartOfDeal_37 (by decide) ?_
        refine x_goto (tgt := 42) C dX11_isPartOfDeal_38 (by decide) ?_
        refine x_zret C E dX11_isPartOfDeal_42 rfl ?_
        refine ⟨?_, ?_⟩
        · first | (simp only [r_pd, if_pos c7, if_pos c15, if_pos c34, h_bd, h_bT, h_bF, if_true, if_false, Bool.false_eq_true]; done) | (simp only [r_pd, if_pos c7, if_pos c15, if_pos c34, h_bd, h_bT, h_bF, if_true, if_false, Bool.false_eq_true]; rfl)
        · refine congrArg (rH M o r Ev) ?_
          simp only [r_pd, if_pos c7, if_pos c15, if_pos c34, h_bd, h_bT, h_bF, if_true, if_false, Bool.false_eq_true]
    · have c15 := b_n c15
      have c15 : ¬ (tE Ev).1 (R.1.1 + 1) = 4 := c15
      rw [r_eat_n (R := r_adv (r_role R 4)) c15]
      refine x_aload_n C dX11_isPartOfDeal_18 rfl rfl ?_
      refine x_iconst (v := 5) C dX11_isPartOfDeal_19 (by decide) ?_
      refine x_callV1 C dX11_isPartOfDeal_20 kX11_137 (c_X11_eat (R := r_adv (r_role R 4)) hO hd hN hlt (rH_B hd)) (rH_g0 hd) rfl (by decide) ⟨Nat.zero_le _, Nat.zero_le _⟩ (Nat.le_of_ble_eq_true rfl) ?_
      rintro _ _ ⟨rfl, rfl⟩
      refine x_to (rH_H hd) ?_
      refine x_if_eq (tgt := 41) C dX11_isPartOfDeal_23 (by decide) (fun c23 => ?_) (fun c23 => ?_)
      · have c23 := b_n c23
        have c23 : ¬ (tE Ev).1 (R.1.1 + 1) = 5 := c23
        rw [r_eat_n (R := r_adv (r_role R 4)) c23]
        refine x_iconst (v := 0) C dX11_isPartOfDeal_41 (by decide) ?_
        refine x_zret C E dX11_isPartOfDeal_42 rfl ?_
        refine ⟨?_, ?_⟩
        · first | (simp only [r_pd, if_pos c7, if_neg c15, if_neg c23, h_bd, h_bT, h_bF, if_true, if_false, Bool.false_eq_true]; done) | (simp only [r_pd, if_pos c7, if_neg c15, if_neg c23, h_bd, h_bT, h_bF, if_true, if_false, Bool.false_eq_true]; rfl)
        · refine congrArg (rH M o r Ev) ?_
          simp only [r_pd, if_pos c7, if_neg c15, if_neg c23, h_bd, h_bT, h_bF, if_true, if_false, Bool.false_eq_true]
      · have c23 := b_y c23
        have c23 : (tE Ev).1 (R.1.1 + 1) = 5 := c23
        rw [r_eat_p (R := r_adv (r_role R 4)) c23]
        have hlt2 : R.1.1 + 1 < N := r_ltn hN hlt c23 (by decide)
        refine x_aload_n C dX11_isPartOfDeal_26 rfl rfl ?_
        refine x_bipush (v := 41) C dX11_isPartOfDeal_27 (by decide) ?_
        refine x_bipush (v := 9) C dX11_isPartOfDeal_29 (by decide) ?_
        refine x_callV2 C dX11_isPartOfDeal_31 kX11_152 (c_X11_eatAs (R := (r_adv (r_adv (r_role R 4)))) hO hd hN hlt2 (rH_B hd)) (rH_g0 hd) rfl (by decide) ⟨Nat.zero_le _, Nat.zero_le _⟩ (Nat.le_of_ble_eq_true rfl) ?_
        rintro _ _ ⟨rfl, rfl⟩
        refine x_to (rH_H hd) ?_
        refine x_if_eq (tgt := 41) C dX11_isPartOfDeal_34 (by decide) (fun c34 => ?_) (fun c34 => ?_)
        · have c34 := b_n c34
          have c34 : ¬ (tE Ev).1 (R.1.1 + 2) = 41 := c34
          refine x_iconst (v := 0) C dX11_isPartOfDeal_41 (by decide) ?_
          refine x_zret C E dX11_isPartOfDeal_42 rfl ?_
          refine ⟨?_, ?_⟩
          · first | (simp only [r_pd, if_pos c7, if_neg c15, if_pos c23, if_neg c34, h_bd, h_bT, h_bF, if_true, if_false, Bool.false_eq_true]; done) | (simp only [r_pd, if_pos c7, if_neg c15, if_pos c23, if_neg c34, h_bd, h_bT, h_bF, if_true, if_false, Bool.false_eq_true]; rfl)
          · refine congrArg (rH M o r Ev) ?_
            simp only [r_pd, if_pos c7, if_neg c15, if_pos c23, if_neg c34, h_bd, h_bT, h_bF, if_true, if_false, Bool.false_eq_true]
        · have c34 := b_y c34
          have c34 : (tE Ev).1 (R.1.1 + 2) = 41 := c34
          refine x_iconst (v := 1) C dX11_isPartOfDeal_37 (by decide) ?_
          refine x_goto (tgt := 42) C dX11_isPartOfDeal_38 (by decide) ?_
          refine x_zret C E dX11_isPartOfDeal_42 rfl ?_
          refine ⟨?_, ?_⟩
          · first | (simp only [r_pd, if_pos c7, if_neg c15, if_pos c23, if_pos c34, h_bd, h_bT, h_bF, if_true, if_false, Bool.false_eq_true]; done) | (simp only [r_pd, if_pos c7, if_neg c15, if_pos c23, if_pos c34, h_bd, h_bT, h_bF, if_true, if_false, Bool.false_eq_true]; rfl)
          · refine congrArg (rH M o r Ev) ?_
            simp only [r_pd, if_pos c7, if_neg c15, if_pos c23, if_pos c34, h_bd, h_bT, h_bF, if_true, if_false, Bool.false_eq_true]
