section XRB
set_option maxHeartbeats 4000000 in
set_option maxRecDepth 100000 in
theorem c_X11_isLine {l : Launch} {Y0 : x_Y} (hO : x_Ok Y0) {M : x_M} {o r N : Nat} {Ev : rE} {R : rS} (hd : o + 7 ≤ r) (hN : r_tok (tE Ev) N) (hk : r_ok N R) (hb : rB M o r Ev R) {d : Nat} (hdp0 : R.1.2 = 0) {ft : rF} {od : Nat} (hod : Ev.2 10 3 = nI od) (hod4 : od ≤ 400) (hft : r_gd N ft) (hT : ∀ n, rCt l Y0 yX11_isTest cX11_isTest 1 44 o r N (o_E2 Ev od n) 0 ft) (hd9 : 46 ≤ d) : x_C l Y0 yX11_isLine cX11_isLine 1 (some .boolean) d 0 0 [.ref o] M (fun u M1 => u = some (.int (h_b (q_line (tE Ev) ft ((od, Ev), R)).2)) ∧ M1 = rH M o r (q_line (tE Ev) ft ((od, Ev), R)).1.1.2 (q_line (tE Ev) ft ((od, Ev), R)).1.2) := by
  refine x_start hO (by decide +kernel) (Nat.le_of_ble_eq_true rfl) (fun K C E => ?_)
  have hN4 : N ≤ 400 := hN.1
  have ha := hk
  obtain ⟨ha1, ha2, ha3, ha4⟩ := ha
  refine x_to (rH_self hb).symm ?_
  have h41 : R.1.1 < 401 := by omega
  have lp : ∀ (w : Nat) (R1 : rS), N - R1.1.1 < w → r_ok N R1 → q_line (tE Ev) ft ((od, Ev), R) = q_w ((od, Ev), R) (r_plp (tE Ev) w R1) → x_X K 1 0 0 92 [(0, .ref o)] [] (rH M o r Ev R1) := by
    intro w
    induction w with
    | zero =>
      intro R1 hw
      exact absurd hw (Nat.not_lt_zero _)
    | succ w ih =>
      intro R1 hw hk1 hq
      refine x_aload_n C dX11_isLine_92 rfl rfl ?_
      refine x_bipush (v := 44) C dX11_isLine_93 (by decide) ?_
      refine x_callV1 C dX11_isLine_95 kX11_148 (c_X11_eatSign (R := R1) hO hd hN hk1.1 (rH_B hd) (w := 94) (by decide)) (rH_g0 hd) rfl (by omega) ⟨Nat.zero_le _, Nat.zero_le _⟩ (Nat.le_of_ble_eq_true rfl) ?_
      rintro _ _ ⟨rfl, rfl⟩
      refine x_to (rH_H hd) ?_
      refine x_if_eq (tgt := 110) C dX11_isLine_98 (by decide) (fun c98 => ?_) (fun c98 => ?_)
      · have c98 := b_n c98
        rw [r_eat_n c98]
        refine x_iconst (v := 1) C dX11_isLine_110 (by decide) ?_
        refine x_zret C E dX11_isLine_111 rfl ?_
        have e9 : q_line (tE Ev) ft ((od, Ev), R) = q_w ((od, Ev), R) (R1, true) := by rw [hq]; simp only [r_plp, if_neg c98]
        rw [e9]
        exact ⟨rfl, rfl⟩
      · have c98 := b_y c98
        rw [r_eat_p c98]
        obtain ⟨d1, -⟩ := r_ok_adv hN hk1 c98 (by decide)
        have g0 := r_gd_pd (T := tE Ev) hN _ d1
        refine x_aload_n C dX11_isLine_101 rfl rfl ?_
        refine x_callV0 C dX11_isLine_102 kX11_159 (c_X11_isPartOfDeal (d := 0) hO hd hN d1 (rH_B hd) rfl) (rH_g0 hd) rfl (by omega) ⟨Nat.zero_le _, Nat.zero_le _⟩ (Nat.le_of_ble_eq_true rfl) ?_
        rintro _ _ ⟨rfl, rfl⟩
        refine x_to (rH_H hd) ?_
        refine x_if_ne (tgt := 92) C dX11_isLine_105 (by decide) (fun c105 => ?_) (fun c105 => ?_)
        · have c105 := b_y c105
          refine x_take 1 ?_
          exact ih _ (by have := (g0.2 c105).1; have := g0.1.2.1; have := hk1.1; have e : (r_adv R1).1.1 = R1.1.1 + 1 := rfl; omega) (r_st_ok d1 g0.1) (by rw [hq]; simp only [r_plp, if_pos c98, if_pos c105])
        · have c105 := b_n c105
          refine x_iconst (v := 0) C dX11_isLine_108 (by decide) ?_
          refine x_zret C E dX11_isLine_109 rfl ?_
          have e9 : q_line (tE Ev) ft ((od, Ev), R) = q_w ((od, Ev), R) ((r_pd (tE Ev) (r_adv R1)).1, false) := by rw [hq]; simp only [r_plp, if_pos c98, if_neg c105, Bool.false_eq_true, if_false]
          rw [e9]
          exact ⟨rfl, rfl⟩
  refine x_aload_n C dX11_isLine_0 rfl rfl ?_
  refine x_iconst (v := 0) C dX11_isLine_1 (by decide) ?_
  refine x_callV1 C dX11_isLine_2 kX11_137 (c_X11_eat (R := R) hO hd hN ha1 (rH_B hd)) (rH_g0 hd) rfl (by omega) ⟨Nat.zero_le _, Nat.zero_le _⟩ (Nat.le_of_ble_eq_true rfl) ?_
  rintro _ _ ⟨rfl, rfl⟩
  refine x_to (rH_H hd) ?_
  refine x_if_eq (tgt := 43) C dX11_isLine_5 (by decide) (fun c5 => ?_) (fun c5 => ?_)
  · have c5 := b_n c5
    rw [r_eat_n c5]
    refine x_aload_n C dX11_isLine_43 rfl rfl ?_
    refine x_iconst (v := 2) C dX11_isLine_44 (by decide) ?_
    refine x_callV1 C dX11_isLine_45 kX11_137 (c_X11_eat (R := R) hO hd hN ha1 (rH_B hd)) (rH_g0 hd) rfl (by omega) ⟨Nat.zero_le _, Nat.zero_le _⟩ (Nat.le_of_ble_eq_true rfl) ?_
    rintro _ _ ⟨rfl, rfl⟩
    refine x_to (rH_H hd) ?_
    refine x_if_ne (tgt := 65) C dX11_isLine_48 (by decide) (fun c48 => ?_) (fun c48 => ?_)
    · have c48 := b_y c48
      rw [r_eat_p c48]
      have hlt : R.1.1 < N := r_ltn hN ha1 c48 (by decide)
      obtain ⟨hk1, -⟩ := r_ok_adv hN hk c48 (by decide)
      refine x_aload_n C dX11_isLine_65 rfl rfl ?_
      refine x_bipush (v := 40) C dX11_isLine_66 (by decide) ?_
      refine x_iconst (v := 2) C dX11_isLine_68 (by decide) ?_
      refine x_callV2 C dX11_isLine_69 kX11_152 (c_X11_eatAs (R := r_adv R) hO hd hN hlt (rH_B hd)) (rH_g0 hd) rfl (by omega) ⟨Nat.zero_le _, Nat.zero_le _⟩ (Nat.le_of_ble_eq_true rfl) ?_
      rintro _ _ ⟨rfl, rfl⟩
      refine x_to (rH_H hd) ?_
      refine x_if_eq (tgt := 90) C dX11_isLine_72 (by decide) (fun c72 => ?_) (fun c72 => ?_)
      · have c72 := b_n c72
        have c72 : ¬ (tE Ev).1 (r_adv R).1.1 = 40 := c72
        rw [r_eatAs_n (R := r_adv R) c72]
        refine x_iconst (v := 0) C dX11_isLine_90 (by decide) ?_
        refine x_zret C E dX11_isLine_91 rfl ?_
        have e9 : q_line (tE Ev) ft ((od, Ev), R) = (((od, Ev), r_role (r_adv R) 2), false) := by simp only [q_line, q_w, if_neg c5, if_pos c48, r_dl, if_neg c72]
        rw [e9]
        exact ⟨rfl, rfl⟩
      · have c72 := b_y c72
        have c72 : (tE Ev).1 (r_adv R).1.1 = 40 := c72
        rw [r_eatAs_p (R := r_adv R) c72]
        have hlt2 : (r_adv R).1.1 < N := r_ltn hN hk1.1 c72 (by decide)
        refine x_aload_n C dX11_isLine_75 rfl rfl ?_
        refine x_iconst (v := 3) C dX11_isLine_76 (by decide) ?_
        refine x_callV1 C dX11_isLine_77 kX11_137 (c_X11_eat (R := (r_adv (r_role (r_adv R) 2))) hO hd hN hlt2 (rH_B hd)) (rH_g0 hd) rfl (by omega) ⟨Nat.zero_le _, Nat.zero_le _⟩ (Nat.le_of_ble_eq_true rfl) ?_
        rintro _ _ ⟨rfl, rfl⟩
        refine x_to (rH_H hd) ?_
        refine x_if_eq (tgt := 90) C dX11_isLine_80 (by decide) (fun c80 => ?_) (fun c80 => ?_)
        · have c80 := b_n c80
          have c80 : ¬ (tE Ev).1 ((r_adv R).1.1 + 1) = 3 := c80
          rw [r_eat_n (R := (r_adv (r_role (r_adv R) 2))) c80]
          refine x_iconst (v := 0) C dX11_isLine_90 (by decide) ?_
          refine x_zret C E dX11_isLine_91 rfl ?_
          have e9 : q_line (tE Ev) ft ((od, Ev), R) = (((od, Ev), (r_adv (r_role (r_adv R) 2))), false) := by simp only [q_line, q_w, if_neg c5, if_pos c48, r_dl, if_pos c72, if_neg c80]
          rw [e9]
          exact ⟨rfl, rfl⟩
        · have c80 := b_y c80
          have c80 : (tE Ev).1 ((r_adv R).1.1 + 1) = 3 := c80
          rw [r_eat_p (R := (r_adv (r_role (r_adv R) 2))) c80]
          obtain ⟨hk3, -⟩ := r_role2 (R := r_adv R) (a := 2) hN hk1 c72 c80 (by decide) (by decide)
          refine x_aload_n C dX11_isLine_83 rfl rfl ?_
          refine x_callV0 C dX11_isLine_84 kX11_159 (c_X11_isPartOfDeal (d := 0) hO hd hN hk3 (rH_B hd) rfl) (rH_g0 hd) rfl (by omega) ⟨Nat.zero_le _, Nat.zero_le _⟩ (Nat.le_of_ble_eq_true rfl) ?_
          rintro _ _ ⟨rfl, rfl⟩
          refine x_to (rH_H hd) ?_
          refine x_if_ne (tgt := 92) C dX11_isLine_87 (by decide) (fun c87 => ?_) (fun c87 => ?_)
          · have c87 := b_y c87
            refine x_take 1 ?_
            have g0 := (r_gd_pd (T := tE Ev) hN _ hk3).1
            exact lp 401 _ (by omega) (r_st_ok hk3 g0) (by simp only [q_line, if_neg c5, if_pos c48, r_dl, if_pos c72, if_pos c80, if_pos c87])
          · have c87 := b_n c87
            refine x_iconst (v := 0) C dX11_isLine_90 (by decide) ?_
            refine x_zret C E dX11_isLine_91 rfl ?_
            have e9 : q_line (tE Ev) ft ((od, Ev), R) = (((od, Ev), (r_pd (tE Ev) (r_adv (r_adv (r_role (r_adv R) 2)))).1), false) := by simp only [q_line, q_w, if_neg c5, if_pos c48, r_dl, if_pos c72, if_pos c80, if_neg c87, Bool.false_eq_true, if_false]
            rw [e9]
            exact ⟨rfl, rfl⟩
    · have c48 := b_n c48
      rw [r_eat_n c48]
      refine x_aload_n C dX11_isLine_51 rfl rfl ?_
      refine x_aload_n C dX11_isLine_52 rfl rfl ?_
      refine x_getfield C dX11_isLine_53 fX11_17 (rH_g0 hd) rfl ?_
      refine x_aload_n C dX11_isLine_56 rfl rfl ?_
      refine x_getfield C dX11_isLine_57 fX11_131 (rH_g0 hd) rfl ?_
      refine x_iaload C dX11_isLine_60 (rH_g2 hd) (nI_in h41 (by decide)) ?_
      rw [nI_clamp (show R.1.1 < 2 ^ 31 by omega)]
      refine x_topi ((tE Ev).1 R.1.1) rfl ?_
      refine x_callV1 C dX11_isLine_61 kX11_156 (c_X11_isOrder (d := 45) hO hd hN hk (rH_B hd) hdp0 hod hod4 hft hT rfl (Nat.le_refl _)) (rH_g0 hd) rfl (by omega) ⟨Nat.zero_le _, Nat.zero_le _⟩ (Nat.le_of_ble_eq_true rfl) ?_
      rintro _ _ ⟨rfl, rfl⟩
      refine x_to (rH_H hd) ?_
      refine x_zret C E dX11_isLine_64 (by unfold h_b; split <;> rfl) ?_
      have e9 : q_line (tE Ev) ft ((od, Ev), R) = q_ord (tE Ev) ft ((od, Ev), R) ((tE Ev).1 R.1.1) := by simp only [q_line, if_neg c5, if_neg c48]
      rw [e9]
      exact ⟨rfl, rfl⟩
  · have c5 := b_y c5
    rw [r_eat_p c5]
    have hlt : R.1.1 < N := r_ltn hN ha1 c5 (by decide)
    obtain ⟨hk1, -⟩ := r_ok_adv hN hk c5 (by decide)
    refine x_aload_n C dX11_isLine_8 rfl rfl ?_
    refine x_bipush (v := 40) C dX11_isLine_9 (by decide) ?_
    refine x_iconst (v := 1) C dX11_isLine_11 (by decide) ?_
    refine x_callV2 C dX11_isLine_12 kX11_152 (c_X11_eatAs (R := r_adv R) hO hd hN hlt (rH_B hd)) (rH_g0 hd) rfl (by omega) ⟨Nat.zero_le _, Nat.zero_le _⟩ (Nat.le_of_ble_eq_true rfl) ?_
    rintro _ _ ⟨rfl, rfl⟩
    refine x_to (rH_H hd) ?_
    refine x_if_eq (tgt := 41) C dX11_isLine_15 (by decide) (fun c15 => ?_) (fun c15 => ?_)
    · have c15 := b_n c15
      have c15 : ¬ (tE Ev).1 (r_adv R).1.1 = 40 := c15
      rw [r_eatAs_n (R := r_adv R) c15]
      refine x_iconst (v := 0) C dX11_isLine_41 (by decide) ?_
      refine x_zret C E dX11_isLine_42 rfl ?_
      have e9 : q_line (tE Ev) ft ((od, Ev), R) = (((od, Ev), r_role (r_adv R) 1), false) := by simp only [q_line, q_w, if_pos c5, r_dr, if_neg c15]
      rw [e9]
      exact ⟨rfl, rfl⟩
    · have c15 := b_y c15
      have c15 : (tE Ev).1 (r_adv R).1.1 = 40 := c15
      rw [r_eatAs_p (R := r_adv R) c15]
      have hlt2 : (r_adv R).1.1 < N := r_ltn hN hk1.1 c15 (by decide)
      refine x_aload_n C dX11_isLine_18 rfl rfl ?_
      refine x_iconst (v := 1) C dX11_isLine_19 (by decide) ?_
      refine x_callV1 C dX11_isLine_20 kX11_137 (c_X11_eat (R := (r_adv (r_role (r_adv R) 1))) hO hd hN hlt2 (rH_B hd)) (rH_g0 hd) rfl (by omega) ⟨Nat.zero_le _, Nat.zero_le _⟩ (Nat.le_of_ble_eq_true rfl) ?_
      rintro _ _ ⟨rfl, rfl⟩
      refine x_to (rH_H hd) ?_
      refine x_if_eq (tgt := 41) C dX11_isLine_23 (by decide) (fun c23 => ?_) (fun c23 => ?_)
      · have c23 := b_n c23
        have c23 : ¬ (tE Ev).1 ((r_adv R).1.1 + 1) = 1 := c23
        rw [r_eat_n (R := (r_adv (r_role (r_adv R) 1))) c23]
        refine x_iconst (v := 0) C dX11_isLine_41 (by decide) ?_
        refine x_zret C E dX11_isLine_42 rfl ?_
        have e9 : q_line (tE Ev) ft ((od, Ev), R) = (((od, Ev), (r_adv (r_role (r_adv R) 1))), false) := by simp only [q_line, q_w, if_pos c5, r_dr, if_pos c15, if_neg c23]
        rw [e9]
        exact ⟨rfl, rfl⟩
      · have c23 := b_y c23
        have c23 : (tE Ev).1 ((r_adv R).1.1 + 1) = 1 := c23
        rw [r_eat_p (R := (r_adv (r_role (r_adv R) 1))) c23]
        have hlt3 : (r_adv R).1.1 + 1 < N := r_ltn hN hlt2 c23 (by decide)
        refine x_aload_n C dX11_isLine_26 rfl rfl ?_
        refine x_bipush (v := 41) C dX11_isLine_27 (by decide) ?_
        refine x_bipush (v := 8) C dX11_isLine_29 (by decide) ?_
        refine x_callV2 C dX11_isLine_31 kX11_152 (c_X11_eatAs (R := (r_adv (r_adv (r_role (r_adv R) 1)))) hO hd hN hlt3 (rH_B hd)) (rH_g0 hd) rfl (by omega) ⟨Nat.zero_le _, Nat.zero_le _⟩ (Nat.le_of_ble_eq_true rfl) ?_
        rintro _ _ ⟨rfl, rfl⟩
        refine x_to (rH_H hd) ?_
        refine x_if_eq (tgt := 41) C dX11_isLine_34 (by decide) (fun c34 => ?_) (fun c34 => ?_)
        · have c34 := b_n c34
          have c34 : ¬ (tE Ev).1 ((r_adv R).1.1 + 2) = 41 := c34
          refine x_iconst (v := 0) C dX11_isLine_41 (by decide) ?_
          refine x_zret C E dX11_isLine_42 rfl ?_
          have e9 : q_line (tE Ev) ft ((od, Ev), R) = (((od, Ev), r_eatAs (tE Ev) (r_adv (r_adv (r_role (r_adv R) 1))) 41 8), decide ((tE Ev).1 ((r_adv R).1.1 + 2) = 41)) := by simp only [q_line, q_w, if_pos c5, r_dr, if_pos c15, if_pos c23]
          rw [e9]
          refine ⟨?_, rfl⟩
          rw [h_bd]
          rw [if_neg c34]
        · have c34 := b_y c34
          have c34 : (tE Ev).1 ((r_adv R).1.1 + 2) = 41 := c34
          refine x_iconst (v := 1) C dX11_isLine_37 (by decide) ?_
          refine x_goto (tgt := 42) C dX11_isLine_38 (by decide) ?_
          refine x_zret C E dX11_isLine_42 rfl ?_
          have e9 : q_line (tE Ev) ft ((od, Ev), R) = (((od, Ev), r_eatAs (tE Ev) (r_adv (r_adv (r_role (r_adv R) 1))) 41 8), decide ((tE Ev).1 ((r_adv R).1.1 + 2) = 41)) := by simp only [q_line, q_w, if_pos c5, r_dr, if_pos c15, if_pos c23]
          rw [e9]
          refine ⟨?_, rfl⟩
          rw [h_bd]
          rw [if_pos c34]
set_option maxHeartbeats 4000000 in
set_option maxRecDepth 100000 in
theorem c_X11_isBook {l : Launch} {Y0 : x_Y} (hO : x_Ok Y0) {M : x_M} {o r N : Nat} {Ev : rE} {R : rS} (hd : o + 7 ≤ r) (hN : r_tok (tE Ev) N) (hk : r_ok N R) (hb : rB M o r Ev R) {d : Nat} (hdp0 : R.1.2 = 0) {ft : rF} {od : Nat} (hod : Ev.2 10 3 = nI od) (hod4 : od ≤ R.1.1) (hft : r_gd N ft) (hT : ∀ E9 : rE, tE E9 = tE Ev → (∀ i, i < N → (tE E9).1 i = 41 → r_in E9 i) → rCt l Y0 yX11_isTest cX11_isTest 1 44 o r N E9 0 ft) (hin : ∀ i, i < N → (tE Ev).1 i = 41 → r_in Ev i) {QB : rQ × Bool} (hQB : QB = q_bk (tE Ev) ft 401 ((od, Ev), R)) (hd9 : 47 ≤ d) : x_C l Y0 yX11_isBook cX11_isBook 1 (some .boolean) d 0 0 [.ref o] M (fun u M1 => u = some (.int (h_b QB.2)) ∧ M1 = rH M o r QB.1.1.2 QB.1.2) := by
  refine x_start hO (by decide +kernel) (Nat.le_of_ble_eq_true rfl) (fun K C E => ?_)
  have hN4 : N ≤ 400 := hN.1
  have ha := hk
  obtain ⟨ha1, ha2, ha3, ha4⟩ := ha
  refine x_to (rH_self hb).symm ?_
  have lp : ∀ (w od : Nat) (Ev : rE) (R : rS), N - R.1.1 < w → r_tok (tE Ev) N → r_ok N R → R.1.2 = 0 → Ev.2 10 3 = nI od → od ≤ R.1.1 → (∀ E9 : rE, tE E9 = tE Ev → (∀ i, i < N → (tE E9).1 i = 41 → r_in E9 i) → rCt l Y0 yX11_isTest cX11_isTest 1 44 o r N E9 0 ft) → (∀ i, i < N → (tE Ev).1 i = 41 → r_in Ev i) → QB = q_bk (tE Ev) ft w ((od, Ev), R) → x_X K 1 0 0 0 [(0, .ref o)] [] (rH M o r Ev R) := by
    intro w
    induction w with
    | zero =>
      intro od Ev R hw
      exact absurd hw (Nat.not_lt_zero _)
    | succ w ih =>
      intro od Ev R hw hN hk hdp0 hod hod4 hT hin hq
      have hk1 := hk.1
      refine x_aload_n C dX11_isBook_0 rfl rfl ?_
      refine x_sipush (v := 900) C dX11_isBook_1 (by decide) ?_
      refine x_callV1 C dX11_isBook_4 kX11_134 (c_X11_is (w := 900) hO hd hN hk1 (rH_B hd)) (rH_g0 hd) rfl (by omega) ⟨Nat.zero_le _, Nat.zero_le _⟩ (Nat.le_of_ble_eq_true rfl) ?_
      rintro _ _ ⟨rfl, rfl⟩
      refine x_if_ne (tgt := 28) C dX11_isBook_7 (by decide) (fun c7 => ?_) (fun c7 => ?_)
      · have c7 := b_y c7
        refine x_iconst (v := 1) C dX11_isBook_28 (by decide) ?_
        refine x_zret C E dX11_isBook_29 rfl ?_
        have e9 : QB = (((od, Ev), R), true) := by rw [hq]; simp only [q_bk, if_pos c7]
        rw [e9]
        exact ⟨rfl, rfl⟩
      · have c7 := b_n c7
        refine x_aload_n C dX11_isBook_10 rfl rfl ?_
        refine x_callV0 C dX11_isBook_11 kX11_144 (c_X11_isLine (d := 46) hO hd hN hk (rH_B hd) hdp0 hod (by omega) hft (fun n => hT _ rfl hin) (Nat.le_refl _)) (rH_g0 hd) rfl (by omega) ⟨Nat.zero_le _, Nat.zero_le _⟩ (Nat.le_of_ble_eq_true rfl) ?_
        obtain ⟨g1, g2, g3, g4⟩ := q_line_gd hN hft (q := ((od, Ev), R)) hk hod
        have g2 : (q_line (tE Ev) ft ((od, Ev), R)).1.1.1 ≤ od + 1 := g2
        have g5 : (q_line (tE Ev) ft ((od, Ev), R)).2 = true → R.1.1 < (q_line (tE Ev) ft ((od, Ev), R)).1.2.1.1 := fun z => (g1.2 z).1
        rintro _ _ ⟨rfl, rfl⟩
        refine x_to (rH_H hd) ?_
        refine x_if_eq (tgt := 26) C dX11_isBook_14 (by decide) (fun c14 => ?_) (fun c14 => ?_)
        · have c14 := b_n c14
          refine x_iconst (v := 0) C dX11_isBook_26 (by decide) ?_
          refine x_zret C E dX11_isBook_27 rfl ?_
          have e9 : QB = ((q_line (tE Ev) ft ((od, Ev), R)).1, false) := by rw [hq]; simp only [q_bk, if_neg c7, if_neg c14, Bool.false_eq_true, if_false]
          rw [e9]
          exact ⟨rfl, rfl⟩
        · have c14 := b_y c14
          refine x_aload_n C dX11_isBook_17 rfl rfl ?_
          refine x_bipush (v := 59) C dX11_isBook_18 (by decide) ?_
          refine x_callV1 C dX11_isBook_20 kX11_148 (c_X11_eatSign (Ev := (q_line (tE Ev) ft ((od, Ev), R)).1.1.2) (R := (q_line (tE Ev) ft ((od, Ev), R)).1.2) hO hd (by rw [g3]; exact hN) g1.1.2.1 (rH_B hd) (w := 109) (by decide)) (rH_g0 hd) rfl (by omega) ⟨Nat.zero_le _, Nat.zero_le _⟩ (Nat.le_of_ble_eq_true rfl) ?_
          rintro _ _ ⟨rfl, rfl⟩
          refine x_to (rH_H hd) ?_
          refine x_if_ne (tgt := 0) C dX11_isBook_23 (by decide) (fun c23 => ?_) (fun c23 => ?_)
          · have c23 := b_y c23
            rw [g3] at c23
            rw [r_eat_p (by rw [g3]; exact c23)]
            refine x_take 1 ?_
            obtain ⟨d1, -⟩ := r_ok_adv hN (r_st_ok hk g1.1) c23 (by decide)
            exact ih _ _ _ (by have := g5 c14; have := g1.1.2.1; have e : (r_adv (q_line (tE Ev) ft ((od, Ev), R)).1.2).1.1 = (q_line (tE Ev) ft ((od, Ev), R)).1.2.1.1 + 1 := rfl; omega) (by rw [g3]; exact hN) d1 ((g1.2 c14).2.trans hdp0) g4 (by have := g5 c14; have e : (r_adv (q_line (tE Ev) ft ((od, Ev), R)).1.2).1.1 = (q_line (tE Ev) ft ((od, Ev), R)).1.2.1.1 + 1 := rfl; omega) (by rw [g3]; exact hT) (q_line_in hin) (by rw [hq, g3]; simp only [q_bk, if_neg c7, if_pos c14, if_pos c23])
          · have c23 := b_n c23
            rw [g3] at c23
            rw [r_eat_n (by rw [g3]; exact c23)]
            refine x_iconst (v := 0) C dX11_isBook_26 (by decide) ?_
            refine x_zret C E dX11_isBook_27 rfl ?_
            have e9 : QB = ((q_line (tE Ev) ft ((od, Ev), R)).1, false) := by rw [hq]; simp only [q_bk, if_neg c7, if_pos c14, if_neg c23]
            rw [e9]
            exact ⟨rfl, rfl⟩
  exact lp 401 od Ev R (by omega) hN hk hdp0 hod hod4 hT hin hQB
end XRB
