section XRL
variable {M : x_M} {o r : Nat} {E : rE} {R : rS}
theorem rH_p7 : (rH M o r E R).1 (r + 7) = some (.inl (0, 17, .inl (E.2 6))) := rH_r 7 rfl
theorem rH_p8 : (rH M o r E R).1 (r + 8) = some (.inl (0, 17, .inl (E.2 7))) := rH_r 8 rfl
theorem rH_od {od : Nat} : x_st (rH M o r E R) r (.inr (9, ([.int (E.2 10 0), .int (E.2 10 1), .ref (r + 1), .ref (r + 2), .ref (r + 3), .ref (r + 4), .int (E.2 10 2), .int (E.2 10 3), .ref (r + 5), .ref (r + 6), .ref (r + 7), .ref (r + 8), .ref (r + 9), .int (nI R.2.1.length), .ref (r + 10), .int (nI R.2.2.1.length)] : List Value).set 7 (.int (nI (od + 1))))) = rH M o r (o_E1 E od) R := rH_sr 0 (o_E1 E od) R rfl rfl (by decide)
theorem rH_t6 {od n : Nat} : x_st (rH M o r (o_E1 E od) R) (r + 7) (.inl (0, 17, .inl (upd ((o_E1 E od).2 6) (o_p od) (nI n)))) = rH M o r (o_E2 E od n) R := rH_sr 7 (o_E2 E od n) R rfl rfl (by decide)
theorem rH_t7 {od n m : Nat} : x_st (rH M o r (o_E2 E od n) R) (r + 8) (.inl (0, 17, .inl (upd ((o_E2 E od n).2 7) (o_p od) (nI m)))) = rH M o r (o_E3 E od n m) R := rH_sr 8 (o_E3 E od n m) R rfl rfl (by decide)
end XRL
set_option maxHeartbeats 4000000 in
set_option maxRecDepth 100000 in
theorem c_X11_isPartOfDeal {l : Launch} {Y0 : x_Y} (hO : x_Ok Y0) {M : x_M} {o r N : Nat} {Ev : rE} {R : rS} (hd : o + 7 ≤ r) (hN : r_tok (tE Ev) N) (hk : r_ok N R) (hb : rB M o r Ev R) {dp d : Nat} (hdp0 : R.1.2 = dp) : x_C l Y0 yX11_isPartOfDeal cX11_isPartOfDeal 1 (some .boolean) 6 0 0 [.ref o] M (fun u M1 => u = some (.int (h_b (r_pd (tE Ev) R).2)) ∧ M1 = rH M o r Ev (r_pd (tE Ev) R).1) := by
  refine x_start hO (by decide +kernel) (Nat.le_of_ble_eq_true rfl) (fun K C E => ?_)
  have hN4 : N ≤ 400 := hN.1
  have ha := hk
  obtain ⟨ha1, ha2, ha3, ha4⟩ := ha
  refine x_to (rH_self hb).symm ?_
  refine x_aload_n C dX11_isPartOfDeal_0 rfl rfl ?_
  refine x_bipush (v := 40) C dX11_isPartOfDeal_1 (by decide) ?_
  refine x_iconst (v := 4) C dX11_isPartOfDeal_3 (by decide) ?_
  refine x_callV2 C dX11_isPartOfDeal_4 kX11_152 (c_X11_eatAs (R := R) hO hd hN hk.1 (rH_B hd)) (rH_g0 hd) rfl (by decide) ⟨Nat.zero_le _, Nat.zero_le _⟩ (Nat.le_of_ble_eq_true rfl) ?_
  rintro _ _ ⟨rfl, rfl⟩
  refine x_to (rH_H hd) ?_
  refine x_if_eq (tgt := 41) C dX11_isPartOfDeal_7 (by decide) (fun c7 => ?_) (fun c7 => ?_)
  · have c7 := b_n c7
    rw [r_eatAs_n c7]
    refine x_iconst (v := 0) C dX11_isPartOfDeal_41 (by decide) ?_
    refine x_zret C E dX11_isPartOfDeal_42 rfl ?_
    refine ⟨?_, ?_⟩
    · first | (simp only [r_pd, if_neg c7, h_bd, h_bT, h_bF, if_true, if_false, Bool.false_eq_true]; done) | (simp only [r_pd, if_neg c7, h_bd, h_bT, h_bF, if_true, if_false, Bool.false_eq_true]; rfl)
    · refine congrArg (rH M o r Ev) ?_
      simp only [r_pd, if_neg c7, h_bd, h_bT, h_bF, if_true, if_false, Bool.false_eq_true]
  · have c7 := b_y c7
    rw [r_eatAs_p c7]
    have hlt : R.1.1 < N := r_ltn hN ha1 c7 (by decide)
    refine x_aload_n C dX11_isPartOfDeal_10 rfl rfl ?_
    refine x_iconst (v := 4) C dX11_isPartOfDeal_11 (by decide) ?_
    refine x_callV1 C dX11_isPartOfDeal_12 kX11_137 (c_X11_eat (R := r_adv (r_role R 4)) hO hd hN hlt (rH_B hd)) (rH_g0 hd) rfl (by decide) ⟨Nat.zero_le _, Nat.zero_le _⟩ (Nat.le_of_ble_eq_true rfl) ?_
    rintro _ _ ⟨rfl, rfl⟩
    refine x_to (rH_H hd) ?_
    refine x_if_ne (tgt := 26) C dX11_isPartOfDeal_15 (by decide) (fun c15 => ?_) (fun c15 => ?_)
    · have c15 := b_y c15
      have c15 : (tE Ev).1 (R.1.1 + 1) = 4 := c15
      rw [r_eat_p (R := r_adv (r_role R 4)) c15]
      have hlt2 : R.1.1 + 1 < N := r_ltn hN hlt c15 (by decide)
      refine x_aload_n C dX11_isPartOfDeal_26 rfl rfl ?_
      refine x_bipush (v := 41) C dX11_isPartOfDeal_27 (by decide) ?_
      refine x_bipush (v := 9) C dX11_isPartOfDeal_29 (by decide) ?_
      refine x_callV2 C dX11_isPartOfDeal_31 kX11_152 (c_X11_eatAs (R := (r_adv (r_adv (r_role R 4)))) hO hd hN hlt2 (rH_B hd)) (rH_g0 hd) rfl (by decide) ⟨Nat.zero_le _, Nat.zero_le _⟩ (Nat.le_of_ble_eq_true rfl) ?_
      rintro _ _ ⟨rfl, rfl⟩
      refine x_to (rH_H hd) ?_
      refine x_if_eq (tgt := 41) C dX11_isPartOfDeal_34 (by decide) (fun c34 => ?_) (fun c34 => ?_)
      · have c34 := b_n c34
        have c34 : ¬ (tE Ev).1 (R.1.1 + 2) = 41 := c34
        refine x_iconst (v := 0) C dX11_isPartOfDeal_41 (by decide) ?_
        refine x_zret C E dX11_isPartOfDeal_42 rfl ?_
        refine ⟨?_, ?_⟩
        · first | (simp only [r_pd, if_pos c7, if_pos c15, if_neg c34, h_bd, h_bT, h_bF, if_true, if_false, Bool.false_eq_true]; done) | (simp only [r_pd, if_pos c7, if_pos c15, if_neg c34, h_bd, h_bT, h_bF, if_true, if_false, Bool.false_eq_true]; rfl)
        · refine congrArg (rH M o r Ev) ?_
          simp only [r_pd, if_pos c7, if_pos c15, if_neg c34, h_bd, h_bT, h_bF, if_true, if_false, Bool.false_eq_true]
      · have c34 := b_y c34
        have c34 : (tE Ev).1 (R.1.1 + 2) = 41 := c34
        refine x_iconst (v := 1) C dX11_isPartOfDeal_37 (by decide) ?_
        refine x_goto (tgt := 42) C dX11_isPartOfDeal_38 (by decide) ?_
        refine x_zret C E dX11_isPartOfDeal_42 rfl ?_
        refine ⟨?_, ?_⟩
        · first | (simp only [r_pd, if_pos c7, if_pos c15, if_pos c34, h_bd, h_bT, h_bF, if_true, if_false, Bool.false_eq_true]; done) | (simp only [r_pd, if_pos c7, if_pos c15, if_pos c34, h_bd, h_bT, h_bF, if_true, if_false, Bool.false_eq_true]; rfl)
        · refine congrArg (rH M o r Ev) ?_
          simp only [r_pd, if_pos c7, if_pos c15, if_pos c34, h_bd, h_bT, h_bF, if_true, if_false, Bool.false_eq_true]
    · have c15 := b_n c15
      have c15 : ¬ (tE Ev).1 (R.1.1 + 1) = 4 := c15
      rw [r_eat_n (R := r_adv (r_role R 4)) c15]
      refine x_aload_n C dX11_isPartOfDeal_18 rfl rfl ?_
      refine x_iconst (v := 5) C dX11_isPartOfDeal_19 (by decide) ?_
      refine x_callV1 C dX11_isPartOfDeal_20 kX11_137 (c_X11_eat (R := r_adv (r_role R 4)) hO hd hN hlt (rH_B hd)) (rH_g0 hd) rfl (by decide) ⟨Nat.zero_le _, Nat.zero_le _⟩ (Nat.le_of_ble_eq_true rfl) ?_
      rintro _ _ ⟨rfl, rfl⟩
      refine x_to (rH_H hd) ?_
      refine x_if_eq (tgt := 41) C dX11_isPartOfDeal_23 (by decide) (fun c23 => ?_) (fun c23 => ?_)
      · have c23 := b_n c23
        have c23 : ¬ (tE Ev).1 (R.1.1 + 1) = 5 := c23
        rw [r_eat_n (R := r_adv (r_role R 4)) c23]
        refine x_iconst (v := 0) C dX11_isPartOfDeal_41 (by decide) ?_
        refine x_zret C E dX11_isPartOfDeal_42 rfl ?_
        refine ⟨?_, ?_⟩
        · first | (simp only [r_pd, if_pos c7, if_neg c15, if_neg c23, h_bd, h_bT, h_bF, if_true, if_false, Bool.false_eq_true]; done) | (simp only [r_pd, if_pos c7, if_neg c15, if_neg c23, h_bd, h_bT, h_bF, if_true, if_false, Bool.false_eq_true]; rfl)
        · refine congrArg (rH M o r Ev) ?_
          simp only [r_pd, if_pos c7, if_neg c15, if_neg c23, h_bd, h_bT, h_bF, if_true, if_false, Bool.false_eq_true]
      · have c23 := b_y c23
        have c23 : (tE Ev).1 (R.1.1 + 1) = 5 := c23
        rw [r_eat_p (R := r_adv (r_role R 4)) c23]
        have hlt2 : R.1.1 + 1 < N := r_ltn hN hlt c23 (by decide)
        refine x_aload_n C dX11_isPartOfDeal_26 rfl rfl ?_
        refine x_bipush (v := 41) C dX11_isPartOfDeal_27 (by decide) ?_
        refine x_bipush (v := 9) C dX11_isPartOfDeal_29 (by decide) ?_
        refine x_callV2 C dX11_isPartOfDeal_31 kX11_152 (c_X11_eatAs (R := (r_adv (r_adv (r_role R 4)))) hO hd hN hlt2 (rH_B hd)) (rH_g0 hd) rfl (by decide) ⟨Nat.zero_le _, Nat.zero_le _⟩ (Nat.le_of_ble_eq_true rfl) ?_
        rintro _ _ ⟨rfl, rfl⟩
        refine x_to (rH_H hd) ?_
        refine x_if_eq (tgt := 41) C dX11_isPartOfDeal_34 (by decide) (fun c34 => ?_) (fun c34 => ?_)
        · have c34 := b_n c34
          have c34 : ¬ (tE Ev).1 (R.1.1 + 2) = 41 := c34
          refine x_iconst (v := 0) C dX11_isPartOfDeal_41 (by decide) ?_
          refine x_zret C E dX11_isPartOfDeal_42 rfl ?_
          refine ⟨?_, ?_⟩
          · first | (simp only [r_pd, if_pos c7, if_neg c15, if_pos c23, if_neg c34, h_bd, h_bT, h_bF, if_true, if_false, Bool.false_eq_true]; done) | (simp only [r_pd, if_pos c7, if_neg c15, if_pos c23, if_neg c34, h_bd, h_bT, h_bF, if_true, if_false, Bool.false_eq_true]; rfl)
          · refine congrArg (rH M o r Ev) ?_
            simp only [r_pd, if_pos c7, if_neg c15, if_pos c23, if_neg c34, h_bd, h_bT, h_bF, if_true, if_false, Bool.false_eq_true]
        · have c34 := b_y c34
          have c34 : (tE Ev).1 (R.1.1 + 2) = 41 := c34
          refine x_iconst (v := 1) C dX11_isPartOfDeal_37 (by decide) ?_
          refine x_goto (tgt := 42) C dX11_isPartOfDeal_38 (by decide) ?_
          refine x_zret C E dX11_isPartOfDeal_42 rfl ?_
          refine ⟨?_, ?_⟩
          · first | (simp only [r_pd, if_pos c7, if_neg c15, if_pos c23, if_pos c34, h_bd, h_bT, h_bF, if_true, if_false, Bool.false_eq_true]; done) | (simp only [r_pd, if_pos c7, if_neg c15, if_pos c23, if_pos c34, h_bd, h_bT, h_bF, if_true, if_false, Bool.false_eq_true]; rfl)
          · refine congrArg (rH M o r Ev) ?_
            simp only [r_pd, if_pos c7, if_neg c15, if_pos c23, if_pos c34, h_bd, h_bT, h_bF, if_true, if_false, Bool.false_eq_true]
set_option maxHeartbeats 4000000 in
set_option maxRecDepth 100000 in
theorem c_X11_isOrder {l : Launch} {Y0 : x_Y} (hO : x_Ok Y0) {M : x_M} {o r N : Nat} {Ev : rE} {R : rS} (hd : o + 7 ≤ r) (hN : r_tok (tE Ev) N) (hk : r_ok N R) (hb : rB M o r Ev R) {d : Nat} (hdp0 : R.1.2 = 0) {ft : rF} {od : Nat} (hod : Ev.2 10 3 = nI od) (hod4 : od ≤ 400) (hft : r_gd N ft) (hT : ∀ n, rCt l Y0 yX11_isTest cX11_isTest 1 44 o r N (o_E2 Ev od n) 0 ft) {k : Int32} (hkk : (tE Ev).1 R.1.1 = k) (hd9 : 45 ≤ d) : x_C l Y0 yX11_isOrder cX11_isOrder 3 (some .boolean) d 0 0 [.ref o, .int k] M (fun u M1 => u = some (.int (h_b (q_ord (tE Ev) ft ((od, Ev), R) k).2)) ∧ M1 = rH M o r (q_ord (tE Ev) ft ((od, Ev), R) k).1.1.2 (q_ord (tE Ev) ft ((od, Ev), R) k).1.2) := by
  refine x_start hO (by decide +kernel) (Nat.le_of_ble_eq_true rfl) (fun K C E => ?_)
  have hN4 : N ≤ 400 := hN.1
  have ha := hk
  obtain ⟨ha1, ha2, ha3, ha4⟩ := ha
  refine x_to (rH_self hb).symm ?_
  have h41 : R.1.1 < 401 := by omega
  have j94 : ∀ (R2 : rS), (r_tg (tE Ev) (r_adv (r_role R 3)) k).1 = R2 → (r_tg (tE Ev) (r_adv (r_role R 3)) k).2 = true → r_isv k = true → r_ok N R2 → R2.1.2 = 0 → x_X K 3 0 0 94 [(0, .ref o), (1, .int k), (2, .int (nI (o_p od)))] [] (rH M o r (o_E1 Ev od) R2) := by
      intro R2 hR2 h94 hv hk2 hp2
      have ha := hk2
      obtain ⟨hb1, hb2, hb3, hb4⟩ := ha
      refine x_aload_n C dX11_isOrder_94 rfl rfl ?_
      refine x_getfield C dX11_isOrder_95 fX11_39 (rH_g0 hd) rfl ?_
      refine x_getfield C dX11_isOrder_98 fX11_165 rH_p0 rfl ?_
      refine x_iload_n C dX11_isOrder_101 rfl rfl ?_
      refine x_aload_n C dX11_isOrder_102 rfl rfl ?_
      refine x_getfield C dX11_isOrder_103 fX11_39 (rH_g0 hd) rfl ?_
      refine x_getfield C dX11_isOrder_106 fX11_143 rH_p0 rfl ?_
      refine x_iastore C dX11_isOrder_109 rH_p7 (nI_in (o_p17 od) (by decide)) ?_
      rw [nI_clamp (show o_p od < 2 ^ 31 by have := o_p17 od; omega)]
      refine x_to rH_t6 ?_
      refine x_aload_n C dX11_isOrder_110 rfl rfl ?_
      refine x_bipush (v := 10) C dX11_isOrder_111 (by decide) ?_
      refine x_callV1 C dX11_isOrder_113 kX11_137 (c_X11_eat (R := R2) hO hd (show r_tok (tE (o_E2 Ev od R2.2.1.length)) N from hN) hb1 (rH_B hd)) (rH_g0 hd) rfl (by omega) ⟨Nat.zero_le _, Nat.zero_le _⟩ (Nat.le_of_ble_eq_true rfl) ?_
      rintro _ _ ⟨rfl, rfl⟩
      refine x_to (rH_H hd) ?_
      refine x_if_eq (tgt := 128) C dX11_isOrder_116 (by decide) (fun c116 => ?_) (fun c116 => ?_)
      · have c116 := b_n c116
        have c116 : ¬ (tE Ev).1 R2.1.1 = 10 := c116
        rw [r_eat_n (T := tE (o_E2 Ev od R2.2.1.length)) c116]
        refine x_aload_n C dX11_isOrder_128 rfl rfl ?_
        refine x_getfield C dX11_isOrder_129 fX11_39 (rH_g0 hd) rfl ?_
        refine x_getfield C dX11_isOrder_132 fX11_171 rH_p0 rfl ?_
        refine x_iload_n C dX11_isOrder_135 rfl rfl ?_
        refine x_aload_n C dX11_isOrder_136 rfl rfl ?_
        refine x_getfield C dX11_isOrder_137 fX11_39 (rH_g0 hd) rfl ?_
        refine x_getfield C dX11_isOrder_140 fX11_143 rH_p0 rfl ?_
        refine x_iastore C dX11_isOrder_143 rH_p8 (nI_in (o_p17 od) (by decide)) ?_
        rw [nI_clamp (show o_p od < 2 ^ 31 by have := o_p17 od; omega)]
        refine x_to rH_t7 ?_
        refine x_iconst (v := 1) C dX11_isOrder_144 (by decide) ?_
        refine x_zret C E dX11_isOrder_145 rfl ?_
        have e9 : q_ord (tE Ev) ft ((od, Ev), R) k = (((od + 1, o_E3 Ev od R2.2.1.length R2.2.1.length), R2), true) := by simp only [q_ord, if_pos hv, if_pos h94, hR2, r_wh, if_neg c116, if_true]
        rw [e9]
        exact ⟨rfl, rfl⟩
      · have c116 := b_y c116
        have c116 : (tE Ev).1 R2.1.1 = 10 := c116
        rw [r_eat_p (T := tE (o_E2 Ev od R2.2.1.length)) c116]
        obtain ⟨hk3, -⟩ := r_ok_adv hN hk2 c116 (by decide)
        refine x_aload_n C dX11_isOrder_119 rfl rfl ?_
        refine x_callV0 C dX11_isOrder_120 kX11_168 (hT _ _ _ hk3 hp2 (rH_B hd)) (rH_g0 hd) rfl (by omega) ⟨Nat.zero_le _, Nat.zero_le _⟩ (Nat.le_of_ble_eq_true rfl) ?_
        rintro _ _ ⟨rfl, rfl⟩
        refine x_to (rH_H hd) ?_
        refine x_if_ne (tgt := 128) C dX11_isOrder_123 (by decide) (fun c123 => ?_) (fun c123 => ?_)
        · have c123 := b_y c123
          refine x_aload_n C dX11_isOrder_128 rfl rfl ?_
          refine x_getfield C dX11_isOrder_129 fX11_39 (rH_g0 hd) rfl ?_
          refine x_getfield C dX11_isOrder_132 fX11_171 rH_p0 rfl ?_
          refine x_iload_n C dX11_isOrder_135 rfl rfl ?_
          refine x_aload_n C dX11_isOrder_136 rfl rfl ?_
          refine x_getfield C dX11_isOrder_137 fX11_39 (rH_g0 hd) rfl ?_
          refine x_getfield C dX11_isOrder_140 fX11_143 rH_p0 rfl ?_
          refine x_iastore C dX11_isOrder_143 rH_p8 (nI_in (o_p17 od) (by decide)) ?_
          rw [nI_clamp (show o_p od < 2 ^ 31 by have := o_p17 od; omega)]
          refine x_to rH_t7 ?_
          refine x_iconst (v := 1) C dX11_isOrder_144 (by decide) ?_
          refine x_zret C E dX11_isOrder_145 rfl ?_
          have e9 : q_ord (tE Ev) ft ((od, Ev), R) k = (((od + 1, o_E3 Ev od R2.2.1.length (ft (r_adv R2)).1.2.1.length), (ft (r_adv R2)).1), true) := by simp only [q_ord, if_pos hv, if_pos h94, hR2, r_wh, if_pos c116, if_pos c123]
          rw [e9]
          exact ⟨rfl, rfl⟩
        · have c123 := b_n c123
          refine x_iconst (v := 0) C dX11_isOrder_126 (by decide) ?_
          refine x_zret C E dX11_isOrder_127 rfl ?_
          have e9 : q_ord (tE Ev) ft ((od, Ev), R) k = (((od + 1, o_E2 Ev od R2.2.1.length), (ft (r_adv R2)).1), false) := by simp only [q_ord, if_pos hv, if_pos h94, hR2, r_wh, if_pos c116, if_neg c123]
          rw [e9]
          exact ⟨rfl, rfl⟩
  have j20 : r_isv k = true → R.1.1 < N → x_X K 3 0 0 20 [(0, .ref o), (1, .int k)] [] (rH M o r Ev R) := by
      intro hv hlt
      obtain ⟨hk1, -⟩ := r_ok_adv (R := r_role R 3) hN hk rfl (show (tE Ev).1 R.1.1 < 900 by rw [hkk]; exact r_isv_lt hv)
      have g1 := r_gd_tg (T := tE Ev) (R := (r_adv (r_role R 3))) (k := k) hN hk1
      refine x_aload_n C dX11_isOrder_20 rfl rfl ?_
      refine x_getfield C dX11_isOrder_21 fX11_26 (rH_g0 hd) rfl ?_
      refine x_aload_n C dX11_isOrder_24 rfl rfl ?_
      refine x_getfield C dX11_isOrder_25 fX11_131 (rH_g0 hd) rfl ?_
      refine x_iconst (v := 3) C dX11_isOrder_28 (by decide) ?_
      refine x_iastore C dX11_isOrder_29 (rH_g5 hd) (nI_in h41 (by decide)) ?_
      rw [nI_clamp (show R.1.1 < 2 ^ 31 by omega)]
      refine x_to (rH_role hd) ?_
      refine x_aload_n C dX11_isOrder_30 rfl rfl ?_
      refine x_dup C dX11_isOrder_31 rfl ?_
      refine x_getfield C dX11_isOrder_32 fX11_131 (rH_g0 hd) rfl ?_
      refine x_iconst (v := 1) C dX11_isOrder_35 (by decide) ?_
      refine x_iadd C dX11_isOrder_36 ?_
      rw [nI_1]
      refine x_putfield C dX11_isOrder_37 fX11_131 (rH_g0 hd) rfl rfl (Nat.le_of_ble_eq_true rfl) ?_
      refine x_to (rH_adv hd) ?_
      refine x_to (show _ = rH M o r Ev ((r_adv (r_role R 3))) from rfl) ?_
      refine x_aload_n C dX11_isOrder_40 rfl rfl ?_
      refine x_getfield C dX11_isOrder_41 fX11_39 (rH_g0 hd) rfl ?_
      refine x_getfield C dX11_isOrder_44 fX11_162 rH_p0 rfl ?_
      refine x_topi (nI od) hod ?_
      refine x_bipush (v := 16) C dX11_isOrder_47 (by decide) ?_
      refine x_mmin C dX11_isOrder_49 mX11_84 (by omega) ⟨Nat.zero_le _, Nat.zero_le _⟩ (Nat.le_of_ble_eq_true rfl) ?_
      refine x_topi (nI (o_p od)) (o_pI (by omega)) ?_
      refine x_istore_n C dX11_isOrder_52 rfl rfl (by decide) ?_
      refine x_aload_n C dX11_isOrder_53 rfl rfl ?_
      refine x_getfield C dX11_isOrder_54 fX11_39 (rH_g0 hd) rfl ?_
      refine x_dup C dX11_isOrder_57 rfl ?_
      refine x_getfield C dX11_isOrder_58 fX11_162 rH_p0 rfl ?_
      refine x_topi (nI od) hod ?_
      refine x_iconst (v := 1) C dX11_isOrder_61 (by decide) ?_
      refine x_iadd C dX11_isOrder_62 ?_
      rw [nI_1]
      refine x_putfield C dX11_isOrder_63 fX11_162 rH_p0 rfl rfl (Nat.le_of_ble_eq_true rfl) ?_
      refine x_to rH_od ?_
      refine x_iload_n C dX11_isOrder_66 rfl rfl ?_
      refine x_bipush (v := 6) C dX11_isOrder_67 (by decide) ?_
      refine x_icmp_eq (tgt := 81) C dX11_isOrder_69 (by decide) (fun c69 => ?_) (fun c69 => ?_)
      · refine x_aload_n C dX11_isOrder_81 rfl rfl ?_
        refine x_bipush (v := 40) C dX11_isOrder_82 (by decide) ?_
        refine x_bipush (v := 7) C dX11_isOrder_84 (by decide) ?_
        refine x_callV2 C dX11_isOrder_86 kX11_152 (c_X11_eatAs (R := (r_adv (r_role R 3))) hO hd (show r_tok (tE (o_E1 Ev od)) N from hN) hk1.1 (rH_B hd)) (rH_g0 hd) rfl (by omega) ⟨Nat.zero_le _, Nat.zero_le _⟩ (Nat.le_of_ble_eq_true rfl) ?_
        rintro _ _ ⟨rfl, rfl⟩
        refine x_to (rH_H hd) ?_
        refine x_if_ne (tgt := 94) C dX11_isOrder_89 (by decide) (fun c89 => ?_) (fun c89 => ?_)
        · have c89 := b_y c89
          have c89 : (tE Ev).1 (r_adv (r_role R 3)).1.1 = 40 := c89
          rw [r_eatAs_p (T := tE (o_E1 Ev od)) c89]
          have e94 : (r_tg (tE Ev) (r_adv (r_role R 3)) k) = (r_adv (r_role (r_adv (r_role R 3)) 7), true) := by simp only [r_tg, if_pos c69, r_eatAs_p c89, decide_eq_true c89]
          rw [e94] at g1
          exact j94 _ (by rw [e94]) (by rw [e94]) hv (r_st_ok hk1 g1.1) ((g1.2 rfl).2.trans hdp0)
        · have c89 := b_n c89
          have c89 : ¬ (tE Ev).1 (r_adv (r_role R 3)).1.1 = 40 := c89
          rw [r_eatAs_n (T := tE (o_E1 Ev od)) c89]
          refine x_iconst (v := 0) C dX11_isOrder_92 (by decide) ?_
          refine x_zret C E dX11_isOrder_93 rfl ?_
          have e93 : (r_tg (tE Ev) (r_adv (r_role R 3)) k) = (r_role (r_adv (r_role R 3)) 7, false) := by simp only [r_tg, if_pos c69, r_eatAs_n c89, decide_eq_false c89]
          have e9 : q_ord (tE Ev) ft ((od, Ev), R) k = (((od + 1, (o_E1 Ev od)), r_role (r_adv (r_role R 3)) 7), false) := by simp only [q_ord, if_pos hv, e93, Bool.false_eq_true, if_false]
          rw [e9]
          exact ⟨rfl, rfl⟩
      · refine x_aload_n C dX11_isOrder_72 rfl rfl ?_
        refine x_bipush (v := 9) C dX11_isOrder_73 (by decide) ?_
        refine x_callV1 C dX11_isOrder_75 kX11_137 (c_X11_eat (R := (r_adv (r_role R 3))) hO hd (show r_tok (tE (o_E1 Ev od)) N from hN) hk1.1 (rH_B hd)) (rH_g0 hd) rfl (by omega) ⟨Nat.zero_le _, Nat.zero_le _⟩ (Nat.le_of_ble_eq_true rfl) ?_
        rintro _ _ ⟨rfl, rfl⟩
        refine x_to (rH_H hd) ?_
        refine x_if_ne (tgt := 94) C dX11_isOrder_78 (by decide) (fun c78 => ?_) (fun c78 => ?_)
        · have c78 := b_y c78
          have c78 : (tE Ev).1 (r_adv (r_role R 3)).1.1 = 9 := c78
          rw [r_eat_p (T := tE (o_E1 Ev od)) c78]
          have e94 : (r_tg (tE Ev) (r_adv (r_role R 3)) k) = (r_adv (r_adv (r_role R 3)), true) := by simp only [r_tg, if_neg c69, if_pos c78]
          rw [e94] at g1
          exact j94 _ (by rw [e94]) (by rw [e94]) hv (r_st_ok hk1 g1.1) ((g1.2 rfl).2.trans hdp0)
        · have c78 := b_n c78
          have c78 : ¬ (tE Ev).1 (r_adv (r_role R 3)).1.1 = 9 := c78
          rw [r_eat_n (T := tE (o_E1 Ev od)) c78]
          refine x_aload_n C dX11_isOrder_81 rfl rfl ?_
          refine x_bipush (v := 40) C dX11_isOrder_82 (by decide) ?_
          refine x_bipush (v := 7) C dX11_isOrder_84 (by decide) ?_
          refine x_callV2 C dX11_isOrder_86 kX11_152 (c_X11_eatAs (R := (r_adv (r_role R 3))) hO hd (show r_tok (tE (o_E1 Ev od)) N from hN) hk1.1 (rH_B hd)) (rH_g0 hd) rfl (by omega) ⟨Nat.zero_le _, Nat.zero_le _⟩ (Nat.le_of_ble_eq_true rfl) ?_
          rintro _ _ ⟨rfl, rfl⟩
          refine x_to (rH_H hd) ?_
          refine x_if_ne (tgt := 94) C dX11_isOrder_89 (by decide) (fun c89 => ?_) (fun c89 => ?_)
          · have c89 := b_y c89
            have c89 : (tE Ev).1 (r_adv (r_role R 3)).1.1 = 40 := c89
            rw [r_eatAs_p (T := tE (o_E1 Ev od)) c89]
            have e94 : (r_tg (tE Ev) (r_adv (r_role R 3)) k) = (r_adv (r_role (r_adv (r_role R 3)) 7), true) := by simp only [r_tg, if_neg c69, if_neg c78, r_eatAs_p c89, decide_eq_true c89]
            rw [e94] at g1
            exact j94 _ (by rw [e94]) (by rw [e94]) hv (r_st_ok hk1 g1.1) ((g1.2 rfl).2.trans hdp0)
          · have c89 := b_n c89
            have c89 : ¬ (tE Ev).1 (r_adv (r_role R 3)).1.1 = 40 := c89
            rw [r_eatAs_n (T := tE (o_E1 Ev od)) c89]
            refine x_iconst (v := 0) C dX11_isOrder_92 (by decide) ?_
            refine x_zret C E dX11_isOrder_93 rfl ?_
            have e93 : (r_tg (tE Ev) (r_adv (r_role R 3)) k) = (r_role (r_adv (r_role R 3)) 7, false) := by simp only [r_tg, if_neg c69, if_neg c78, r_eatAs_n c89, decide_eq_false c89]
            have e9 : q_ord (tE Ev) ft ((od, Ev), R) k = (((od + 1, (o_E1 Ev od)), r_role (r_adv (r_role R 3)) 7), false) := by simp only [q_ord, if_pos hv, e93, Bool.false_eq_true, if_false]
            rw [e9]
            exact ⟨rfl, rfl⟩
  refine x_iload_n C dX11_isOrder_0 rfl rfl ?_
  refine x_bipush (v := 6) C dX11_isOrder_1 (by decide) ?_
  refine x_icmp_eq (tgt := 20) C dX11_isOrder_3 (by decide) (fun c3 => ?_) (fun c3 => ?_)
  · exact j20 (by rw [c3]; rfl) (r_ltn hN ha1 hkk (by rw [c3]; decide))
  · refine x_iload_n C dX11_isOrder_6 rfl rfl ?_
    refine x_bipush (v := 7) C dX11_isOrder_7 (by decide) ?_
    refine x_icmp_eq (tgt := 20) C dX11_isOrder_9 (by decide) (fun c9 => ?_) (fun c9 => ?_)
    · exact j20 (by rw [c9]; rfl) (r_ltn hN ha1 hkk (by rw [c9]; decide))
    · refine x_iload_n C dX11_isOrder_12 rfl rfl ?_
      refine x_bipush (v := 8) C dX11_isOrder_13 (by decide) ?_
      refine x_icmp_eq (tgt := 20) C dX11_isOrder_15 (by decide) (fun c15 => ?_) (fun c15 => ?_)
      · exact j20 (by rw [c15]; rfl) (r_ltn hN ha1 hkk (by rw [c15]; decide))
      · refine x_iconst (v := 0) C dX11_isOrder_18 (by decide) ?_
        refine x_zret C E dX11_isOrder_19 rfl ?_
        have hv : ¬ r_isv k = true := by
          intro q
          unfold r_isv at q
          rw [Bool.or_eq_true, Bool.or_eq_true] at q
          rcases q with q | q | q
          · exact c3 (eq_of_beq q)
          · exact c9 (eq_of_beq q)
          · exact c15 (eq_of_beq q)
        have e9 : q_ord (tE Ev) ft ((od, Ev), R) k = (((od, Ev), R), false) := by simp only [q_ord, if_neg hv]
        rw [e9]
        exact ⟨rfl, rfl⟩
