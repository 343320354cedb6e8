set_option maxHeartbeats 4000000 in
set_option maxRecDepth 100000 in
theorem c_X11_isProduct {l : Launch} {Y0 : x_Y} (hO : x_Ok Y0) {M : x_M} {o r N : Nat} {Ev : rE} {R : rS} (hd : o + 7 ≤ r) (hN : r_tok (tE Ev) N) (hk : r_ok N R) (hb : rB M o r Ev R) {dp d : Nat} (hdp0 : R.1.2 = dp) {dF : Nat} {f : rF} (hd1 : dF + 1 ≤ d) (hd4 : 3 ≤ d) (hf : r_gd N f) (hF : rCt l Y0 yX11_isValue cX11_isValue 2 dF o r N Ev dp f) : x_C l Y0 yX11_isProduct cX11_isProduct 2 (some .boolean) d 0 0 [.ref o] M (fun u M1 => u = some (.int (h_b ((if (f R).2 = true then r_lpb (tE Ev) 92 97 36 37 42 47 f 401 (f R).1 else ((f R).1, false))).2)) ∧ M1 = rH M o r Ev ((if (f R).2 = true then r_lpb (tE Ev) 92 97 36 37 42 47 f 401 (f R).1 else ((f R).1, false))).1) := by
  refine x_start hO (by decide +kernel) (Nat.le_of_ble_eq_true rfl) (fun K C E => ?_)
  have hN4 : N ≤ 400 := hN.1
  have ha := hk
  obtain ⟨ha1, ha2, ha3, ha4⟩ := ha
  refine x_to (rH_self hb).symm ?_
  have lp : ∀ (w : Nat) (R1 : rS), N - R1.1.1 < w → r_ok N R1 → R1.1.2 = dp → (if (f R).2 = true then r_lpb (tE Ev) 92 97 36 37 42 47 f 401 (f R).1 else ((f R).1, false)) = r_lpb (tE Ev) 92 97 36 37 42 47 f w R1 → x_X K 2 0 0 9 [(0, .ref o)] [] (rH M o r Ev R1) := by
    intro w
    induction w with
    | zero =>
      intro R1 hw
      exact absurd hw (Nat.not_lt_zero _)
    | succ w ih =>
      intro R1 hw hk1 hp1 hq
      refine x_aload_n C dX11_isProduct_9 rfl rfl ?_
      refine x_bipush (v := 42) C dX11_isProduct_10 (by decide) ?_
      refine x_callV1 C dX11_isProduct_12 kX11_199 (c_X11_isSign hO hd hN hk1.1 (rH_B hd) (w := 92) (by decide)) (rH_g0 hd) rfl (by omega) ⟨Nat.zero_le _, Nat.zero_le _⟩ (Nat.le_of_ble_eq_true rfl) ?_
      rintro _ _ ⟨rfl, rfl⟩
      refine x_if_ne (tgt := 27) C dX11_isProduct_15 (by decide) (fun c15 => ?_) (fun c15 => ?_)
      · have c15 := b_y c15
        obtain ⟨d1, -⟩ := r_ok_adv hN hk1 c15 (by decide)
        obtain ⟨-, gs, g2⟩ := r_gd_op (x := 36) (i := (42, 0, none)) hN hk1 c15 (by decide) hf
        refine x_aload_n C dX11_isProduct_27 rfl rfl ?_
        refine x_bipush (v := 42) C dX11_isProduct_28 (by decide) ?_
        refine x_callV1 C dX11_isProduct_30 kX11_199 (c_X11_isSign hO hd hN hk1.1 (rH_B hd) (w := 92) (by decide)) (rH_g0 hd) rfl (by omega) ⟨Nat.zero_le _, Nat.zero_le _⟩ (Nat.le_of_ble_eq_true rfl) ?_
        rintro _ _ ⟨rfl, rfl⟩
        refine x_if_eq (tgt := 41) C dX11_isProduct_33 (by decide) (fun c33 => ?_) (fun c33 => ?_)
        · have c33 := b_n c33
          exact absurd c15 c33
        · have c33 := b_y c33
          refine x_bipush (v := 36) C dX11_isProduct_36 (by decide) ?_
          refine x_goto (tgt := 43) C dX11_isProduct_38 (by decide) ?_
          refine x_istore_n C dX11_isProduct_43 rfl rfl (by decide) ?_
          refine x_aload_n C dX11_isProduct_44 rfl rfl ?_
          refine x_dup C dX11_isProduct_45 rfl ?_
          refine x_getfield C dX11_isProduct_46 fX11_131 (rH_g0 hd) rfl ?_
          refine x_iconst (v := 1) C dX11_isProduct_49 (by decide) ?_
          refine x_iadd C dX11_isProduct_50 ?_
          rw [nI_1]
          refine x_putfield C dX11_isProduct_51 fX11_131 (rH_g0 hd) rfl rfl (Nat.le_of_ble_eq_true rfl) ?_
          refine x_to (rH_adv hd) ?_
          refine x_to (show _ = rH M o r Ev (r_adv R1) from rfl) ?_
          refine x_aload_n C dX11_isProduct_54 rfl rfl ?_
          refine x_callV0 C dX11_isProduct_55 kX11_208 (hF _ _ d1 hp1 (rH_B hd)) (rH_g0 hd) rfl (by omega) ⟨Nat.zero_le _, Nat.zero_le _⟩ (Nat.le_of_ble_eq_true rfl) ?_
          rintro _ _ ⟨rfl, rfl⟩
          refine x_to (rH_H hd) ?_
          refine x_if_ne (tgt := 63) C dX11_isProduct_58 (by decide) (fun c58 => ?_) (fun c58 => ?_)
          · have c58 := b_y c58
            obtain ⟨g3, g4, g5⟩ := g2 c58
            have hlt1 := hk1.1
            have hlt2 := g3.2.1
            refine x_aload_n C dX11_isProduct_63 rfl rfl ?_
            refine x_iload_n C dX11_isProduct_64 rfl rfl ?_
            refine x_callV1 C dX11_isProduct_65 kX11_177 (c_X11_put hO hd (show (f (r_adv R1)).1.2.1.length < 800 by omega) (rH_B hd)) (rH_g0 hd) rfl (by omega) ⟨Nat.zero_le _, Nat.zero_le _⟩ (Nat.le_of_ble_eq_true rfl) ?_
            rintro _ _ ⟨rfl, rfl⟩
            refine x_to (rH_H hd) ?_
            refine x_to (show _ = rH M o r Ev (r_gh (r_put (f (r_adv R1)).1 36) (42, 0, none)) from rfl) ?_
            refine x_goto (tgt := 9) C dX11_isProduct_68 (by decide) ?_
            refine x_take 1 ?_
            exact ih _ (by omega) (r_st_ok hk1 g3) (g5.trans hp1) (by rw [hq]; simp only [r_lpb, if_pos c15, if_pos c58])
          · have c58 := b_n c58
            refine x_iconst (v := 0) C dX11_isProduct_61 (by decide) ?_
            refine x_zret C E dX11_isProduct_62 rfl ?_
            have e9 : (if (f R).2 = true then r_lpb (tE Ev) 92 97 36 37 42 47 f 401 (f R).1 else ((f R).1, false)) = ((f (r_adv R1)).1, false) := by rw [hq]; simp only [r_lpb, if_pos c15, if_neg c58]
            rw [e9]
            exact ⟨rfl, rfl⟩
      · have c15 := b_n c15
        refine x_aload_n C dX11_isProduct_18 rfl rfl ?_
        refine x_bipush (v := 47) C dX11_isProduct_19 (by decide) ?_
        refine x_callV1 C dX11_isProduct_21 kX11_199 (c_X11_isSign hO hd hN hk1.1 (rH_B hd) (w := 97) (by decide)) (rH_g0 hd) rfl (by omega) ⟨Nat.zero_le _, Nat.zero_le _⟩ (Nat.le_of_ble_eq_true rfl) ?_
        rintro _ _ ⟨rfl, rfl⟩
        refine x_if_eq (tgt := 71) C dX11_isProduct_24 (by decide) (fun c24 => ?_) (fun c24 => ?_)
        · have c24 := b_n c24
          refine x_iconst (v := 1) C dX11_isProduct_71 (by decide) ?_
          refine x_zret C E dX11_isProduct_72 rfl ?_
          have e9 : (if (f R).2 = true then r_lpb (tE Ev) 92 97 36 37 42 47 f 401 (f R).1 else ((f R).1, false)) = (R1, true) := by rw [hq]; simp only [r_lpb, if_neg c15, if_neg c24]
          rw [e9]
          exact ⟨rfl, rfl⟩
        · have c24 := b_y c24
          obtain ⟨d1, -⟩ := r_ok_adv hN hk1 c24 (by decide)
          obtain ⟨-, gs, g2⟩ := r_gd_op (x := 37) (i := (47, 0, none)) hN hk1 c24 (by decide) hf
          refine x_aload_n C dX11_isProduct_27 rfl rfl ?_
          refine x_bipush (v := 42) C dX11_isProduct_28 (by decide) ?_
          refine x_callV1 C dX11_isProduct_30 kX11_199 (c_X11_isSign hO hd hN hk1.1 (rH_B hd) (w := 92) (by decide)) (rH_g0 hd) rfl (by omega) ⟨Nat.zero_le _, Nat.zero_le _⟩ (Nat.le_of_ble_eq_true rfl) ?_
          rintro _ _ ⟨rfl, rfl⟩
          refine x_if_eq (tgt := 41) C dX11_isProduct_33 (by decide) (fun c33 => ?_) (fun c33 => ?_)
          · have c33 := b_n c33
            refine x_bipush (v := 37) C dX11_isProduct_41 (by decide) ?_
            refine x_istore_n C dX11_isProduct_43 rfl rfl (by decide) ?_
            refine x_aload_n C dX11_isProduct_44 rfl rfl ?_
            refine x_dup C dX11_isProduct_45 rfl ?_
            refine x_getfield C dX11_isProduct_46 fX11_131 (rH_g0 hd) rfl ?_
            refine x_iconst (v := 1) C dX11_isProduct_49 (by decide) ?_
            refine x_iadd C dX11_isProduct_50 ?_
            rw [nI_1]
            refine x_putfield C dX11_isProduct_51 fX11_131 (rH_g0 hd) rfl rfl (Nat.le_of_ble_eq_true rfl) ?_
            refine x_to (rH_adv hd) ?_
            refine x_to (show _ = rH M o r Ev (r_adv R1) from rfl) ?_
            refine x_aload_n C dX11_isProduct_54 rfl rfl ?_
            refine x_callV0 C dX11_isProduct_55 kX11_208 (hF _ _ d1 hp1 (rH_B hd)) (rH_g0 hd) rfl (by omega) ⟨Nat.zero_le _, Nat.zero_le _⟩ (Nat.le_of_ble_eq_true rfl) ?_
            rintro _ _ ⟨rfl, rfl⟩
            refine x_to (rH_H hd) ?_
            refine x_if_ne (tgt := 63) C dX11_isProduct_58 (by decide) (fun c58 => ?_) (fun c58 => ?_)
            · have c58 := b_y c58
              obtain ⟨g3, g4, g5⟩ := g2 c58
              have hlt1 := hk1.1
              have hlt2 := g3.2.1
              refine x_aload_n C dX11_isProduct_63 rfl rfl ?_
              refine x_iload_n C dX11_isProduct_64 rfl rfl ?_
              refine x_callV1 C dX11_isProduct_65 kX11_177 (c_X11_put hO hd (show (f (r_adv R1)).1.2.1.length < 800 by omega) (rH_B hd)) (rH_g0 hd) rfl (by omega) ⟨Nat.zero_le _, Nat.zero_le _⟩ (Nat.le_of_ble_eq_true rfl) ?_
              rintro _ _ ⟨rfl, rfl⟩
              refine x_to (rH_H hd) ?_
              refine x_to (show _ = rH M o r Ev (r_gh (r_put (f (r_adv R1)).1 37) (47, 0, none)) from rfl) ?_
              refine x_goto (tgt := 9) C dX11_isProduct_68 (by decide) ?_
              refine x_take 1 ?_
              exact ih _ (by omega) (r_st_ok hk1 g3) (g5.trans hp1) (by rw [hq]; simp only [r_lpb, if_neg c15, if_pos c24, if_pos c58])
            · have c58 := b_n c58
              refine x_iconst (v := 0) C dX11_isProduct_61 (by decide) ?_
              refine x_zret C E dX11_isProduct_62 rfl ?_
              have e9 : (if (f R).2 = true then r_lpb (tE Ev) 92 97 36 37 42 47 f 401 (f R).1 else ((f R).1, false)) = ((f (r_adv R1)).1, false) := by rw [hq]; simp only [r_lpb, if_neg c15, if_pos c24, if_neg c58]
              rw [e9]
              exact ⟨rfl, rfl⟩
          · have c33 := b_y c33
            exact absurd c33 c15
  refine x_aload_n C dX11_isProduct_0 rfl rfl ?_
  refine x_callV0 C dX11_isProduct_1 kX11_208 (hF _ _ hk hdp0 (rH_B hd)) (rH_g0 hd) rfl (by omega) ⟨Nat.zero_le _, Nat.zero_le _⟩ (Nat.le_of_ble_eq_true rfl) ?_
  rintro _ _ ⟨rfl, rfl⟩
  refine x_to (rH_H hd) ?_
  refine x_if_ne (tgt := 9) C dX11_isProduct_4 (by decide) (fun c4 => ?_) (fun c4 => ?_)
  · have c4 := b_y c4
    have g0 := hf _ hk
    refine x_take 1 ?_
    exact lp 401 _ (by omega) (r_st_ok hk g0.1) ((g0.2 c4).2.trans hdp0) (if_pos c4)
  · have c4 := b_n c4
    refine x_iconst (v := 0) C dX11_isProduct_7 (by decide) ?_
    refine x_zret C E dX11_isProduct_8 rfl ?_
    refine ⟨?_, ?_⟩
    · simp only [if_neg c4, h_bF]
    · simp only [if_neg c4]
set_option maxHeartbeats 4000000 in
set_option maxRecDepth 100000 in
theorem c_X11_isSum {l : Launch} {Y0 : x_Y} (hO : x_Ok Y0) {M : x_M} {o r N : Nat} {Ev : rE} {R : rS} (hd : o + 7 ≤ r) (hN : r_tok (tE Ev) N) (hk : r_ok N R) (hb : rB M o r Ev R) {dp d : Nat} (hdp0 : R.1.2 = dp) {dF : Nat} {f : rF} (hd1 : dF + 1 ≤ d) (hd4 : 3 ≤ d) (hf : r_gd N f) (hF : rCt l Y0 yX11_isProduct cX11_isProduct 2 dF o r N Ev dp f) : x_C l Y0 yX11_isSum cX11_isSum 2 (some .boolean) d 0 0 [.ref o] M (fun u M1 => u = some (.int (h_b ((if (f R).2 = true then r_lpb (tE Ev) 93 95 34 35 43 45 f 401 (f R).1 else ((f R).1, false))).2)) ∧ M1 = rH M o r Ev ((if (f R).2 = true then r_lpb (tE Ev) 93 95 34 35 43 45 f 401 (f R).1 else ((f R).1, false))).1) := by
  refine x_start hO (by decide +kernel) (Nat.le_of_ble_eq_true rfl) (fun K C E => ?_)
  have hN4 : N ≤ 400 := hN.1
  have ha := hk
  obtain ⟨ha1, ha2, ha3, ha4⟩ := ha
  refine x_to (rH_self hb).symm ?_
  have lp : ∀ (w : Nat) (R1 : rS), N - R1.1.1 < w → r_ok N R1 → R1.1.2 = dp → (if (f R).2 = true then r_lpb (tE Ev) 93 95 34 35 43 45 f 401 (f R).1 else ((f R).1, false)) = r_lpb (tE Ev) 93 95 34 35 43 45 f w R1 → x_X K 2 0 0 9 [(0, .ref o)] [] (rH M o r Ev R1) := by
    intro w
    induction w with
    | zero =>
      intro R1 hw
      exact absurd hw (Nat.not_lt_zero _)
    | succ w ih =>
      intro R1 hw hk1 hp1 hq
      refine x_aload_n C dX11_isSum_9 rfl rfl ?_
      refine x_bipush (v := 43) C dX11_isSum_10 (by decide) ?_
      refine x_callV1 C dX11_isSum_12 kX11_199 (c_X11_isSign hO hd hN hk1.1 (rH_B hd) (w := 93) (by decide)) (rH_g0 hd) rfl (by omega) ⟨Nat.zero_le _, Nat.zero_le _⟩ (Nat.le_of_ble_eq_true rfl) ?_
      rintro _ _ ⟨rfl, rfl⟩
      refine x_if_ne (tgt := 27) C dX11_isSum_15 (by decide) (fun c15 => ?_) (fun c15 => ?_)
      · have c15 := b_y c15
        obtain ⟨d1, -⟩ := r_ok_adv hN hk1 c15 (by decide)
        obtain ⟨-, gs, g2⟩ := r_gd_op (x := 34) (i := (43, 0, none)) hN hk1 c15 (by decide) hf
        refine x_aload_n C dX11_isSum_27 rfl rfl ?_
        refine x_bipush (v := 43) C dX11_isSum_28 (by decide) ?_
        refine x_callV1 C dX11_isSum_30 kX11_199 (c_X11_isSign hO hd hN hk1.1 (rH_B hd) (w := 93) (by decide)) (rH_g0 hd) rfl (by omega) ⟨Nat.zero_le _, Nat.zero_le _⟩ (Nat.le_of_ble_eq_true rfl) ?_
        rintro _ _ ⟨rfl, rfl⟩
        refine x_if_eq (tgt := 41) C dX11_isSum_33 (by decide) (fun c33 => ?_) (fun c33 => ?_)
        · have c33 := b_n c33
          exact absurd c15 c33
        · have c33 := b_y c33
          refine x_bipush (v := 34) C dX11_isSum_36 (by decide) ?_
          refine x_goto (tgt := 43) C dX11_isSum_38 (by decide) ?_
          refine x_istore_n C dX11_isSum_43 rfl rfl (by decide) ?_
          refine x_aload_n C dX11_isSum_44 rfl rfl ?_
          refine x_dup C dX11_isSum_45 rfl ?_
          refine x_getfield C dX11_isSum_46 fX11_131 (rH_g0 hd) rfl ?_
          refine x_iconst (v := 1) C dX11_isSum_49 (by decide) ?_
          refine x_iadd C dX11_isSum_50 ?_
          rw [nI_1]
          refine x_putfield C dX11_isSum_51 fX11_131 (rH_g0 hd) rfl rfl (Nat.le_of_ble_eq_true rfl) ?_
          refine x_to (rH_adv hd) ?_
          refine x_to (show _ = rH M o r Ev (r_adv R1) from rfl) ?_
          refine x_aload_n C dX11_isSum_54 rfl rfl ?_
          refine x_callV0 C dX11_isSum_55 kX11_205 (hF _ _ d1 hp1 (rH_B hd)) (rH_g0 hd) rfl (by omega) ⟨Nat.zero_le _, Nat.zero_le _⟩ (Nat.le_of_ble_eq_true rfl) ?_
          rintro _ _ ⟨rfl, rfl⟩
          refine x_to (rH_H hd) ?_
          refine x_if_ne (tgt := 63) C dX11_isSum_58 (by decide) (fun c58 => ?_) (fun c58 => ?_)
          · have c58 := b_y c58
            obtain ⟨g3, g4, g5⟩ := g2 c58
            have hlt1 := hk1.1
            have hlt2 := g3.2.1
            refine x_aload_n C dX11_isSum_63 rfl rfl ?_
            refine x_iload_n C dX11_isSum_64 rfl rfl ?_
            refine x_callV1 C dX11_isSum_65 kX11_177 (c_X11_put hO hd (show (f (r_adv R1)).1.2.1.length < 800 by omega) (rH_B hd)) (rH_g0 hd) rfl (by omega) ⟨Nat.zero_le _, Nat.zero_le _⟩ (Nat.le_of_ble_eq_true rfl) ?_
            rintro _ _ ⟨rfl, rfl⟩
            refine x_to (rH_H hd) ?_
            refine x_to (show _ = rH M o r Ev (r_gh (r_put (f (r_adv R1)).1 34) (43, 0, none)) from rfl) ?_
            refine x_goto (tgt := 9) C dX11_isSum_68 (by decide) ?_
            refine x_take 1 ?_
            exact ih _ (by omega) (r_st_ok hk1 g3) (g5.trans hp1) (by rw [hq]; simp only [r_lpb, if_pos c15, if_pos c58])
          · have c58 := b_n c58
            refine x_iconst (v := 0) C dX11_isSum_61 (by decide) ?_
            refine x_zret C E dX11_isSum_62 rfl ?_
            have e9 : (if (f R).2 = true then r_lpb (tE Ev) 93 95 34 35 43 45 f 401 (f R).1 else ((f R).1, false)) = ((f (r_adv R1)).1, false) := by rw [hq]; simp only [r_lpb, if_pos c15, if_neg c58]
            rw [e9]
            exact ⟨rfl, rfl⟩
      · have c15 := b_n c15
        refine x_aload_n C dX11_isSum_18 rfl rfl ?_
        refine x_bipush (v := 45) C dX11_isSum_19 (by decide) ?_
        refine x_callV1 C dX11_isSum_21 kX11_199 (c_X11_isSign hO hd hN hk1.1 (rH_B hd) (w := 95) (by decide)) (rH_g0 hd) rfl (by omega) ⟨Nat.zero_le _, Nat.zero_le _⟩ (Nat.le_of_ble_eq_true rfl) ?_
        rintro _ _ ⟨rfl, rfl⟩
        refine x_if_eq (tgt := 71) C dX11_isSum_24 (by decide) (fun c24 => ?_) (fun c24 => ?_)
        · have c24 := b_n c24
          refine x_iconst (v := 1) C dX11_isSum_71 (by decide) ?_
          refine x_zret C E dX11_isSum_72 rfl ?_
          have e9 : (if (f R).2 = true then r_lpb (tE Ev) 93 95 34 35 43 45 f 401 (f R).1 else ((f R).1, false)) = (R1, true) := by rw [hq]; simp only [r_lpb, if_neg c15, if_neg c24]
          rw [e9]
          exact ⟨rfl, rfl⟩
        · have c24 := b_y c24
          obtain ⟨d1, -⟩ := r_ok_adv hN hk1 c24 (by decide)
          obtain ⟨-, gs, g2⟩ := r_gd_op (x := 35) (i := (45, 0, none)) hN hk1 c24 (by decide) hf
          refine x_aload_n C dX11_isSum_27 rfl rfl ?_
          refine x_bipush (v := 43) C dX11_isSum_28 (by decide) ?_
          refine x_callV1 C dX11_isSum_30 kX11_199 (c_X11_isSign hO hd hN hk1.1 (rH_B hd) (w := 93) (by decide)) (rH_g0 hd) rfl (by omega) ⟨Nat.zero_le _, Nat.zero_le _⟩ (Nat.le_of_ble_eq_true rfl) ?_
          rintro _ _ ⟨rfl, rfl⟩
          refine x_if_eq (tgt := 41) C dX11_isSum_33 (by decide) (fun c33 => ?_) (fun c33 => ?_)
          · have c33 := b_n c33
            refine x_bipush (v := 35) C dX11_isSum_41 (by decide) ?_
            refine x_istore_n C dX11_isSum_43 rfl rfl (by decide) ?_
            refine x_aload_n C dX11_isSum_44 rfl rfl ?_
            refine x_dup C dX11_isSum_45 rfl ?_
            refine x_getfield C dX11_isSum_46 fX11_131 (rH_g0 hd) rfl ?_
            refine x_iconst (v := 1) C dX11_isSum_49 (by decide) ?_
            refine x_iadd C dX11_isSum_50 ?_
            rw [nI_1]
            refine x_putfield C dX11_isSum_51 fX11_131 (rH_g0 hd) rfl rfl (Nat.le_of_ble_eq_true rfl) ?_
            refine x_to (rH_adv hd) ?_
            refine x_to (show _ = rH M o r Ev (r_adv R1) from rfl) ?_
            refine x_aload_n C dX11_isSum_54 rfl rfl ?_
            refine x_callV0 C dX11_isSum_55 kX11_205 (hF _ _ d1 hp1 (rH_B hd)) (rH_g0 hd) rfl (by omega) ⟨Nat.zero_le _, Nat.zero_le _⟩ (Nat.le_of_ble_eq_true rfl) ?_
            rintro _ _ ⟨rfl, rfl⟩
            refine x_to (rH_H hd) ?_
            refine x_if_ne (tgt := 63) C dX11_isSum_58 (by decide) (fun c58 => ?_) (fun c58 => ?_)
            · have c58 := b_y c58
              obtain ⟨g3, g4, g5⟩ := g2 c58
              have hlt1 := hk1.1
              have hlt2 := g3.2.1
              refine x_aload_n C dX11_isSum_63 rfl rfl ?_
              refine x_iload_n C dX11_isSum_64 rfl rfl ?_
              refine x_callV1 C dX11_isSum_65 kX11_177 (c_X11_put hO hd (show (f (r_adv R1)).1.2.1.length < 800 by omega) (rH_B hd)) (rH_g0 hd) rfl (by omega) ⟨Nat.zero_le _, Nat.zero_le _⟩ (Nat.le_of_ble_eq_true rfl) ?_
              rintro _ _ ⟨rfl, rfl⟩
              refine x_to (rH_H hd) ?_
              refine x_to (show _ = rH M o r Ev (r_gh (r_put (f (r_adv R1)).1 35) (45, 0, none)) from rfl) ?_
              refine x_goto (tgt := 9) C dX11_isSum_68 (by decide) ?_
              refine x_take 1 ?_
              exact ih _ (by omega) (r_st_ok hk1 g3) (g5.trans hp1) (by rw [hq]; simp only [r_lpb, if_neg c15, if_pos c24, if_pos c58])
            · have c58 := b_n c58
              refine x_iconst (v := 0) C dX11_isSum_61 (by decide) ?_
              refine x_zret C E dX11_isSum_62 rfl ?_
              have e9 : (if (f R).2 = true then r_lpb (tE Ev) 93 95 34 35 43 45 f 401 (f R).1 else ((f R).1, false)) = ((f (r_adv R1)).1, false) := by rw [hq]; simp only [r_lpb, if_neg c15, if_pos c24, if_neg c58]
              rw [e9]
              exact ⟨rfl, rfl⟩
          · have c33 := b_y c33
            exact absurd c33 c15
  refine x_aload_n C dX11_isSum_0 rfl rfl ?_
  refine x_callV0 C dX11_isSum_1 kX11_205 (hF _ _ hk hdp0 (rH_B hd)) (rH_g0 hd) rfl (by omega) ⟨Nat.zero_le _, Nat.zero_le _⟩ (Nat.le_of_ble_eq_true rfl) ?_
  rintro _ _ ⟨rfl, rfl⟩
  refine x_to (rH_H hd) ?_
  refine x_if_ne (tgt := 9) C dX11_isSum_4 (by decide) (fun c4 => ?_) (fun c4 => ?_)
  · have c4 := b_y c4
    have g0 := hf _ hk
    refine x_take 1 ?_
    exact lp 401 _ (by omega) (r_st_ok hk g0.1) ((g0.2 c4).2.trans hdp0) (if_pos c4)
  · have c4 := b_n c4
    refine x_iconst (v := 0) C dX11_isSum_7 (by decide) ?_
    refine x_zret C E dX11_isSum_8 rfl ?_
    refine ⟨?_, ?_⟩
    · simp only [if_neg c4, h_bF]
    · simp only [if_neg c4]
set_option maxHeartbeats 4000000 in
set_option maxRecDepth 100000 in
theorem c_X11_isBoth {l : Launch} {Y0 : x_Y} (hO : x_Ok Y0) {M : x_M} {o r N : Nat} {Ev : rE} {R : rS} (hd : o + 7 ≤ r) (hN : r_tok (tE Ev) N) (hk : r_ok N R) (hb : rB M o r Ev R) {dp d : Nat} (hdp0 : R.1.2 = dp) {dF : Nat} {f : rF} (hd1 : dF + 1 ≤ d) (hd4 : 3 ≤ d) (hf : r_gd N f) (hF : rCt l Y0 yX11_isSingle cX11_isSingle 2 dF o r N Ev dp f) : x_C l Y0 yX11_isBoth cX11_isBoth 1 (some .boolean) d 0 0 [.ref o] M (fun u M1 => u = some (.int (h_b ((if (f R).2 = true then r_lpa (tE Ev) 18 274 f 401 (f R).1 else ((f R).1, false))).2)) ∧ M1 = rH M o r Ev ((if (f R).2 = true then r_lpa (tE Ev) 18 274 f 401 (f R).1 else ((f R).1, false))).1) := by
  refine x_start hO (by decide +kernel) (Nat.le_of_ble_eq_true rfl) (fun K C E => ?_)
  have hN4 : N ≤ 400 := hN.1
  have ha := hk
  obtain ⟨ha1, ha2, ha3, ha4⟩ := ha
  refine x_to (rH_self hb).symm ?_
  have lp : ∀ (w : Nat) (R1 : rS), N - R1.1.1 < w → r_ok N R1 → R1.1.2 = dp → (if (f R).2 = true then r_lpa (tE Ev) 18 274 f 401 (f R).1 else ((f R).1, false)) = r_lpa (tE Ev) 18 274 f w R1 → x_X K 1 0 0 9 [(0, .ref o)] [] (rH M o r Ev R1) := by
    intro w
    induction w with
    | zero =>
      intro R1 hw
      exact absurd hw (Nat.not_lt_zero _)
    | succ w ih =>
      intro R1 hw hk1 hp1 hq
      refine x_aload_n C dX11_isBoth_9 rfl rfl ?_
      refine x_bipush (v := 18) C dX11_isBoth_10 (by decide) ?_
      refine x_callV1 C dX11_isBoth_12 kX11_137 (c_X11_eat hO hd hN hk1.1 (rH_B hd)) (rH_g0 hd) rfl (by omega) ⟨Nat.zero_le _, Nat.zero_le _⟩ (Nat.le_of_ble_eq_true rfl) ?_
      rintro _ _ ⟨rfl, rfl⟩
      refine x_to (rH_H hd) ?_
      refine x_if_eq (tgt := 36) C dX11_isBoth_15 (by decide) (fun c15 => ?_) (fun c15 => ?_)
      · have c15 := b_n c15
        rw [r_eat_n c15]
        refine x_iconst (v := 1) C dX11_isBoth_36 (by decide) ?_
        refine x_zret C E dX11_isBoth_37 rfl ?_
        have e9 : (if (f R).2 = true then r_lpa (tE Ev) 18 274 f 401 (f R).1 else ((f R).1, false)) = (R1, true) := by rw [hq]; simp only [r_lpa, if_neg c15, r_eat_n c15]
        rw [e9]
        exact ⟨rfl, rfl⟩
      · have c15 := b_y c15
        rw [r_eat_p c15]
        obtain ⟨d1, -⟩ := r_ok_adv hN hk1 c15 (by decide)
        obtain ⟨-, gs, g2⟩ := r_gd_op (x := 18) (i := (274, 0, none)) hN hk1 c15 (by decide) hf
        refine x_aload_n C dX11_isBoth_18 rfl rfl ?_
        refine x_callV0 C dX11_isBoth_19 kX11_181 (hF _ _ d1 hp1 (rH_B hd)) (rH_g0 hd) rfl (by omega) ⟨Nat.zero_le _, Nat.zero_le _⟩ (Nat.le_of_ble_eq_true rfl) ?_
        rintro _ _ ⟨rfl, rfl⟩
        refine x_to (rH_H hd) ?_
        refine x_if_ne (tgt := 27) C dX11_isBoth_22 (by decide) (fun c22 => ?_) (fun c22 => ?_)
        · have c22 := b_y c22
          obtain ⟨g3, g4, g5⟩ := g2 c22
          have hlt1 := hk1.1
          have hlt2 := g3.2.1
          refine x_aload_n C dX11_isBoth_27 rfl rfl ?_
          refine x_bipush (v := 18) C dX11_isBoth_28 (by decide) ?_
          refine x_callV1 C dX11_isBoth_30 kX11_177 (c_X11_put hO hd (show (f (r_adv R1)).1.2.1.length < 800 by omega) (rH_B hd)) (rH_g0 hd) rfl (by omega) ⟨Nat.zero_le _, Nat.zero_le _⟩ (Nat.le_of_ble_eq_true rfl) ?_
          rintro _ _ ⟨rfl, rfl⟩
          refine x_to (rH_H hd) ?_
          refine x_to (show _ = rH M o r Ev (r_gh (r_put (f (r_adv R1)).1 18) (274, 0, none)) from rfl) ?_
          refine x_goto (tgt := 9) C dX11_isBoth_33 (by decide) ?_
          refine x_take 1 ?_
          exact ih _ (by omega) (r_st_ok hk1 g3) (g5.trans hp1) (by rw [hq]; simp only [r_lpa, if_pos c15, if_pos c22, r_eat_p c15])
        · have c22 := b_n c22
          refine x_iconst (v := 0) C dX11_isBoth_25 (by decide) ?_
          refine x_zret C E dX11_isBoth_26 rfl ?_
          have e9 : (if (f R).2 = true then r_lpa (tE Ev) 18 274 f 401 (f R).1 else ((f R).1, false)) = ((f (r_adv R1)).1, false) := by rw [hq]; simp only [r_lpa, if_pos c15, if_neg c22, r_eat_p c15]
          rw [e9]
          exact ⟨rfl, rfl⟩
  refine x_aload_n C dX11_isBoth_0 rfl rfl ?_
  refine x_callV0 C dX11_isBoth_1 kX11_181 (hF _ _ hk hdp0 (rH_B hd)) (rH_g0 hd) rfl (by omega) ⟨Nat.zero_le _, Nat.zero_le _⟩ (Nat.le_of_ble_eq_true rfl) ?_
  rintro _ _ ⟨rfl, rfl⟩
  refine x_to (rH_H hd) ?_
  refine x_if_ne (tgt := 9) C dX11_isBoth_4 (by decide) (fun c4 => ?_) (fun c4 => ?_)
  · have c4 := b_y c4
    have g0 := hf _ hk
    refine x_take 1 ?_
    exact lp 401 _ (by omega) (r_st_ok hk g0.1) ((g0.2 c4).2.trans hdp0) (if_pos c4)
  · have c4 := b_n c4
    refine x_iconst (v := 0) C dX11_isBoth_7 (by decide) ?_
    refine x_zret C E dX11_isBoth_8 rfl ?_
    refine ⟨?_, ?_⟩
    · simp only [if_neg c4, h_bF]
    · simp only [if_neg c4]
set_option maxHeartbeats 4000000 in
set_option maxRecDepth 100000 in
theorem c_X11_isTest {l : Launch} {Y0 : x_Y} (hO : x_Ok Y0) {M : x_M} {o r N : Nat} {Ev : rE} {R : rS} (hd : o + 7 ≤ r) (hN : r_tok (tE Ev) N) (hk : r_ok N R) (hb : rB M o r Ev R) {dp d : Nat} (hdp0 : R.1.2 = dp) {dF : Nat} {f : rF} (hd1 : dF + 1 ≤ d) (hd4 : 3 ≤ d) (hf : r_gd N f) (hF : rCt l Y0 yX11_isBoth cX11_isBoth 1 dF o r N Ev dp f) : x_C l Y0 yX11_isTest cX11_isTest 1 (some .boolean) d 0 0 [.ref o] M (fun u M1 => u = some (.int (h_b ((if (f R).2 = true then r_lpa (tE Ev) 19 275 f 401 (f R).1 else ((f R).1, false))).2)) ∧ M1 = rH M o r Ev ((if (f R).2 = true then r_lpa (tE Ev) 19 275 f 401 (f R).1 else ((f R).1, false))).1) := by
  refine x_start hO (by decide +kernel) (Nat.le_of_ble_eq_true rfl) (fun K C E => ?_)
  have hN4 : N ≤ 400 := hN.1
  have ha := hk
  obtain ⟨ha1, ha2, ha3, ha4⟩ := ha
  refine x_to (rH_self hb).symm ?_
  have lp : ∀ (w : Nat) (R1 : rS), N - R1.1.1 < w → r_ok N R1 → R1.1.2 = dp → (if (f R).2 = true then r_lpa (tE Ev) 19 275 f 401 (f R).1 else ((f R).1, false)) = r_lpa (tE Ev) 19 275 f w R1 → x_X K 1 0 0 9 [(0, .ref o)] [] (rH M o r Ev R1) := by
    intro w
    induction w with
    | zero =>
      intro R1 hw
      exact absurd hw (Nat.not_lt_zero _)
    | succ w ih =>
      intro R1 hw hk1 hp1 hq
      refine x_aload_n C dX11_isTest_9 rfl rfl ?_
      refine x_bipush (v := 19) C dX11_isTest_10 (by decide) ?_
      refine x_callV1 C dX11_isTest_12 kX11_137 (c_X11_eat hO hd hN hk1.1 (rH_B hd)) (rH_g0 hd) rfl (by omega) ⟨Nat.zero_le _, Nat.zero_le _⟩ (Nat.le_of_ble_eq_true rfl) ?_
      rintro _ _ ⟨rfl, rfl⟩
      refine x_to (rH_H hd) ?_
      refine x_if_eq (tgt := 36) C dX11_isTest_15 (by decide) (fun c15 => ?_) (fun c15 => ?_)
      · have c15 := b_n c15
        rw [r_eat_n c15]
        refine x_iconst (v := 1) C dX11_isTest_36 (by decide) ?_
        refine x_zret C E dX11_isTest_37 rfl ?_
        have e9 : (if (f R).2 = true then r_lpa (tE Ev) 19 275 f 401 (f R).1 else ((f R).1, false)) = (R1, true) := by rw [hq]; simp only [r_lpa, if_neg c15, r_eat_n c15]
        rw [e9]
        exact ⟨rfl, rfl⟩
      · have c15 := b_y c15
        rw [r_eat_p c15]
        obtain ⟨d1, -⟩ := r_ok_adv hN hk1 c15 (by decide)
        obtain ⟨-, gs, g2⟩ := r_gd_op (x := 19) (i := (275, 0, none)) hN hk1 c15 (by decide) hf
        refine x_aload_n C dX11_isTest_18 rfl rfl ?_
        refine x_callV0 C dX11_isTest_19 kX11_174 (hF _ _ d1 hp1 (rH_B hd)) (rH_g0 hd) rfl (by omega) ⟨Nat.zero_le _, Nat.zero_le _⟩ (Nat.le_of_ble_eq_true rfl) ?_
        rintro _ _ ⟨rfl, rfl⟩
        refine x_to (rH_H hd) ?_
        refine x_if_ne (tgt := 27) C dX11_isTest_22 (by decide) (fun c22 => ?_) (fun c22 => ?_)
        · have c22 := b_y c22
          obtain ⟨g3, g4, g5⟩ := g2 c22
          have hlt1 := hk1.1
          have hlt2 := g3.2.1
          refine x_aload_n C dX11_isTest_27 rfl rfl ?_
          refine x_bipush (v := 19) C dX11_isTest_28 (by decide) ?_
          refine x_callV1 C dX11_isTest_30 kX11_177 (c_X11_put hO hd (show (f (r_adv R1)).1.2.1.length < 800 by omega) (rH_B hd)) (rH_g0 hd) rfl (by omega) ⟨Nat.zero_le _, Nat.zero_le _⟩ (Nat.le_of_ble_eq_true rfl) ?_
          rintro _ _ ⟨rfl, rfl⟩
          refine x_to (rH_H hd) ?_
          refine x_to (show _ = rH M o r Ev (r_gh (r_put (f (r_adv R1)).1 19) (275, 0, none)) from rfl) ?_
          refine x_goto (tgt := 9) C dX11_isTest_33 (by decide) ?_
          refine x_take 1 ?_
          exact ih _ (by omega) (r_st_ok hk1 g3) (g5.trans hp1) (by rw [hq]; simp only [r_lpa, if_pos c15, if_pos c22, r_eat_p c15])
        · have c22 := b_n c22
          refine x_iconst (v := 0) C dX11_isTest_25 (by decide) ?_
          refine x_zret C E dX11_isTest_26 rfl ?_
          have e9 : (if (f R).2 = true then r_lpa (tE Ev) 19 275 f 401 (f R).1 else ((f R).1, false)) = ((f (r_adv R1)).1, false) := by rw [hq]; simp only [r_lpa, if_pos c15, if_neg c22, r_eat_p c15]
          rw [e9]
          exact ⟨rfl, rfl⟩
  refine x_aload_n C dX11_isTest_0 rfl rfl ?_
  refine x_callV0 C dX11_isTest_1 kX11_174 (hF _ _ hk hdp0 (rH_B hd)) (rH_g0 hd) rfl (by omega) ⟨Nat.zero_le _, Nat.zero_le _⟩ (Nat.le_of_ble_eq_true rfl) ?_
  rintro _ _ ⟨rfl, rfl⟩
  refine x_to (rH_H hd) ?_
  refine x_if_ne (tgt := 9) C dX11_isTest_4 (by decide) (fun c4 => ?_) (fun c4 => ?_)
  · have c4 := b_y c4
    have g0 := hf _ hk
    refine x_take 1 ?_
    exact lp 401 _ (by omega) (r_st_ok hk g0.1) ((g0.2 c4).2.trans hdp0) (if_pos c4)
  · have c4 := b_n c4
    refine x_iconst (v := 0) C dX11_isTest_7 (by decide) ?_
    refine x_zret C E dX11_isTest_8 rfl ?_
    refine ⟨?_, ?_⟩
    · simp only [if_neg c4, h_bF]
    · simp only [if_neg c4]
