theorem x_o2g {M : x_M} {o r n j : Nat} {Lo Lr : List x_E} {c : x_E} (hd : o + n ≤ r) (hl : Lo.length = n) (h : Lo[j]? = some c) : (x_ov (x_ov M o Lo) r Lr).1 (o + j) = some c := by
  have hj : j < Lo.length := (List.getElem?_eq_some_iff.mp h).1
  exact (x_ov_out (Or.inl (by omega))).trans (x_ovg j h)
set_option maxHeartbeats 4000000 in
set_option maxRecDepth 100000 in
theorem c_X11_is {l : Launch} {Y0 : x_Y} (hO : x_Ok Y0) {M : x_M} {o r N : Nat} {Ev : rE} {R : rS} (hd : o + 7 ≤ r) (hN : r_tok (tE Ev) N) (hk : R.1.1 ≤ N) (hb : rB M o r Ev R) {w : Int32} : x_C l Y0 yX11_is cX11_is 2 (some .boolean) 1 0 0 [.ref o, .int w] M (fun u M1 => u = some (.int (if (tE Ev).1 R.1.1 = w then 1 else 0)) ∧ M1 = M) := by
  refine x_start hO (by decide +kernel) (Nat.le_of_ble_eq_true rfl) (fun K C E => ?_)
  have h41 : R.1.1 < 401 := Nat.lt_succ_of_le (Nat.le_trans hk hN.1)
  refine x_aload_n C dX11_is_0 rfl rfl ?_
  refine x_getfield C dX11_is_1 fX11_17 (hb.1 0 _ rfl) rfl ?_
  refine x_aload_n C dX11_is_4 rfl rfl ?_
  refine x_getfield C dX11_is_5 fX11_131 (hb.1 0 _ rfl) rfl ?_
  refine x_iaload C dX11_is_8 (hb.1 2 _ rfl) (nI_in h41 (by decide)) ?_
  rw [nI_clamp (show R.1.1 < 2 ^ 31 by omega)]
  refine x_topi ((tE Ev).1 R.1.1) rfl ?_
  refine x_iload_n C dX11_is_9 rfl rfl ?_
  refine x_icmp_ne (tgt := 17) C dX11_is_10 (by decide) (fun c10 => ?_) (fun c10 => ?_)
  · refine x_iconst (v := 0) C dX11_is_17 (by decide) ?_
    refine x_zret C E dX11_is_18 rfl ?_
    exact ⟨by rw [if_neg c10], rfl⟩
  · refine x_iconst (v := 1) C dX11_is_13 (by decide) ?_
    refine x_goto (tgt := 18) C dX11_is_14 (by decide) ?_
    refine x_zret C E dX11_is_18 rfl ?_
    exact ⟨by rw [if_pos c10], rfl⟩
set_option maxHeartbeats 4000000 in
set_option maxRecDepth 100000 in
theorem c_X11_isSign {l : Launch} {Y0 : x_Y} (hO : x_Ok Y0) {M : x_M} {o r N : Nat} {Ev : rE} {R : rS} (hd : o + 7 ≤ r) (hN : r_tok (tE Ev) N) (hk : R.1.1 ≤ N) (hb : rB M o r Ev R) {c w : Int32} (hw : 50 + c = w) : x_C l Y0 yX11_isSign cX11_isSign 2 (some .boolean) 1 0 0 [.ref o, .int c] M (fun u M1 => u = some (.int (if (tE Ev).1 R.1.1 = w then 1 else 0)) ∧ M1 = M) := by
  refine x_start hO (by decide +kernel) (Nat.le_of_ble_eq_true rfl) (fun K C E => ?_)
  have h41 : R.1.1 < 401 := Nat.lt_succ_of_le (Nat.le_trans hk hN.1)
  refine x_aload_n C dX11_isSign_0 rfl rfl ?_
  refine x_getfield C dX11_isSign_1 fX11_17 (hb.1 0 _ rfl) rfl ?_
  refine x_aload_n C dX11_isSign_4 rfl rfl ?_
  refine x_getfield C dX11_isSign_5 fX11_131 (hb.1 0 _ rfl) rfl ?_
  refine x_iaload C dX11_isSign_8 (hb.1 2 _ rfl) (nI_in h41 (by decide)) ?_
  rw [nI_clamp (show R.1.1 < 2 ^ 31 by omega)]
  refine x_topi ((tE Ev).1 R.1.1) rfl ?_
  refine x_bipush (v := 50) C dX11_isSign_9 (by decide) ?_
  refine x_iload_n C dX11_isSign_11 rfl rfl ?_
  refine x_iadd C dX11_isSign_12 ?_
  rw [hw]
  refine x_icmp_ne (tgt := 20) C dX11_isSign_13 (by decide) (fun c13 => ?_) (fun c13 => ?_)
  · refine x_iconst (v := 0) C dX11_isSign_20 (by decide) ?_
    refine x_zret C E dX11_isSign_21 rfl ?_
    exact ⟨by rw [if_neg c13], rfl⟩
  · refine x_iconst (v := 1) C dX11_isSign_16 (by decide) ?_
    refine x_goto (tgt := 21) C dX11_isSign_17 (by decide) ?_
    refine x_zret C E dX11_isSign_21 rfl ?_
    exact ⟨by rw [if_pos c13], rfl⟩
set_option maxHeartbeats 4000000 in
set_option maxRecDepth 100000 in
theorem c_X11_eat {l : Launch} {Y0 : x_Y} (hO : x_Ok Y0) {M : x_M} {o r N : Nat} {Ev : rE} {R : rS} (hd : o + 7 ≤ r) (hN : r_tok (tE Ev) N) (hk : R.1.1 ≤ N) (hb : rB M o r Ev R) {w : Int32} : x_C l Y0 yX11_eat cX11_eat 2 (some .boolean) 2 0 0 [.ref o, .int w] M (fun u M1 => u = some (.int (if (tE Ev).1 R.1.1 = w then 1 else 0)) ∧ M1 = rH M o r Ev (r_eat (tE Ev) R w)) := by
  refine x_start hO (by decide +kernel) (Nat.le_of_ble_eq_true rfl) (fun K C E => ?_)
  have h41 : R.1.1 < 401 := Nat.lt_succ_of_le (Nat.le_trans hk hN.1)
  refine x_to (rH_self hb).symm ?_
  refine x_aload_n C dX11_eat_0 rfl rfl ?_
  refine x_iload_n C dX11_eat_1 rfl rfl ?_
  refine x_callV1 C dX11_eat_2 kX11_134 (c_X11_is hO hd hN hk (rH_B hd)) (rH_g0 hd) rfl (by decide) ⟨Nat.zero_le _, Nat.zero_le _⟩ (Nat.le_of_ble_eq_true rfl) ?_
  rintro _ _ ⟨rfl, rfl⟩
  refine x_if_ne (tgt := 10) C dX11_eat_5 (by decide) (fun c5 => ?_) (fun c5 => ?_)
  · have c5 := b_y c5
    refine x_aload_n C dX11_eat_10 rfl rfl ?_
    refine x_dup C dX11_eat_11 rfl ?_
    refine x_getfield C dX11_eat_12 fX11_131 (rH_g0 hd) rfl ?_
    refine x_iconst (v := 1) C dX11_eat_15 (by decide) ?_
    refine x_iadd C dX11_eat_16 ?_
    rw [nI_1]
    refine x_putfield C dX11_eat_17 fX11_131 (rH_g0 hd) rfl rfl (Nat.le_of_ble_eq_true rfl) ?_
    refine x_to (rH_adv hd) ?_
    refine x_to (show _ = rH M o r Ev (r_adv R) from rfl) ?_
    refine x_iconst (v := 1) C dX11_eat_20 (by decide) ?_
    refine x_zret C E dX11_eat_21 rfl ?_
    exact ⟨by rw [if_pos c5], by unfold r_eat; rw [if_pos c5]⟩
  · have c5 := b_n c5
    refine x_iconst (v := 0) C dX11_eat_8 (by decide) ?_
    refine x_zret C E dX11_eat_9 rfl ?_
    exact ⟨by rw [if_neg c5], by unfold r_eat; rw [if_neg c5]⟩
set_option maxHeartbeats 4000000 in
set_option maxRecDepth 100000 in
theorem c_X11_eatSign {l : Launch} {Y0 : x_Y} (hO : x_Ok Y0) {M : x_M} {o r N : Nat} {Ev : rE} {R : rS} (hd : o + 7 ≤ r) (hN : r_tok (tE Ev) N) (hk : R.1.1 ≤ N) (hb : rB M o r Ev R) {c w : Int32} (hw : 50 + c = w) : x_C l Y0 yX11_eatSign cX11_eatSign 2 (some .boolean) 3 0 0 [.ref o, .int c] M (fun u M1 => u = some (.int (if (tE Ev).1 R.1.1 = w then 1 else 0)) ∧ M1 = rH M o r Ev (r_eat (tE Ev) R w)) := by
  refine x_start hO (by decide +kernel) (Nat.le_of_ble_eq_true rfl) (fun K C E => ?_)
  have h41 : R.1.1 < 401 := Nat.lt_succ_of_le (Nat.le_trans hk hN.1)
  refine x_to (rH_self hb).symm ?_
  refine x_aload_n C dX11_eatSign_0 rfl rfl ?_
  refine x_bipush (v := 50) C dX11_eatSign_1 (by decide) ?_
  refine x_iload_n C dX11_eatSign_3 rfl rfl ?_
  refine x_iadd C dX11_eatSign_4 ?_
  rw [hw]
  refine x_callV1 C dX11_eatSign_5 kX11_137 (c_X11_eat hO hd hN hk (rH_B hd)) (rH_g0 hd) rfl (by decide) ⟨Nat.zero_le _, Nat.zero_le _⟩ (Nat.le_of_ble_eq_true rfl) ?_
  rintro _ _ ⟨rfl, rfl⟩
  refine x_to (rH_H hd) ?_
  refine x_zret C E dX11_eatSign_8 (by split <;> rfl) ?_
  exact ⟨rfl, rfl⟩
set_option maxHeartbeats 4000000 in
set_option maxRecDepth 100000 in
theorem c_X11_eatAs {l : Launch} {Y0 : x_Y} (hO : x_Ok Y0) {M : x_M} {o r N : Nat} {Ev : rE} {R : rS} (hd : o + 7 ≤ r) (hN : r_tok (tE Ev) N) (hk : R.1.1 ≤ N) (hb : rB M o r Ev R) {w a : Int32} : x_C l Y0 yX11_eatAs cX11_eatAs 3 (some .boolean) 3 0 0 [.ref o, .int w, .int a] M (fun u M1 => u = some (.int (if (tE Ev).1 R.1.1 = w then 1 else 0)) ∧ M1 = rH M o r Ev (r_eatAs (tE Ev) R w a)) := by
  refine x_start hO (by decide +kernel) (Nat.le_of_ble_eq_true rfl) (fun K C E => ?_)
  have h41 : R.1.1 < 401 := Nat.lt_succ_of_le (Nat.le_trans hk hN.1)
  refine x_to (rH_self hb).symm ?_
  refine x_aload_n C dX11_eatAs_0 rfl rfl ?_
  refine x_getfield C dX11_eatAs_1 fX11_26 (rH_g0 hd) rfl ?_
  refine x_aload_n C dX11_eatAs_4 rfl rfl ?_
  refine x_getfield C dX11_eatAs_5 fX11_131 (rH_g0 hd) rfl ?_
  refine x_iload_n C dX11_eatAs_8 rfl rfl ?_
  refine x_iastore C dX11_eatAs_9 (rH_g5 hd) (nI_in h41 (by decide)) ?_
  rw [nI_clamp (show R.1.1 < 2 ^ 31 by omega)]
  refine x_to (rH_role hd) ?_
  refine x_aload_n C dX11_eatAs_10 rfl rfl ?_
  refine x_iload_n C dX11_eatAs_11 rfl rfl ?_
  refine x_callV1 C dX11_eatAs_12 kX11_137 (c_X11_eat (R := r_role R a) hO hd hN hk (rH_B hd)) (rH_g0 hd) rfl (by decide) ⟨Nat.zero_le _, Nat.zero_le _⟩ (Nat.le_of_ble_eq_true rfl) ?_
  rintro _ _ ⟨rfl, rfl⟩
  refine x_to (rH_H hd) ?_
  refine x_zret C E dX11_eatAs_15 (by split <;> rfl) ?_
  exact ⟨rfl, rfl⟩
set_option maxHeartbeats 4000000 in
set_option maxRecDepth 100000 in
theorem c_X11_put {l : Launch} {Y0 : x_Y} (hO : x_Ok Y0) {M : x_M} {o r : Nat} {Ev : rE} {R : rS} (hd : o + 7 ≤ r) (hs : R.2.1.length < 800) (hb : rB M o r Ev R) {x : Int32} : x_C l Y0 yX11_put cX11_put 2 none 1 0 0 [.ref o, .int x] M (fun u M1 => u = none ∧ M1 = rH M o r Ev (r_put R x)) := by
  refine x_start hO (by decide +kernel) (Nat.le_of_ble_eq_true rfl) (fun K C E => ?_)
  refine x_to (rH_self hb).symm ?_
  refine x_to (show _ = x_ov (x_ov M o (moT o r Ev R)) r (pmT r (prG Ev R)) from rfl) ?_
  refine x_aload_n C dX11_put_0 rfl rfl ?_
  refine x_getfield C dX11_put_1 fX11_39 (x_o2g (o := o) (n := 7) (j := 0) hd rfl rfl) rfl ?_
  refine x_getfield C dX11_put_4 fX11_140 (x_ovg 0 rfl) rfl ?_
  refine x_aload_n C dX11_put_7 rfl rfl ?_
  refine x_getfield C dX11_put_8 fX11_39 (x_o2g (o := o) (n := 7) (j := 0) hd rfl rfl) rfl ?_
  refine x_getfield C dX11_put_11 fX11_143 (x_ovg 0 rfl) rfl ?_
  refine x_topi (nI R.2.1.length) rfl ?_
  refine x_iload_n C dX11_put_14 rfl rfl ?_
  refine x_iastore C dX11_put_15 (x_ovg 9 rfl) (nI_in hs (by decide)) ?_
  refine x_to (x_st_ov 9 (Nat.le_of_ble_eq_true rfl)) ?_
  rw [nI_clamp (show R.2.1.length < 2 ^ 31 by omega)]
  refine x_to (show _ = x_ov (x_ov M o (moT o r Ev R)) r ((pmT r (prG Ev R)).set 9 (.inl (0, 800, .inl (lr (R.2.1 ++ [x]))))) from by rw [← lr_app]; rfl) ?_
  refine x_aload_n C dX11_put_16 rfl rfl ?_
  refine x_getfield C dX11_put_17 fX11_39 (x_o2g (o := o) (n := 7) (j := 0) hd rfl rfl) rfl ?_
  refine x_dup C dX11_put_20 rfl ?_
  refine x_getfield C dX11_put_21 fX11_143 (x_ovg 0 rfl) rfl ?_
  refine x_iconst (v := 1) C dX11_put_24 (by decide) ?_
  refine x_iadd C dX11_put_25 ?_
  refine x_topi (nI (R.2.1 ++ [x]).length) (by rw [r_app1]; exact nI_1 R.2.1.length) ?_
  refine x_putfield C dX11_put_26 fX11_143 (x_ovg 0 rfl) rfl rfl (Nat.le_of_ble_eq_true rfl) ?_
  refine x_to (x_st_ov 0 (Nat.le_of_ble_eq_true rfl)) ?_
  refine x_vret C E dX11_put_29 ?_
  exact ⟨rfl, rfl⟩
set_option maxHeartbeats 4000000 in
set_option maxRecDepth 100000 in
theorem c_X11_isName {l : Launch} {Y0 : x_Y} (hO : x_Ok Y0) {M : x_M} {o r N : Nat} {Ev : rE} {R : rS} (hd : o + 7 ≤ r) (hN : r_tok (tE Ev) N) (hk : R.1.1 ≤ N) (hb : rB M o r Ev R) (hs : R.2.1.length < 800) (hp : R.2.2.1.length < 400) {a : Int32} : x_C l Y0 yX11_isName cX11_isName 2 (some .boolean) 4 0 0 [.ref o, .int a] M (fun u M1 => u = some (.int (if (tE Ev).1 R.1.1 = 40 then 1 else 0)) ∧ M1 = rH M o r Ev (r_name (tE Ev) R a)) := by
  refine x_start hO (by decide +kernel) (Nat.le_of_ble_eq_true rfl) (fun K C E => ?_)
  have h41 : R.1.1 < 401 := Nat.lt_succ_of_le (Nat.le_trans hk hN.1)
  refine x_to (rH_self hb).symm ?_
  refine x_to (show _ = x_ov (x_ov M o (moT o r Ev R)) r (pmT r (prG Ev R)) from rfl) ?_
  refine x_aload_n C dX11_isName_0 rfl rfl ?_
  refine x_getfield C dX11_isName_1 fX11_39 (x_o2g (o := o) (n := 7) (j := 0) hd rfl rfl) rfl ?_
  refine x_getfield C dX11_isName_4 fX11_187 (x_ovg 0 rfl) rfl ?_
  refine x_aload_n C dX11_isName_7 rfl rfl ?_
  refine x_getfield C dX11_isName_8 fX11_39 (x_o2g (o := o) (n := 7) (j := 0) hd rfl rfl) rfl ?_
  refine x_getfield C dX11_isName_11 fX11_190 (x_ovg 0 rfl) rfl ?_
  refine x_topi (nI R.2.2.1.length) rfl ?_
  refine x_aload_n C dX11_isName_14 rfl rfl ?_
  refine x_getfield C dX11_isName_15 fX11_39 (x_o2g (o := o) (n := 7) (j := 0) hd rfl rfl) rfl ?_
  refine x_getfield C dX11_isName_18 fX11_143 (x_ovg 0 rfl) rfl ?_
  refine x_topi (nI R.2.1.length) rfl ?_
  refine x_iastore C dX11_isName_21 (x_ovg 10 rfl) (nI_in hp (by decide)) ?_
  refine x_to (x_st_ov 10 (Nat.le_of_ble_eq_true rfl)) ?_
  rw [nI_clamp (show R.2.2.1.length < 2 ^ 31 by omega)]
  refine x_to (show _ = x_ov (x_ov M o (moT o r Ev R)) r ((pmT r (prG Ev R)).set 10 (.inl (0, 400, .inl (lrN (R.2.2.1 ++ [R.2.1.length]))))) from by rw [← lrN_app]; rfl) ?_
  refine x_aload_n C dX11_isName_22 rfl rfl ?_
  refine x_getfield C dX11_isName_23 fX11_39 (x_o2g (o := o) (n := 7) (j := 0) hd rfl rfl) rfl ?_
  refine x_dup C dX11_isName_26 rfl ?_
  refine x_getfield C dX11_isName_27 fX11_190 (x_ovg 0 rfl) rfl ?_
  refine x_iconst (v := 1) C dX11_isName_30 (by decide) ?_
  refine x_iadd C dX11_isName_31 ?_
  refine x_topi (nI (R.2.2.1 ++ [R.2.1.length]).length) (by rw [r_app1]; exact nI_1 R.2.2.1.length) ?_
  refine x_putfield C dX11_isName_32 fX11_190 (x_ovg 0 rfl) rfl rfl (Nat.le_of_ble_eq_true rfl) ?_
  refine x_to (x_st_ov 0 (Nat.le_of_ble_eq_true rfl)) ?_
  refine x_to (show _ = rH M o r Ev (r_opn R) from rfl) ?_
  refine x_aload_n C dX11_isName_35 rfl rfl ?_
  refine x_aload_n C dX11_isName_36 rfl rfl ?_
  refine x_getfield C dX11_isName_37 fX11_131 (rH_g0 hd) rfl ?_
  refine x_callV1 C dX11_isName_40 kX11_177 (c_X11_put (R := r_opn R) hO hd hs (rH_B hd)) (rH_g0 hd) rfl (by decide) ⟨Nat.zero_le _, Nat.zero_le _⟩ (Nat.le_of_ble_eq_true rfl) ?_
  rintro _ _ ⟨rfl, rfl⟩
  refine x_to (rH_H hd) ?_
  refine x_aload_n C dX11_isName_43 rfl rfl ?_
  refine x_bipush (v := 40) C dX11_isName_44 (by decide) ?_
  refine x_iload_n C dX11_isName_46 rfl rfl ?_
  refine x_callV2 C dX11_isName_47 kX11_152 (c_X11_eatAs (R := r_put (r_opn R) (nI R.1.1)) hO hd hN hk (rH_B hd)) (rH_g0 hd) rfl (by decide) ⟨Nat.zero_le _, Nat.zero_le _⟩ (Nat.le_of_ble_eq_true rfl) ?_
  rintro _ _ ⟨rfl, rfl⟩
  refine x_to (rH_H hd) ?_
  refine x_zret C E dX11_isName_50 (by split <;> rfl) ?_
  exact ⟨rfl, rfl⟩
set_option maxHeartbeats 4000000 in
set_option maxRecDepth 100000 in
theorem c_X11_isDeeper {l : Launch} {Y0 : x_Y} (hO : x_Ok Y0) {M : x_M} {o r N : Nat} {Ev : rE} {R : rS} (hd : o + 7 ≤ r) (hN : r_tok (tE Ev) N) (hk : R.1.1 ≤ N) (hb : rB M o r Ev R) (hk8 : R.1.2 ≤ 8) : x_C l Y0 yX11_isDeeper cX11_isDeeper 1 (some .boolean) 1 0 0 [.ref o] M (fun u M1 => u = some (.int (if ¬ R.1.2 = 8 then 1 else 0)) ∧ M1 = rH M o r Ev (r_deep R)) := by
  refine x_start hO (by decide +kernel) (Nat.le_of_ble_eq_true rfl) (fun K C E => ?_)
  have h41 : R.1.1 < 401 := Nat.lt_succ_of_le (Nat.le_trans hk hN.1)
  refine x_to (rH_self hb).symm ?_
  refine x_aload_n C dX11_isDeeper_0 rfl rfl ?_
  refine x_getfield C dX11_isDeeper_1 fX11_184 (rH_g0 hd) rfl ?_
  refine x_bipush (v := 8) C dX11_isDeeper_4 (by decide) ?_
  refine x_icmp_ne (tgt := 11) C dX11_isDeeper_6 (by decide) (fun c6 => ?_) (fun c6 => ?_)
  · have c6 : ¬ R.1.2 = 8 := fun q => c6 (congrArg nI q)
    refine x_aload_n C dX11_isDeeper_11 rfl rfl ?_
    refine x_dup C dX11_isDeeper_12 rfl ?_
    refine x_getfield C dX11_isDeeper_13 fX11_184 (rH_g0 hd) rfl ?_
    refine x_iconst (v := 1) C dX11_isDeeper_16 (by decide) ?_
    refine x_iadd C dX11_isDeeper_17 ?_
    rw [nI_1]
    refine x_putfield C dX11_isDeeper_18 fX11_184 (rH_g0 hd) rfl rfl (Nat.le_of_ble_eq_true rfl) ?_
    refine x_to (rH_dn hd) ?_
    refine x_to (show _ = rH M o r Ev (((R.1.1, R.1.2 + 1), R.2)) from rfl) ?_
    refine x_aload_n C dX11_isDeeper_21 rfl rfl ?_
    refine x_dup C dX11_isDeeper_22 rfl ?_
    refine x_getfield C dX11_isDeeper_23 fX11_131 (rH_g0 hd) rfl ?_
    refine x_iconst (v := 1) C dX11_isDeeper_26 (by decide) ?_
    refine x_iadd C dX11_isDeeper_27 ?_
    rw [nI_1]
    refine x_putfield C dX11_isDeeper_28 fX11_131 (rH_g0 hd) rfl rfl (Nat.le_of_ble_eq_true rfl) ?_
    refine x_to (rH_adv hd) ?_
    refine x_to (show _ = rH M o r Ev (((R.1.1 + 1, R.1.2 + 1), R.2)) from rfl) ?_
    refine x_iconst (v := 1) C dX11_isDeeper_31 (by decide) ?_
    refine x_zret C E dX11_isDeeper_32 rfl ?_
    exact ⟨by rw [if_pos c6], by unfold r_deep; rw [if_neg c6]⟩
  · have c6 : R.1.2 = 8 := (nI_eq (by omega) (by omega)).mp (show nI R.1.2 = nI 8 from c6)
    refine x_iconst (v := 0) C dX11_isDeeper_9 (by decide) ?_
    refine x_zret C E dX11_isDeeper_10 rfl ?_
    exact ⟨by rw [if_neg (fun h => h c6)], by unfold r_deep; rw [if_pos c6]⟩
set_option maxHeartbeats 4000000 in
set_option maxRecDepth 100000 in
theorem c_X11_numberAt {l : Launch} {Y0 : x_Y} (hO : x_Ok Y0) {M : x_M} {o r i : Nat} {Ev : rE} {R : rS} (hi : i < 401) (hin : r_in Ev i) (hb : rB M o r Ev R) : x_C l Y0 yX11_numberAt cX11_numberAt 4 (some .int) 1 0 0 [.ref o, .int (nI i)] M (fun u M1 => u = some (.int ((tE Ev).2 i)) ∧ M1 = M) := by
  refine x_start hO (by decide +kernel) (Nat.le_of_ble_eq_true rfl) (fun K C E => ?_)
  obtain ⟨p, m, e1, e2, hpm⟩ := hin
  have en : (tE Ev).2 i = r_nmF (Ev.2 20) p m := by show r_num Ev i = _; unfold r_num; rw [e1, e2, nI_clamp (by omega), nI_clamp (by omega)]
  have lp : ∀ (w k : Nat) (z v : Int32), k + w = m → z = nI k → v = r_nmF (Ev.2 20) p k → x_X K 4 0 0 4 [(0, .ref o), (1, .int (nI i)), (2, .int v), (3, .int z)] [] M := by
    intro w
    induction w with
    | zero =>
      intro k z v hk hz hv
      subst hz
      have e : k = m := by omega
      subst e
      refine x_iload_n C dX11_numberAt_4 rfl rfl ?_
      refine x_aload_n C dX11_numberAt_5 rfl rfl ?_
      refine x_getfield C dX11_numberAt_6 fX11_23 (hb.1 0 _ rfl) rfl ?_
      refine x_iload_n C dX11_numberAt_9 rfl rfl ?_
      refine x_iaload C dX11_numberAt_10 (hb.1 4 _ rfl) (nI_in hi (by decide)) ?_
      rw [nI_clamp (show i < 2 ^ 31 by omega), e2]
      refine x_icmp_ge (tgt := 42) C dX11_numberAt_11 (by decide) (fun c11 => ?_) (fun c11 => absurd (nI_le (Nat.le_refl _) (by omega)) c11)
      refine x_iload_n C dX11_numberAt_42 rfl rfl ?_
      refine x_iret C E dX11_numberAt_43 ?_
      exact ⟨by rw [en, hv], rfl⟩
    | succ w ih =>
      intro k z v hk hz hv
      subst hz
      refine x_iload_n C dX11_numberAt_4 rfl rfl ?_
      refine x_aload_n C dX11_numberAt_5 rfl rfl ?_
      refine x_getfield C dX11_numberAt_6 fX11_23 (hb.1 0 _ rfl) rfl ?_
      refine x_iload_n C dX11_numberAt_9 rfl rfl ?_
      refine x_iaload C dX11_numberAt_10 (hb.1 4 _ rfl) (nI_in hi (by decide)) ?_
      rw [nI_clamp (show i < 2 ^ 31 by omega), e2]
      refine x_icmp_ge (tgt := 42) C dX11_numberAt_11 (by decide) (fun c11 => absurd c11 (nI_ge (by omega) (by omega))) (fun c11 => ?_)
      refine x_bipush (v := 10) C dX11_numberAt_14 (by decide) ?_
      refine x_iload_n C dX11_numberAt_16 rfl rfl ?_
      refine x_imul C dX11_numberAt_17 ?_
      refine x_aload_n C dX11_numberAt_18 rfl rfl ?_
      refine x_getfield C dX11_numberAt_19 fX11_9 (hb.1 0 _ rfl) rfl ?_
      refine x_aload_n C dX11_numberAt_22 rfl rfl ?_
      refine x_getfield C dX11_numberAt_23 fX11_20 (hb.1 0 _ rfl) rfl ?_
      refine x_iload_n C dX11_numberAt_26 rfl rfl ?_
      refine x_iaload C dX11_numberAt_27 (hb.1 3 _ rfl) (nI_in hi (by decide)) ?_
      rw [nI_clamp (show i < 2 ^ 31 by omega), e1]
      refine x_iload_n C dX11_numberAt_28 rfl rfl ?_
      refine x_iadd C dX11_numberAt_29 ?_
      rw [nI_add]
      refine x_iaload C dX11_numberAt_30 (hb.1 1 _ rfl) (nI_in (show p + k < 2000 by omega) (by decide)) ?_
      rw [nI_clamp (show p + k < 2 ^ 31 by omega)]
      refine x_iadd C dX11_numberAt_31 ?_
      refine x_bipush (v := 48) C dX11_numberAt_32 (by decide) ?_
      refine x_isub C dX11_numberAt_34 ?_
      refine x_istore_n C dX11_numberAt_35 rfl rfl (by decide) ?_
      refine x_iinc (v := 1) C dX11_numberAt_36 rfl (by decide) rfl (by decide) ?_
      refine x_goto (tgt := 4) C dX11_numberAt_39 (by decide) ?_
      exact ih (k + 1) _ _ (by omega) (nI_1 k) (by rw [hv]; rfl)
  refine x_iconst (v := 0) C dX11_numberAt_0 (by decide) ?_
  refine x_istore_n C dX11_numberAt_1 rfl rfl (by decide) ?_
  refine x_iconst (v := 0) C dX11_numberAt_2 (by decide) ?_
  refine x_istore_n C dX11_numberAt_3 rfl rfl (by decide) ?_
  exact lp m 0 0 0 (by omega) rfl rfl
