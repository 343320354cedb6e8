set_option maxHeartbeats 4000000 in
set_option maxRecDepth 100000 in
theorem c_X11_inRange {l : Launch} {Y0 : x_Y} (hO : x_Ok Y0) {M : x_M} {o r i : Nat} {Ev : rE} {R : rS} (hi : i < 401) (hin : r_in Ev i) (hb : rB M o r Ev R) {a b : Int32} : x_C l Y0 yX11_inRange cX11_inRange 4 (some .int) 2 0 0 [.ref o, .int (nI i), .int a, .int b] M (fun u M1 => u = some (.int (r_rng Ev i a b)) ∧ M1 = M) := by
  refine x_start hO (by decide +kernel) (Nat.le_of_ble_eq_true rfl) (fun K C E => ?_)
  refine x_aload_n C dX11_inRange_0 rfl rfl ?_
  refine x_iload_n C dX11_inRange_1 rfl rfl ?_
  refine x_callV1 C dX11_inRange_2 kX11_211 (c_X11_numberAt hO hi hin hb) (hb.1 0 _ rfl) rfl (by decide) ⟨Nat.zero_le _, Nat.zero_le _⟩ (Nat.le_of_ble_eq_true rfl) ?_
  rintro _ _ ⟨rfl, rfl⟩
  refine x_iload_n C dX11_inRange_5 rfl rfl ?_
  refine x_iload_n C dX11_inRange_6 rfl rfl ?_
  refine x_callS3 C dX11_inRange_7 kX11_66 (c_X11_isIn hO) (by decide) ⟨Nat.zero_le _, Nat.zero_le _⟩ (Nat.le_of_ble_eq_true rfl) ?_
  rintro _ _ ⟨rfl, rfl⟩
  refine x_if_eq (tgt := 17) C dX11_inRange_10 (by decide) (fun c10 => ?_) (fun c10 => ?_)
  · have c10 := b_n c10
    refine x_iconst (v := 5) C dX11_inRange_17 (by decide) ?_
    refine x_iret C E dX11_inRange_18 ?_
    exact ⟨by unfold r_rng; rw [if_neg c10], rfl⟩
  · have c10 := b_y c10
    refine x_iconst (v := 0) C dX11_inRange_13 (by decide) ?_
    refine x_goto (tgt := 18) C dX11_inRange_14 (by decide) ?_
    refine x_iret C E dX11_inRange_18 ?_
    exact ⟨by unfold r_rng; rw [if_pos c10], rfl⟩
set_option maxHeartbeats 4000000 in
set_option maxRecDepth 100000 in
theorem c_X11_newDrone {l : Launch} {Y0 : x_Y} (hO : x_Ok Y0) {M : x_M} {o r i : Nat} {Ev : rE} {R : rS} (hd : o + 7 ≤ r) (hb : rB M o r Ev R) (hi : i < 401) (hin : ∀ k, k ≤ i → r_in Ev k) {nd : Nat} (h2 : i + 2 < 401) (hi2 : r_in Ev (i + 2)) (hc : Ev.2 10 0 = nI nd) (h8 : nd ≤ 8) : x_C l Y0 yX11_newDrone cX11_newDrone 3 (some .int) 4 0 0 [.ref o, .int (nI i)] M (fun u M1 => u = some (.int (r_new Ev R i (nI nd) 8)) ∧ M1 = rH M o r (if r_new Ev R i (nI nd) 8 = 0 then e_dr Ev i nd else Ev) R) := by
  refine x_start hO (by decide +kernel) (Nat.le_of_ble_eq_true rfl) (fun K C E => ?_)
  refine x_to (rH_self hb).symm ?_
  refine x_aload_n C dX11_newDrone_0 rfl rfl ?_
  refine x_iload_n C dX11_newDrone_1 rfl rfl ?_
  refine x_aload_n C dX11_newDrone_2 rfl rfl ?_
  refine x_getfield C dX11_newDrone_3 fX11_39 (rH_g0 hd) rfl ?_
  refine x_getfield C dX11_newDrone_6 fX11_63 rH_p0 rfl ?_
  refine x_topi (nI nd) hc ?_
  refine x_bipush (v := 8) C dX11_newDrone_9 (by decide) ?_
  refine x_callV3 C dX11_newDrone_11 kX11_224 (c_X11_isNew hO (rH_B hd) hi hin) (rH_g0 hd) rfl (by decide) ⟨Nat.zero_le _, Nat.zero_le _⟩ (Nat.le_of_ble_eq_true rfl) ?_
  rintro _ _ ⟨rfl, rfl⟩
  refine x_istore_n C dX11_newDrone_14 rfl rfl (by decide) ?_
  refine x_iload_n C dX11_newDrone_15 rfl rfl ?_
  refine x_if_le (tgt := 21) C dX11_newDrone_16 (by decide) (fun c16 => ?_) (fun c16 => ?_)
  · have c16 : r_new Ev R i (nI nd) 8 = 0 := by rcases r_new_c (E := Ev) (R := R) (i := i) (c := nI nd) (m := 8) with q | q | q; exact q; rw [q] at c16; exact absurd c16 (by decide); rw [q] at c16; exact absurd c16 (by decide)
    have hd9 : nd < 8 := r_new_lt c16 h8
    refine x_aload_n C dX11_newDrone_21 rfl rfl ?_
    refine x_getfield C dX11_newDrone_22 fX11_39 (rH_g0 hd) rfl ?_
    refine x_getfield C dX11_newDrone_25 fX11_228 rH_p0 rfl ?_
    refine x_aload_n C dX11_newDrone_28 rfl rfl ?_
    refine x_getfield C dX11_newDrone_29 fX11_39 (rH_g0 hd) rfl ?_
    refine x_getfield C dX11_newDrone_32 fX11_63 rH_p0 rfl ?_
    refine x_topi (nI nd) hc ?_
    refine x_aload_n C dX11_newDrone_35 rfl rfl ?_
    refine x_iload_n C dX11_newDrone_36 rfl rfl ?_
    refine x_iconst (v := 2) C dX11_newDrone_37 (by decide) ?_
    refine x_iadd C dX11_newDrone_38 ?_
    rw [nI_p2]
    refine x_callV1 C dX11_newDrone_39 kX11_211 (c_X11_numberAt hO h2 hi2 (rH_B hd)) (rH_g0 hd) rfl (by decide) ⟨Nat.zero_le _, Nat.zero_le _⟩ (Nat.le_of_ble_eq_true rfl) ?_
    rintro _ _ ⟨rfl, rfl⟩
    refine x_iastore C dX11_newDrone_42 (rH_r 1 rfl) (nI_in hd9 (by decide)) ?_
    rw [nI_clamp (show nd < 2 ^ 31 by omega)]
    refine x_to (show x_st (rH M o r Ev R) (r + 1) _ = rH M o r (Ev.1, h_u Ev.2 0 nd ((tE Ev).2 (i + 2))) R from rH_sr 1 (Ev.1, h_u Ev.2 0 nd ((tE Ev).2 (i + 2))) R rfl rfl (by decide)) ?_
    refine x_aload_n C dX11_newDrone_43 rfl rfl ?_
    refine x_getfield C dX11_newDrone_44 fX11_39 (rH_g0 hd) rfl ?_
    refine x_dup C dX11_newDrone_47 rfl ?_
    refine x_getfield C dX11_newDrone_48 fX11_63 rH_p0 rfl ?_
    refine x_topi (nI nd) hc ?_
    refine x_iconst (v := 1) C dX11_newDrone_51 (by decide) ?_
    refine x_iadd C dX11_newDrone_52 ?_
    rw [nI_1]
    refine x_putfield C dX11_newDrone_53 fX11_63 rH_p0 rfl rfl (Nat.le_of_ble_eq_true rfl) ?_
    refine x_to (show x_st (rH M o r (Ev.1, h_u Ev.2 0 nd ((tE Ev).2 (i + 2))) R) (r + 0) _ = rH M o r (e_dr Ev i nd) R from rH_sr 0 (e_dr Ev i nd) R rfl rfl (by decide)) ?_
    refine x_iconst (v := 0) C dX11_newDrone_56 (by decide) ?_
    refine x_iret C E dX11_newDrone_57 ?_
    exact ⟨c16 ▸ rfl, by rw [if_pos c16]⟩
  · have c16 : ¬ r_new Ev R i (nI nd) 8 = 0 := fun q => c16 (by rw [q]; decide)
    refine x_iload_n C dX11_newDrone_19 rfl rfl ?_
    refine x_iret C E dX11_newDrone_20 ?_
    exact ⟨rfl, by rw [if_neg c16]⟩
set_option maxHeartbeats 4000000 in
set_option maxRecDepth 100000 in
theorem c_X11_newDeal {l : Launch} {Y0 : x_Y} (hO : x_Ok Y0) {M : x_M} {o r i : Nat} {Ev : rE} {R : rS} (hd : o + 7 ≤ r) (hb : rB M o r Ev R) (hi : i < 401) (hin : ∀ k, k ≤ i → r_in Ev k) {nk : Nat} (hc : Ev.2 10 1 = nI nk) (h6 : nk ≤ 6) : x_C l Y0 yX11_newDeal cX11_newDeal 3 (some .int) 4 0 0 [.ref o, .int (nI i)] M (fun u M1 => u = some (.int (r_new Ev R i (nI nk) 6)) ∧ M1 = rH M o r (if r_new Ev R i (nI nk) 6 = 0 then e_dl Ev nk else Ev) R) := by
  refine x_start hO (by decide +kernel) (Nat.le_of_ble_eq_true rfl) (fun K C E => ?_)
  refine x_to (rH_self hb).symm ?_
  refine x_aload_n C dX11_newDeal_0 rfl rfl ?_
  refine x_iload_n C dX11_newDeal_1 rfl rfl ?_
  refine x_aload_n C dX11_newDeal_2 rfl rfl ?_
  refine x_getfield C dX11_newDeal_3 fX11_39 (rH_g0 hd) rfl ?_
  refine x_getfield C dX11_newDeal_6 fX11_70 rH_p0 rfl ?_
  refine x_topi (nI nk) hc ?_
  refine x_bipush (v := 6) C dX11_newDeal_9 (by decide) ?_
  refine x_callV3 C dX11_newDeal_11 kX11_224 (c_X11_isNew hO (rH_B hd) hi hin) (rH_g0 hd) rfl (by decide) ⟨Nat.zero_le _, Nat.zero_le _⟩ (Nat.le_of_ble_eq_true rfl) ?_
  rintro _ _ ⟨rfl, rfl⟩
  refine x_istore_n C dX11_newDeal_14 rfl rfl (by decide) ?_
  refine x_iload_n C dX11_newDeal_15 rfl rfl ?_
  refine x_if_ne (tgt := 32) C dX11_newDeal_16 (by decide) (fun c16 => ?_) (fun c16 => ?_)
  · refine x_iload_n C dX11_newDeal_32 rfl rfl ?_
    refine x_iret C E dX11_newDeal_33 ?_
    exact ⟨rfl, by rw [if_neg c16]⟩
  · refine x_aload_n C dX11_newDeal_19 rfl rfl ?_
    refine x_getfield C dX11_newDeal_20 fX11_39 (rH_g0 hd) rfl ?_
    refine x_dup C dX11_newDeal_23 rfl ?_
    refine x_getfield C dX11_newDeal_24 fX11_70 rH_p0 rfl ?_
    refine x_topi (nI nk) hc ?_
    refine x_iconst (v := 1) C dX11_newDeal_27 (by decide) ?_
    refine x_iadd C dX11_newDeal_28 ?_
    rw [nI_1]
    refine x_putfield C dX11_newDeal_29 fX11_70 rH_p0 rfl rfl (Nat.le_of_ble_eq_true rfl) ?_
    refine x_to (show x_st (rH M o r Ev R) (r + 0) _ = rH M o r (e_dl Ev nk) R from rH_sr 0 (e_dl Ev nk) R rfl rfl (by decide)) ?_
    refine x_iload_n C dX11_newDeal_32 rfl rfl ?_
    refine x_iret C E dX11_newDeal_33 ?_
    exact ⟨rfl, by rw [if_pos c16]⟩
set_option maxHeartbeats 4000000 in
set_option maxRecDepth 100000 in
theorem c_X11_newOrder {l : Launch} {Y0 : x_Y} (hO : x_Ok Y0) {M : x_M} {o r i : Nat} {Ev : rE} {R : rS} (hd : o + 7 ≤ r) (hb : rB M o r Ev R) (hi : i < 401) {no : Nat} (hc : Ev.2 10 2 = nI no) (h16 : no ≤ 16) : x_C l Y0 yX11_newOrder cX11_newOrder 2 (some .int) 4 0 0 [.ref o, .int (nI i)] M (fun u M1 => u = some (.int (if no = 16 then 4 else 0)) ∧ M1 = rH M o r (if no = 16 then Ev else e_or Ev i no) R) := by
  refine x_start hO (by decide +kernel) (Nat.le_of_ble_eq_true rfl) (fun K C E => ?_)
  refine x_to (rH_self hb).symm ?_
  refine x_aload_n C dX11_newOrder_0 rfl rfl ?_
  refine x_getfield C dX11_newOrder_1 fX11_39 (rH_g0 hd) rfl ?_
  refine x_getfield C dX11_newOrder_4 fX11_240 rH_p0 rfl ?_
  refine x_topi (nI no) hc ?_
  refine x_bipush (v := 16) C dX11_newOrder_7 (by decide) ?_
  refine x_icmp_ne (tgt := 14) C dX11_newOrder_9 (by decide) (fun c9 => ?_) (fun c9 => ?_)
  · have c9 : ¬ no = 16 := fun q => c9 (by rw [q]; rfl)
    have hlt : no < 16 := by omega
    refine x_aload_n C dX11_newOrder_14 rfl rfl ?_
    refine x_getfield C dX11_newOrder_15 fX11_39 (rH_g0 hd) rfl ?_
    refine x_getfield C dX11_newOrder_18 fX11_243 rH_p0 rfl ?_
    refine x_aload_n C dX11_newOrder_21 rfl rfl ?_
    refine x_getfield C dX11_newOrder_22 fX11_39 (rH_g0 hd) rfl ?_
    refine x_getfield C dX11_newOrder_25 fX11_240 rH_p0 rfl ?_
    refine x_topi (nI no) hc ?_
    refine x_aload_n C dX11_newOrder_28 rfl rfl ?_
    refine x_getfield C dX11_newOrder_29 fX11_17 (rH_g0 hd) rfl ?_
    refine x_iload_n C dX11_newOrder_32 rfl rfl ?_
    refine x_iaload C dX11_newOrder_33 (rH_g2 hd) (nI_in hi (by decide)) ?_
    rw [nI_clamp (show i < 2 ^ 31 by omega)]
    refine x_iastore C dX11_newOrder_34 (rH_r 5 rfl) (nI_in hlt (by decide)) ?_
    rw [nI_clamp (show no < 2 ^ 31 by omega)]
    refine x_to (show x_st (rH M o r Ev R) (r + 5) _ = rH M o r (Ev.1, h_u Ev.2 4 no (Ev.2 12 i)) R from rH_sr 5 (Ev.1, h_u Ev.2 4 no (Ev.2 12 i)) R rfl rfl (by decide)) ?_
    refine x_aload_n C dX11_newOrder_35 rfl rfl ?_
    refine x_getfield C dX11_newOrder_36 fX11_39 (rH_g0 hd) rfl ?_
    refine x_getfield C dX11_newOrder_39 fX11_246 rH_p0 rfl ?_
    refine x_aload_n C dX11_newOrder_42 rfl rfl ?_
    refine x_getfield C dX11_newOrder_43 fX11_39 (rH_g0 hd) rfl ?_
    refine x_getfield C dX11_newOrder_46 fX11_240 rH_p0 rfl ?_
    refine x_topi (nI no) hc ?_
    refine x_bipush (v := 8) C dX11_newOrder_49 (by decide) ?_
    refine x_iastore C dX11_newOrder_51 (rH_r 6 rfl) (nI_in hlt (by decide)) ?_
    rw [nI_clamp (show no < 2 ^ 31 by omega)]
    refine x_to (show x_st (rH M o r (Ev.1, h_u Ev.2 4 no (Ev.2 12 i)) R) (r + 6) _ = rH M o r (Ev.1, h_u (h_u Ev.2 4 no (Ev.2 12 i)) 5 no 8) R from rH_sr 6 (Ev.1, h_u (h_u Ev.2 4 no (Ev.2 12 i)) 5 no 8) R rfl rfl (by decide)) ?_
    refine x_aload_n C dX11_newOrder_52 rfl rfl ?_
    refine x_getfield C dX11_newOrder_53 fX11_39 (rH_g0 hd) rfl ?_
    refine x_dup C dX11_newOrder_56 rfl ?_
    refine x_getfield C dX11_newOrder_57 fX11_240 rH_p0 rfl ?_
    refine x_topi (nI no) hc ?_
    refine x_iconst (v := 1) C dX11_newOrder_60 (by decide) ?_
    refine x_iadd C dX11_newOrder_61 ?_
    rw [nI_1]
    refine x_putfield C dX11_newOrder_62 fX11_240 rH_p0 rfl rfl (Nat.le_of_ble_eq_true rfl) ?_
    refine x_to (show x_st (rH M o r (Ev.1, h_u (h_u Ev.2 4 no (Ev.2 12 i)) 5 no 8) R) (r + 0) _ = rH M o r (e_or Ev i no) R from rH_sr 0 (e_or Ev i no) R rfl rfl (by decide)) ?_
    refine x_iconst (v := 0) C dX11_newOrder_65 (by decide) ?_
    refine x_iret C E dX11_newOrder_66 ?_
    exact ⟨by rw [if_neg c9], by rw [if_neg c9]⟩
  · have c9 : no = 16 := (nI_eq (by omega) (by omega)).mp (show nI no = nI 16 from c9)
    refine x_iconst (v := 4) C dX11_newOrder_12 (by decide) ?_
    refine x_iret C E dX11_newOrder_13 ?_
    exact ⟨by rw [if_pos c9], by rw [if_pos c9]⟩
set_option maxHeartbeats 4000000 in
set_option maxRecDepth 100000 in
theorem c_X11_ofOrder {l : Launch} {Y0 : x_Y} (hO : x_Ok Y0) {M : x_M} {o r i : Nat} {Ev : rE} {R : rS} (hd : o + 7 ≤ r) (hb : rB M o r Ev R) (hi : i < 401) (hin : ∀ k, k ≤ i → r_in Ev k) {no : Nat} (h1 : 1 ≤ i) (hc : Ev.2 10 2 = nI no) (h0 : 1 ≤ no) (h16 : no ≤ 16) : x_C l Y0 yX11_ofOrder cX11_ofOrder 3 (some .int) 4 0 0 [.ref o, .int (nI i)] M (fun u M1 => u = some (.int (r_lk Ev R i (if Ev.2 12 (i - 1) = 6 then (2 : Int32) else 1))) ∧ M1 = rH M o r (e_of Ev R i no (if Ev.2 12 (i - 1) = 6 then (2 : Int32) else 1)) R) := by
  refine x_start hO (by decide +kernel) (Nat.le_of_ble_eq_true rfl) (fun K C E => ?_)
  refine x_to (rH_self hb).symm ?_
  have j20 : ∀ (x : Int32), x = (if Ev.2 12 (i - 1) = 6 then (2 : Int32) else 1) → x_X K 3 0 0 20 [(0, .ref o), (1, .int (nI i))] [.int x, .int (nI i), .ref o] (rH M o r Ev R) := by
      intro x hx
      subst hx
      refine x_callV2 C dX11_ofOrder_20 kX11_231 (c_X11_look hO hd (rH_B hd) hi hin) (rH_g0 hd) rfl (by decide) ⟨Nat.zero_le _, Nat.zero_le _⟩ (Nat.le_of_ble_eq_true rfl) ?_
      rintro _ _ ⟨rfl, rfl⟩
      refine x_to (rH_H hd) ?_
      refine x_istore_n C dX11_ofOrder_23 rfl rfl (by decide) ?_
      refine x_aload_n C dX11_ofOrder_24 rfl rfl ?_
      refine x_getfield C dX11_ofOrder_25 fX11_39 (rH_g0 hd) rfl ?_
      refine x_getfield C dX11_ofOrder_28 fX11_246 rH_p0 rfl ?_
      refine x_aload_n C dX11_ofOrder_31 rfl rfl ?_
      refine x_getfield C dX11_ofOrder_32 fX11_39 (rH_g0 hd) rfl ?_
      refine x_getfield C dX11_ofOrder_35 fX11_240 rH_p0 rfl ?_
      refine x_topi (nI no) hc ?_
      refine x_iconst (v := 1) C dX11_ofOrder_38 (by decide) ?_
      refine x_isub C dX11_ofOrder_39 ?_
      rw [nI_s1 h0]
      refine x_aload_n C dX11_ofOrder_40 rfl rfl ?_
      refine x_getfield C dX11_ofOrder_41 fX11_29 (rH_g0 hd) rfl ?_
      refine x_iload_n C dX11_ofOrder_44 rfl rfl ?_
      refine x_iaload C dX11_ofOrder_45 (rH_g6 hd) (nI_in hi (by decide)) ?_
      rw [nI_clamp (show i < 2 ^ 31 by omega)]
      refine x_topi (r_tld Ev R i (if Ev.2 12 (i - 1) = 6 then (2 : Int32) else 1)) (show h_u Ev.2 16 i (r_tld Ev R i (if Ev.2 12 (i - 1) = 6 then (2 : Int32) else 1)) 16 i = _ from h_u_eq) ?_
      refine x_iastore C dX11_ofOrder_46 (rH_r 6 rfl) (nI_in (show no - 1 < 16 by omega) (by decide)) ?_
      rw [nI_clamp (show no - 1 < 2 ^ 31 by omega)]
      refine x_to (show x_st (rH M o r (m_E Ev i (r_tld Ev R i (if Ev.2 12 (i - 1) = 6 then (2 : Int32) else 1))) R) (r + 6) _ = rH M o r (e_of Ev R i no (if Ev.2 12 (i - 1) = 6 then (2 : Int32) else 1)) R from rH_sr 6 (e_of Ev R i no (if Ev.2 12 (i - 1) = 6 then (2 : Int32) else 1)) R rfl rfl (by decide)) ?_
      refine x_iload_n C dX11_ofOrder_47 rfl rfl ?_
      refine x_iret C E dX11_ofOrder_48 ?_
      exact ⟨rfl, rfl⟩
  refine x_aload_n C dX11_ofOrder_0 rfl rfl ?_
  refine x_iload_n C dX11_ofOrder_1 rfl rfl ?_
  refine x_aload_n C dX11_ofOrder_2 rfl rfl ?_
  refine x_getfield C dX11_ofOrder_3 fX11_17 (rH_g0 hd) rfl ?_
  refine x_iload_n C dX11_ofOrder_6 rfl rfl ?_
  refine x_iconst (v := 1) C dX11_ofOrder_7 (by decide) ?_
  refine x_isub C dX11_ofOrder_8 ?_
  rw [nI_s1 h1]
  refine x_iaload C dX11_ofOrder_9 (rH_g2 hd) (nI_in (show i - 1 < 401 by omega) (by decide)) ?_
  rw [nI_clamp (show i - 1 < 2 ^ 31 by omega)]
  refine x_bipush (v := 6) C dX11_ofOrder_10 (by decide) ?_
  refine x_icmp_ne (tgt := 19) C dX11_ofOrder_12 (by decide) (fun c12 => ?_) (fun c12 => ?_)
  · refine x_iconst (v := 1) C dX11_ofOrder_19 (by decide) ?_
    exact j20 _ (by rw [if_neg c12])
  · refine x_iconst (v := 2) C dX11_ofOrder_15 (by decide) ?_
    refine x_goto (tgt := 20) C dX11_ofOrder_16 (by decide) ?_
    exact j20 _ (by rw [if_pos c12])
