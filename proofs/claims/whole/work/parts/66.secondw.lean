set_option maxHeartbeats 4000000 in
set_option maxRecDepth 100000 in
theorem c_X11_isSame {l : Launch} {Y0 : x_Y} (hO : x_Ok Y0) {M : x_M} {o r i j : Nat} {Ev : rE} {R : rS} (hb : rB M o r Ev R) (hi : i < 401) (hj : j < 401) (hii : r_in Ev i) (hij : r_in Ev j) : x_C l Y0 yX11_isSame cX11_isSame 4 (some .boolean) 1 0 0 [.ref o, .int (nI i), .int (nI j)] M (fun u M1 => u = some (.int (h_b (r_same Ev i j))) ∧ M1 = M) := by
  refine x_start hO (by decide +kernel) (Nat.le_of_ble_eq_true rfl) (fun K C E => ?_)
  obtain ⟨p, m, e1, e2, hpm⟩ := hii
  obtain ⟨q, m2, e3, e4, hqm⟩ := hij
  have en : r_same Ev i j = (decide (nI m = nI m2) && h_all (fun k => decide (Ev.2 20 (p + k) = Ev.2 20 (q + k))) m) := by unfold r_same; rw [e1, e2, e3, e4, nI_clamp (by omega), nI_clamp (by omega), nI_clamp (by omega)]
  have lp : m = m2 → ∀ (w k : Nat) (z : Int32), k + w = m → z = nI k → h_all (fun k => decide (Ev.2 20 (p + k) = Ev.2 20 (q + k))) k = true → x_X K 4 0 0 19 [(0, .ref o), (1, .int (nI i)), (2, .int (nI j)), (3, .int z)] [] M := by
    intro hm w
    subst hm
    induction w with
    | zero =>
      intro k z hk hz ha
      subst hz
      have e : k = m := by omega
      subst e
      refine x_iload_n C dX11_isSame_19 rfl rfl ?_
      refine x_aload_n C dX11_isSame_20 rfl rfl ?_
      refine x_getfield C dX11_isSame_21 fX11_23 (hb.1 0 _ rfl) rfl ?_
      refine x_iload_n C dX11_isSame_24 rfl rfl ?_
      refine x_iaload C dX11_isSame_25 (hb.1 4 _ rfl) (nI_in hi (by decide)) ?_
      rw [nI_clamp (show i < 2 ^ 31 by omega), e2]
      refine x_icmp_ge (tgt := 66) C dX11_isSame_26 (by decide) (fun c26 => ?_) (fun c26 => absurd (nI_le (Nat.le_refl _) (by omega)) c26)
      refine x_iconst (v := 1) C dX11_isSame_66 (by decide) ?_
      refine x_zret C E dX11_isSame_67 rfl ?_
      exact ⟨by rw [en, ha, decide_eq_true rfl]; rfl, rfl⟩
    | succ w ih =>
      intro k z hk hz ha
      subst hz
      refine x_iload_n C dX11_isSame_19 rfl rfl ?_
      refine x_aload_n C dX11_isSame_20 rfl rfl ?_
      refine x_getfield C dX11_isSame_21 fX11_23 (hb.1 0 _ rfl) rfl ?_
      refine x_iload_n C dX11_isSame_24 rfl rfl ?_
      refine x_iaload C dX11_isSame_25 (hb.1 4 _ rfl) (nI_in hi (by decide)) ?_
      rw [nI_clamp (show i < 2 ^ 31 by omega), e2]
      refine x_icmp_ge (tgt := 66) C dX11_isSame_26 (by decide) (fun c26 => absurd c26 (nI_ge (by omega) (by omega))) (fun c26 => ?_)
      refine x_aload_n C dX11_isSame_29 rfl rfl ?_
      refine x_getfield C dX11_isSame_30 fX11_9 (hb.1 0 _ rfl) rfl ?_
      refine x_aload_n C dX11_isSame_33 rfl rfl ?_
      refine x_getfield C dX11_isSame_34 fX11_20 (hb.1 0 _ rfl) rfl ?_
      refine x_iload_n C dX11_isSame_37 rfl rfl ?_
      refine x_iaload C dX11_isSame_38 (hb.1 3 _ rfl) (nI_in hi (by decide)) ?_
      rw [nI_clamp (show i < 2 ^ 31 by omega), e1]
      refine x_iload_n C dX11_isSame_39 rfl rfl ?_
      refine x_iadd C dX11_isSame_40 ?_
      rw [nI_add]
      refine x_iaload C dX11_isSame_41 (hb.1 1 _ rfl) (nI_in (show p + k < 2000 by omega) (by decide)) ?_
      rw [nI_clamp (show p + k < 2 ^ 31 by omega)]
      refine x_aload_n C dX11_isSame_42 rfl rfl ?_
      refine x_getfield C dX11_isSame_43 fX11_9 (hb.1 0 _ rfl) rfl ?_
      refine x_aload_n C dX11_isSame_46 rfl rfl ?_
      refine x_getfield C dX11_isSame_47 fX11_20 (hb.1 0 _ rfl) rfl ?_
      refine x_iload_n C dX11_isSame_50 rfl rfl ?_
      refine x_iaload C dX11_isSame_51 (hb.1 3 _ rfl) (nI_in hj (by decide)) ?_
      rw [nI_clamp (show j < 2 ^ 31 by omega), e3]
      refine x_iload_n C dX11_isSame_52 rfl rfl ?_
      refine x_iadd C dX11_isSame_53 ?_
      rw [nI_add]
      refine x_iaload C dX11_isSame_54 (hb.1 1 _ rfl) (nI_in (show q + k < 2000 by omega) (by decide)) ?_
      rw [nI_clamp (show q + k < 2 ^ 31 by omega)]
      refine x_icmp_eq (tgt := 60) C dX11_isSame_55 (by decide) (fun c55 => ?_) (fun c55 => ?_)
      · refine x_iinc (v := 1) C dX11_isSame_60 rfl (by decide) rfl (by decide) ?_
        refine x_goto (tgt := 19) C dX11_isSame_63 (by decide) ?_
        exact ih (k + 1) _ (by omega) (nI_1 k) (by show (h_all (fun k => decide (Ev.2 20 (p + k) = Ev.2 20 (q + k))) k && decide (Ev.2 20 (p + k) = Ev.2 20 (q + k))) = true; rw [ha, decide_eq_true c55]; rfl)
      · refine x_iconst (v := 0) C dX11_isSame_58 (by decide) ?_
        refine x_zret C E dX11_isSame_59 rfl ?_
        exact ⟨by rw [en, h_all_no (j := k) (decide_eq_false c55) m (by omega), Bool.and_false]; rfl, rfl⟩
  refine x_aload_n C dX11_isSame_0 rfl rfl ?_
  refine x_getfield C dX11_isSame_1 fX11_23 (hb.1 0 _ rfl) rfl ?_
  refine x_iload_n C dX11_isSame_4 rfl rfl ?_
  refine x_iaload C dX11_isSame_5 (hb.1 4 _ rfl) (nI_in hi (by decide)) ?_
  rw [nI_clamp (show i < 2 ^ 31 by omega), e2]
  refine x_aload_n C dX11_isSame_6 rfl rfl ?_
  refine x_getfield C dX11_isSame_7 fX11_23 (hb.1 0 _ rfl) rfl ?_
  refine x_iload_n C dX11_isSame_10 rfl rfl ?_
  refine x_iaload C dX11_isSame_11 (hb.1 4 _ rfl) (nI_in hj (by decide)) ?_
  rw [nI_clamp (show j < 2 ^ 31 by omega), e4]
  refine x_icmp_eq (tgt := 17) C dX11_isSame_12 (by decide) (fun c12 => ?_) (fun c12 => ?_)
  · refine x_iconst (v := 0) C dX11_isSame_17 (by decide) ?_
    refine x_istore_n C dX11_isSame_18 rfl rfl (by decide) ?_
    have hm := (nI_eq (by omega) (by omega)).mp c12
    exact lp hm m 0 0 (by omega) rfl rfl
  · refine x_iconst (v := 0) C dX11_isSame_15 (by decide) ?_
    refine x_zret C E dX11_isSame_16 rfl ?_
    exact ⟨by rw [en, decide_eq_false c12]; rfl, rfl⟩
set_option maxHeartbeats 4000000 in
set_option maxRecDepth 100000 in
theorem c_X11_told {l : Launch} {Y0 : x_Y} (hO : x_Ok Y0) {M : x_M} {o r i : Nat} {Ev : rE} {R : rS} (hb : rB M o r Ev R) (hi : i < 401) (hin : ∀ k, k ≤ i → r_in Ev k) {a : Int32} : x_C l Y0 yX11_told cX11_told 5 (some .int) 2 0 0 [.ref o, .int (nI i), .int a] M (fun u M1 => u = some (.int (r_tld Ev R i a)) ∧ M1 = M) := by
  refine x_start hO (by decide +kernel) (Nat.le_of_ble_eq_true rfl) (fun K C E => ?_)
  have lp : ∀ (w k n : Nat) (z v : Int32), k + w = i → z = nI k → v = nI n → r_tld Ev R i a = r_tdl Ev R.2.2.2.1 i a w k n → x_X K 5 0 0 5 [(0, .ref o), (1, .int (nI i)), (2, .int a), (3, .int v), (4, .int z)] [] M := by
    intro w
    induction w with
    | zero =>
      intro k n z v hk hz hv hq
      subst hz
      subst hv
      have e : k = i := by omega
      subst e
      refine x_iload C dX11_told_5 rfl ?_
      refine x_iload_n C dX11_told_7 rfl rfl ?_
      refine x_icmp_ge (tgt := 46) C dX11_told_8 (by decide) (fun c8 => ?_) (fun c8 => absurd (nI_le (Nat.le_refl _) (by omega)) c8)
      refine x_iconst (v := (-1)) C dX11_told_46 (by decide) ?_
      refine x_iret C E dX11_told_47 ?_
      exact ⟨by rw [hq]; simp only [r_tdl], rfl⟩
    | succ w ih =>
      intro k n z v hk hz hv hq
      subst hz
      subst hv
      refine x_iload C dX11_told_5 rfl ?_
      refine x_iload_n C dX11_told_7 rfl rfl ?_
      refine x_icmp_ge (tgt := 46) C dX11_told_8 (by decide) (fun c8 => absurd c8 (nI_ge (by omega) (by omega))) (fun c8 => ?_)
      refine x_aload_n C dX11_told_11 rfl rfl ?_
      refine x_getfield C dX11_told_12 fX11_26 (hb.1 0 _ rfl) rfl ?_
      refine x_iload C dX11_told_15 rfl ?_
      refine x_iaload C dX11_told_17 (hb.1 5 _ rfl) (nI_in (show k < 401 by omega) (by decide)) ?_
      rw [nI_clamp (show k < 2 ^ 31 by omega)]
      refine x_iload_n C dX11_told_18 rfl rfl ?_
      refine x_icmp_eq (tgt := 25) C dX11_told_19 (by decide) (fun c19 => ?_) (fun c19 => ?_)
      · refine x_aload_n C dX11_told_25 rfl rfl ?_
        refine x_iload C dX11_told_26 rfl ?_
        refine x_iload_n C dX11_told_28 rfl rfl ?_
        refine x_callV2 C dX11_told_29 kX11_218 (c_X11_isSame hO hb (show k < 401 by omega) hi (hin k (by omega)) (hin i (Nat.le_refl _))) (hb.1 0 _ rfl) rfl (by decide) ⟨Nat.zero_le _, Nat.zero_le _⟩ (Nat.le_of_ble_eq_true rfl) ?_
        rintro _ _ ⟨rfl, rfl⟩
        refine x_if_eq (tgt := 37) C dX11_told_32 (by decide) (fun c32 => ?_) (fun c32 => ?_)
        · have c32 := b_n c32
          refine x_iinc (v := 1) C dX11_told_37 rfl (by decide) rfl (by decide) ?_
          refine x_iinc (v := 1) C dX11_told_40 rfl (by decide) rfl (by decide) ?_
          refine x_goto (tgt := 5) C dX11_told_43 (by decide) ?_
          refine x_take 5 ?_
          exact ih (k + 1) (n + 1) _ _ (by omega) (nI_1 k) (nI_1 n) (by rw [hq]; simp only [r_tdl, if_pos c19, if_neg c32, Bool.false_eq_true, if_false])
        · have c32 := b_y c32
          refine x_iload_n C dX11_told_35 rfl rfl ?_
          refine x_iret C E dX11_told_36 ?_
          exact ⟨by rw [hq]; simp only [r_tdl, if_pos c19, if_pos c32], rfl⟩
      · refine x_goto (tgt := 40) C dX11_told_22 (by decide) ?_
        refine x_iinc (v := 1) C dX11_told_40 rfl (by decide) rfl (by decide) ?_
        refine x_goto (tgt := 5) C dX11_told_43 (by decide) ?_
        refine x_take 5 ?_
        exact ih (k + 1) n _ _ (by omega) (nI_1 k) rfl (by rw [hq]; simp only [r_tdl, if_neg c19])
  refine x_iconst (v := 0) C dX11_told_0 (by decide) ?_
  refine x_istore_n C dX11_told_1 rfl rfl (by decide) ?_
  refine x_iconst (v := 0) C dX11_told_2 (by decide) ?_
  refine x_istore C dX11_told_3 rfl (by decide) ?_
  refine x_take 5 ?_
  exact lp i 0 0 0 0 (by omega) rfl rfl rfl
set_option maxHeartbeats 4000000 in
set_option maxRecDepth 100000 in
theorem c_X11_look {l : Launch} {Y0 : x_Y} (hO : x_Ok Y0) {M : x_M} {o r i : Nat} {Ev : rE} {R : rS} (hd : o + 7 ≤ r) (hb : rB M o r Ev R) (hi : i < 401) (hin : ∀ k, k ≤ i → r_in Ev k) {a : Int32} : x_C l Y0 yX11_look cX11_look 3 (some .int) 3 0 0 [.ref o, .int (nI i), .int a] M (fun u M1 => u = some (.int (r_lk Ev R i a)) ∧ M1 = rH M o r (m_E Ev i (r_tld Ev R i a)) R) := by
  refine x_start hO (by decide +kernel) (Nat.le_of_ble_eq_true rfl) (fun K C E => ?_)
  refine x_to (rH_self hb).symm ?_
  refine x_aload_n C dX11_look_0 rfl rfl ?_
  refine x_getfield C dX11_look_1 fX11_29 (rH_g0 hd) rfl ?_
  refine x_iload_n C dX11_look_4 rfl rfl ?_
  refine x_aload_n C dX11_look_5 rfl rfl ?_
  refine x_iload_n C dX11_look_6 rfl rfl ?_
  refine x_iload_n C dX11_look_7 rfl rfl ?_
  refine x_callV2 C dX11_look_8 kX11_221 (c_X11_told hO (rH_B hd) hi hin) (rH_g0 hd) rfl (by decide) ⟨Nat.zero_le _, Nat.zero_le _⟩ (Nat.le_of_ble_eq_true rfl) ?_
  rintro _ _ ⟨rfl, rfl⟩
  refine x_iastore C dX11_look_11 (rH_g6 hd) (nI_in hi (by decide)) ?_
  rw [nI_clamp (show i < 2 ^ 31 by omega)]
  refine x_to (rH_mn hd) ?_
  refine x_aload_n C dX11_look_12 rfl rfl ?_
  refine x_getfield C dX11_look_13 fX11_29 (rH_g0 hd) rfl ?_
  refine x_iload_n C dX11_look_16 rfl rfl ?_
  refine x_iaload C dX11_look_17 (rH_g6 hd) (nI_in hi (by decide)) ?_
  rw [nI_clamp (show i < 2 ^ 31 by omega)]
  refine x_topi (r_tld Ev R i a) (show h_u Ev.2 16 i (r_tld Ev R i a) 16 i = _ from h_u_eq) ?_
  refine x_iconst (v := (-1)) C dX11_look_18 (by decide) ?_
  refine x_icmp_ne (tgt := 26) C dX11_look_19 (by decide) (fun c19 => ?_) (fun c19 => ?_)
  · refine x_iconst (v := 0) C dX11_look_26 (by decide) ?_
    refine x_iret C E dX11_look_27 ?_
    exact ⟨by unfold r_lk; rw [if_neg c19], rfl⟩
  · refine x_iconst (v := 3) C dX11_look_22 (by decide) ?_
    refine x_goto (tgt := 27) C dX11_look_23 (by decide) ?_
    refine x_iret C E dX11_look_27 ?_
    exact ⟨by unfold r_lk; rw [if_pos c19], rfl⟩
set_option maxHeartbeats 4000000 in
set_option maxRecDepth 100000 in
theorem c_X11_isNew {l : Launch} {Y0 : x_Y} (hO : x_Ok Y0) {M : x_M} {o r i : Nat} {Ev : rE} {R : rS} (hb : rB M o r Ev R) (hi : i < 401) (hin : ∀ k, k ≤ i → r_in Ev k) {c m : Int32} : x_C l Y0 yX11_isNew cX11_isNew 4 (some .int) 3 0 0 [.ref o, .int (nI i), .int c, .int m] M (fun u M1 => u = some (.int (r_new Ev R i c m)) ∧ M1 = M) := by
  refine x_start hO (by decide +kernel) (Nat.le_of_ble_eq_true rfl) (fun K C E => ?_)
  refine x_aload_n C dX11_isNew_0 rfl rfl ?_
  refine x_iload_n C dX11_isNew_1 rfl rfl ?_
  refine x_iconst (v := 1) C dX11_isNew_2 (by decide) ?_
  refine x_callV2 C dX11_isNew_3 kX11_221 (c_X11_told hO hb hi hin) (hb.1 0 _ rfl) rfl (by decide) ⟨Nat.zero_le _, Nat.zero_le _⟩ (Nat.le_of_ble_eq_true rfl) ?_
  rintro _ _ ⟨rfl, rfl⟩
  refine x_iconst (v := (-1)) C dX11_isNew_6 (by decide) ?_
  refine x_icmp_ne (tgt := 20) C dX11_isNew_7 (by decide) (fun c7 => ?_) (fun c7 => ?_)
  · refine x_iconst (v := 2) C dX11_isNew_20 (by decide) ?_
    refine x_goto (tgt := 34) C dX11_isNew_21 (by decide) ?_
    refine x_iret C E dX11_isNew_34 ?_
    exact ⟨by unfold r_new; rw [if_neg c7], rfl⟩
  · refine x_aload_n C dX11_isNew_10 rfl rfl ?_
    refine x_iload_n C dX11_isNew_11 rfl rfl ?_
    refine x_iconst (v := 2) C dX11_isNew_12 (by decide) ?_
    refine x_callV2 C dX11_isNew_13 kX11_221 (c_X11_told hO hb hi hin) (hb.1 0 _ rfl) rfl (by decide) ⟨Nat.zero_le _, Nat.zero_le _⟩ (Nat.le_of_ble_eq_true rfl) ?_
    rintro _ _ ⟨rfl, rfl⟩
    refine x_iconst (v := (-1)) C dX11_isNew_16 (by decide) ?_
    refine x_icmp_eq (tgt := 24) C dX11_isNew_17 (by decide) (fun c17 => ?_) (fun c17 => ?_)
    · refine x_iload_n C dX11_isNew_24 rfl rfl ?_
      refine x_iload_n C dX11_isNew_25 rfl rfl ?_
      refine x_icmp_ne (tgt := 33) C dX11_isNew_26 (by decide) (fun c26 => ?_) (fun c26 => ?_)
      · refine x_iconst (v := 0) C dX11_isNew_33 (by decide) ?_
        refine x_iret C E dX11_isNew_34 ?_
        exact ⟨by unfold r_new; rw [if_pos c7, if_pos c17, if_neg c26], rfl⟩
      · refine x_iconst (v := 4) C dX11_isNew_29 (by decide) ?_
        refine x_goto (tgt := 34) C dX11_isNew_30 (by decide) ?_
        refine x_iret C E dX11_isNew_34 ?_
        exact ⟨by unfold r_new; rw [if_pos c7, if_pos c17, if_pos c26], rfl⟩
    · refine x_iconst (v := 2) C dX11_isNew_20 (by decide) ?_
      refine x_goto (tgt := 34) C dX11_isNew_21 (by decide) ?_
      refine x_iret C E dX11_isNew_34 ?_
      exact ⟨by unfold r_new; rw [if_pos c7, if_neg c17], rfl⟩
