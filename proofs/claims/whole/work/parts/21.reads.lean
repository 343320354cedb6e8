set_option maxHeartbeats 4000000 in
set_option maxRecDepth 100000 in
theorem c_X8_requireDrone {l : Launch} {Y0 : x_Y} (hO : x_Ok Y0) {M : x_M} {a p : Nat} {P : PL} {A : HS} {hx sk : Nat → Int32} {ht : Int32} {Q : HS} (hP : p_ok P) (hQ : q_is Q P) (hb : x_bk M a (hvT a p P A hx sk ht)) (hp : x_bk M p (plT p Q)) {c : Nat} {fs : List Value} (hc : x_bk M c [.inr (8, fs)]) (hc2 : fs[2]? = some (.ref p)) (hc4 : fs[4]? = some (.ref a)) (hk9 : h_ok P A) {d : Nat} (hd9 : d < p_nd P) : x_C l Y0 yX8_requireDrone cX8_requireDrone 2 none 1 0 0 [.ref c, .int (nI d)] M (fun u M1 => u = none ∧ M1 = M) := by
  refine x_start hO (by decide +kernel) (Nat.le_of_ble_eq_true rfl) (fun K C E => ?_)
  have hP0 := hP
  have hQ0 := hQ
  obtain ⟨h8, h6, h16, hnp, hwho, hvb, hts⟩ := hP
  obtain ⟨hq0, hq1, hq2, hq3, hq4, hq5, hq6⟩ := hQ
  refine x_iload_n C dX8_requireDrone_0 rfl rfl ?_
  refine x_if_lt (tgt := 15) C dX8_requireDrone_1 (by decide) (fun c1 => absurd c1 (nI_pos (by omega))) (fun c1 => ?_)
  refine x_iload_n C dX8_requireDrone_4 rfl rfl ?_
  refine x_aload_n C dX8_requireDrone_5 rfl rfl ?_
  refine x_getfield C dX8_requireDrone_6 fX8_23 (hc 0 _ rfl) hc2 ?_
  refine x_getfield C dX8_requireDrone_9 fX8_82 (hp 0 _ rfl) rfl ?_
  refine x_icmp_lt (tgt := 26) C dX8_requireDrone_12 (by decide) (fun c12 => ?_) (fun c12 => absurd (by rw [hq0]; exact (Int32.not_le.mp (show ¬ nI (p_nd P) ≤ nI d from nI_ge (by omega) (by omega)))) c12)
  refine x_vret C E dX8_requireDrone_26 ?_
  exact ⟨rfl, rfl⟩
set_option maxHeartbeats 4000000 in
set_option maxRecDepth 100000 in
theorem c_X8_requireDeal {l : Launch} {Y0 : x_Y} (hO : x_Ok Y0) {M : x_M} {a p : Nat} {P : PL} {A : HS} {hx sk : Nat → Int32} {ht : Int32} {Q : HS} (hP : p_ok P) (hQ : q_is Q P) (hb : x_bk M a (hvT a p P A hx sk ht)) (hp : x_bk M p (plT p Q)) {c : Nat} {fs : List Value} (hc : x_bk M c [.inr (8, fs)]) (hc2 : fs[2]? = some (.ref p)) (hc4 : fs[4]? = some (.ref a)) (hk9 : h_ok P A) {k : Nat} (hk : k < p_nk P) : x_C l Y0 yX8_requireDeal cX8_requireDeal 2 none 1 0 0 [.ref c, .int (nI k)] M (fun u M1 => u = none ∧ M1 = M) := by
  refine x_start hO (by decide +kernel) (Nat.le_of_ble_eq_true rfl) (fun K C E => ?_)
  have hP0 := hP
  have hQ0 := hQ
  obtain ⟨h8, h6, h16, hnp, hwho, hvb, hts⟩ := hP
  obtain ⟨hq0, hq1, hq2, hq3, hq4, hq5, hq6⟩ := hQ
  refine x_iload_n C dX8_requireDeal_0 rfl rfl ?_
  refine x_if_lt (tgt := 15) C dX8_requireDeal_1 (by decide) (fun c1 => absurd c1 (nI_pos (by omega))) (fun c1 => ?_)
  refine x_iload_n C dX8_requireDeal_4 rfl rfl ?_
  refine x_aload_n C dX8_requireDeal_5 rfl rfl ?_
  refine x_getfield C dX8_requireDeal_6 fX8_23 (hc 0 _ rfl) hc2 ?_
  refine x_getfield C dX8_requireDeal_9 fX8_85 (hp 0 _ rfl) rfl ?_
  refine x_icmp_lt (tgt := 26) C dX8_requireDeal_12 (by decide) (fun c12 => ?_) (fun c12 => absurd (by rw [hq1]; exact (Int32.not_le.mp (show ¬ nI (p_nk P) ≤ nI k from nI_ge (by omega) (by omega)))) c12)
  refine x_vret C E dX8_requireDeal_26 ?_
  exact ⟨rfl, rfl⟩
set_option maxHeartbeats 4000000 in
set_option maxRecDepth 100000 in
theorem c_X8_requirePart {l : Launch} {Y0 : x_Y} (hO : x_Ok Y0) {M : x_M} {a p : Nat} {P : PL} {A : HS} {hx sk : Nat → Int32} {ht : Int32} {Q : HS} (hP : p_ok P) (hQ : q_is Q P) (hb : x_bk M a (hvT a p P A hx sk ht)) (hp : x_bk M p (plT p Q)) {c : Nat} {fs : List Value} (hc : x_bk M c [.inr (8, fs)]) (hc2 : fs[2]? = some (.ref p)) (hc4 : fs[4]? = some (.ref a)) (hk9 : h_ok P A) {k : Nat} (hk : k < p_nk P) {j : Nat} (hj : j < p_np P k) : x_C l Y0 yX8_requirePart cX8_requirePart 3 none 2 0 0 [.ref c, .int (nI k), .int (nI j)] M (fun u M1 => u = none ∧ M1 = M) := by
  refine x_start hO (by decide +kernel) (Nat.le_of_ble_eq_true rfl) (fun K C E => ?_)
  have hP0 := hP
  have hQ0 := hQ
  obtain ⟨h8, h6, h16, hnp, hwho, hvb, hts⟩ := hP
  obtain ⟨hq0, hq1, hq2, hq3, hq4, hq5, hq6⟩ := hQ
  have hk1 := hnp k hk
  refine x_aload_n C dX8_requirePart_0 rfl rfl ?_
  refine x_iload_n C dX8_requirePart_1 rfl rfl ?_
  refine x_callV1 C dX8_requirePart_2 kX8_127 (c_X8_requireDeal hO hP0 hQ0 hb hp hc hc2 hc4 hk9 hk) (hc 0 _ rfl) rfl (by decide) ⟨Nat.zero_le _, Nat.zero_le _⟩ (Nat.le_of_ble_eq_true rfl) ?_
  rintro _ _ ⟨rfl, rfl⟩
  refine x_iload_n C dX8_requirePart_5 rfl rfl ?_
  refine x_if_lt (tgt := 24) C dX8_requirePart_6 (by decide) (fun c6 => absurd c6 (nI_pos (by omega))) (fun c6 => ?_)
  refine x_iload_n C dX8_requirePart_9 rfl rfl ?_
  refine x_aload_n C dX8_requirePart_10 rfl rfl ?_
  refine x_getfield C dX8_requirePart_11 fX8_23 (hc 0 _ rfl) hc2 ?_
  refine x_getfield C dX8_requirePart_14 fX8_136 (hp 0 _ rfl) rfl ?_
  refine x_iload_n C dX8_requirePart_17 rfl rfl ?_
  refine x_callV1 C dX8_requirePart_18 kX8_114 (c_X4_get hO (by decide) (x_bk_sub hp 3 rfl)) (hp 3 _ rfl) rfl (by decide) ⟨Nat.zero_le _, Nat.zero_le _⟩ (Nat.le_of_ble_eq_true rfl) ?_
  rintro _ _ ⟨rfl, rfl⟩
  rw [rg_nI (show k < 6 by omega) (by decide), hq3 k (by omega)]
  refine x_icmp_lt (tgt := 35) C dX8_requirePart_21 (by decide) (fun c21 => ?_) (fun c21 => absurd (Int32.not_le.mp (show ¬ nI (p_np P k) ≤ nI j from nI_ge (by omega) (by omega))) c21)
  refine x_vret C E dX8_requirePart_35 ?_
  exact ⟨rfl, rfl⟩
set_option maxHeartbeats 4000000 in
set_option maxRecDepth 100000 in
theorem c_X8_requireDays {l : Launch} {Y0 : x_Y} (hO : x_Ok Y0) {M : x_M} {x : Int32} (h1 : ¬ x < 1) (h2 : x ≤ 30) : x_C l Y0 yX8_requireDays cX8_requireDays 1 none 1 0 0 [.int x] M (fun u M1 => u = none ∧ M1 = M) := by
  refine x_start hO (by decide +kernel) (Nat.le_of_ble_eq_true rfl) (fun K C E => ?_)
  refine x_iload_n C dX8_requireDays_0 rfl rfl ?_
  refine x_iconst (v := 1) C dX8_requireDays_1 (by decide) ?_
  refine x_icmp_lt (tgt := 11) C dX8_requireDays_2 (by decide) (fun c2 => absurd c2 h1) (fun c2 => ?_)
  refine x_iload_n C dX8_requireDays_5 rfl rfl ?_
  refine x_bipush (v := 30) C dX8_requireDays_6 (by decide) ?_
  refine x_icmp_le (tgt := 22) C dX8_requireDays_8 (by decide) (fun c8 => ?_) (fun c8 => absurd h2 c8)
  refine x_vret C E dX8_requireDays_22 ?_
  exact ⟨rfl, rfl⟩
set_option maxHeartbeats 4000000 in
set_option maxRecDepth 100000 in
theorem c_X8_drones {l : Launch} {Y0 : x_Y} (hO : x_Ok Y0) {M : x_M} {a p : Nat} {P : PL} {A : HS} {hx sk : Nat → Int32} {ht : Int32} {Q : HS} (hP : p_ok P) (hQ : q_is Q P) (hb : x_bk M a (hvT a p P A hx sk ht)) (hp : x_bk M p (plT p Q)) {c : Nat} {fs : List Value} (hc : x_bk M c [.inr (8, fs)]) (hc2 : fs[2]? = some (.ref p)) (hc4 : fs[4]? = some (.ref a)) (hk9 : h_ok P A) : x_C l Y0 yX8_drones cX8_drones 1 (some .int) 1 0 0 [.ref c] M (fun u M1 => u = some (.int (nI (p_nd P))) ∧ M1 = M) := by
  refine x_start hO (by decide +kernel) (Nat.le_of_ble_eq_true rfl) (fun K C E => ?_)
  have hP0 := hP
  have hQ0 := hQ
  obtain ⟨h8, h6, h16, hnp, hwho, hvb, hts⟩ := hP
  obtain ⟨hq0, hq1, hq2, hq3, hq4, hq5, hq6⟩ := hQ
  refine x_aload_n C dX8_drones_0 rfl rfl ?_
  refine x_getfield C dX8_drones_1 fX8_23 (hc 0 _ rfl) hc2 ?_
  refine x_getfield C dX8_drones_4 fX8_82 (hp 0 _ rfl) rfl ?_
  refine x_iret C E dX8_drones_7 ?_
  exact ⟨by rw [hq0], rfl⟩
set_option maxHeartbeats 4000000 in
set_option maxRecDepth 100000 in
theorem c_X8_deals {l : Launch} {Y0 : x_Y} (hO : x_Ok Y0) {M : x_M} {a p : Nat} {P : PL} {A : HS} {hx sk : Nat → Int32} {ht : Int32} {Q : HS} (hP : p_ok P) (hQ : q_is Q P) (hb : x_bk M a (hvT a p P A hx sk ht)) (hp : x_bk M p (plT p Q)) {c : Nat} {fs : List Value} (hc : x_bk M c [.inr (8, fs)]) (hc2 : fs[2]? = some (.ref p)) (hc4 : fs[4]? = some (.ref a)) (hk9 : h_ok P A) : x_C l Y0 yX8_deals cX8_deals 1 (some .int) 1 0 0 [.ref c] M (fun u M1 => u = some (.int (nI (p_nk P))) ∧ M1 = M) := by
  refine x_start hO (by decide +kernel) (Nat.le_of_ble_eq_true rfl) (fun K C E => ?_)
  have hP0 := hP
  have hQ0 := hQ
  obtain ⟨h8, h6, h16, hnp, hwho, hvb, hts⟩ := hP
  obtain ⟨hq0, hq1, hq2, hq3, hq4, hq5, hq6⟩ := hQ
  refine x_aload_n C dX8_deals_0 rfl rfl ?_
  refine x_getfield C dX8_deals_1 fX8_23 (hc 0 _ rfl) hc2 ?_
  refine x_getfield C dX8_deals_4 fX8_85 (hp 0 _ rfl) rfl ?_
  refine x_iret C E dX8_deals_7 ?_
  exact ⟨by rw [hq1], rfl⟩
set_option maxHeartbeats 4000000 in
set_option maxRecDepth 100000 in
theorem c_X8_day {l : Launch} {Y0 : x_Y} (hO : x_Ok Y0) {M : x_M} {a p : Nat} {P : PL} {A : HS} {hx sk : Nat → Int32} {ht : Int32} {Q : HS} (hP : p_ok P) (hQ : q_is Q P) (hb : x_bk M a (hvT a p P A hx sk ht)) (hp : x_bk M p (plT p Q)) {c : Nat} {fs : List Value} (hc : x_bk M c [.inr (8, fs)]) (hc2 : fs[2]? = some (.ref p)) (hc4 : fs[4]? = some (.ref a)) (hk9 : h_ok P A) : x_C l Y0 yX8_day cX8_day 1 (some .int) 1 0 0 [.ref c] M (fun u M1 => u = some (.int (A 8 0)) ∧ M1 = M) := by
  refine x_start hO (by decide +kernel) (Nat.le_of_ble_eq_true rfl) (fun K C E => ?_)
  have hP0 := hP
  have hQ0 := hQ
  obtain ⟨h8, h6, h16, hnp, hwho, hvb, hts⟩ := hP
  obtain ⟨hq0, hq1, hq2, hq3, hq4, hq5, hq6⟩ := hQ
  refine x_aload_n C dX8_day_0 rfl rfl ?_
  refine x_getfield C dX8_day_1 fX8_40 (hc 0 _ rfl) hc4 ?_
  refine x_getfield C dX8_day_4 fX8_88 (hb 0 _ rfl) rfl ?_
  refine x_iret C E dX8_day_7 ?_
  exact ⟨rfl, rfl⟩
set_option maxHeartbeats 4000000 in
set_option maxRecDepth 100000 in
theorem c_X8_ordersCarriedOut {l : Launch} {Y0 : x_Y} (hO : x_Ok Y0) {M : x_M} {a p : Nat} {P : PL} {A : HS} {hx sk : Nat → Int32} {ht : Int32} {Q : HS} (hP : p_ok P) (hQ : q_is Q P) (hb : x_bk M a (hvT a p P A hx sk ht)) (hp : x_bk M p (plT p Q)) {c : Nat} {fs : List Value} (hc : x_bk M c [.inr (8, fs)]) (hc2 : fs[2]? = some (.ref p)) (hc4 : fs[4]? = some (.ref a)) (hk9 : h_ok P A) : x_C l Y0 yX8_ordersCarriedOut cX8_ordersCarriedOut 1 (some .int) 1 0 0 [.ref c] M (fun u M1 => u = some (.int (A 8 1)) ∧ M1 = M) := by
  refine x_start hO (by decide +kernel) (Nat.le_of_ble_eq_true rfl) (fun K C E => ?_)
  have hP0 := hP
  have hQ0 := hQ
  obtain ⟨h8, h6, h16, hnp, hwho, hvb, hts⟩ := hP
  obtain ⟨hq0, hq1, hq2, hq3, hq4, hq5, hq6⟩ := hQ
  refine x_aload_n C dX8_ordersCarriedOut_0 rfl rfl ?_
  refine x_getfield C dX8_ordersCarriedOut_1 fX8_40 (hc 0 _ rfl) hc4 ?_
  refine x_getfield C dX8_ordersCarriedOut_4 fX8_91 (hb 0 _ rfl) rfl ?_
  refine x_iret C E dX8_ordersCarriedOut_7 ?_
  exact ⟨rfl, rfl⟩
set_option maxHeartbeats 4000000 in
set_option maxRecDepth 100000 in
theorem c_X8_blocked {l : Launch} {Y0 : x_Y} (hO : x_Ok Y0) {M : x_M} {a p : Nat} {P : PL} {A : HS} {hx sk : Nat → Int32} {ht : Int32} {Q : HS} (hP : p_ok P) (hQ : q_is Q P) (hb : x_bk M a (hvT a p P A hx sk ht)) (hp : x_bk M p (plT p Q)) {c : Nat} {fs : List Value} (hc : x_bk M c [.inr (8, fs)]) (hc2 : fs[2]? = some (.ref p)) (hc4 : fs[4]? = some (.ref a)) (hk9 : h_ok P A) : x_C l Y0 yX8_blocked cX8_blocked 1 (some .int) 3 0 0 [.ref c] M (fun u M1 => u = some (.int (h_blocked P A)) ∧ M1 = M) := by
  refine x_start hO (by decide +kernel) (Nat.le_of_ble_eq_true rfl) (fun K C E => ?_)
  have hP0 := hP
  have hQ0 := hQ
  obtain ⟨h8, h6, h16, hnp, hwho, hvb, hts⟩ := hP
  obtain ⟨hq0, hq1, hq2, hq3, hq4, hq5, hq6⟩ := hQ
  refine x_aload_n C dX8_blocked_0 rfl rfl ?_
  refine x_getfield C dX8_blocked_1 fX8_40 (hc 0 _ rfl) hc4 ?_
  refine x_callV0 C dX8_blocked_4 kX8_94 (c_X0_countBlocked hO hP0 hQ0 hb hp) (hb 0 _ rfl) rfl (by decide) ⟨Nat.zero_le _, Nat.zero_le _⟩ (Nat.le_of_ble_eq_true rfl) ?_
  rintro _ _ ⟨rfl, rfl⟩
  refine x_iret C E dX8_blocked_7 ?_
  exact ⟨rfl, rfl⟩
set_option maxHeartbeats 4000000 in
set_option maxRecDepth 100000 in
theorem c_X8_honey {l : Launch} {Y0 : x_Y} (hO : x_Ok Y0) {M : x_M} {a p : Nat} {P : PL} {A : HS} {hx sk : Nat → Int32} {ht : Int32} {Q : HS} (hP : p_ok P) (hQ : q_is Q P) (hb : x_bk M a (hvT a p P A hx sk ht)) (hp : x_bk M p (plT p Q)) {c : Nat} {fs : List Value} (hc : x_bk M c [.inr (8, fs)]) (hc2 : fs[2]? = some (.ref p)) (hc4 : fs[4]? = some (.ref a)) (hk9 : h_ok P A) : x_C l Y0 yX8_honey cX8_honey 1 (some .int) 3 0 0 [.ref c] M (fun u M1 => u = some (.int (h_honey P A)) ∧ M1 = M) := by
  refine x_start hO (by decide +kernel) (Nat.le_of_ble_eq_true rfl) (fun K C E => ?_)
  have hP0 := hP
  have hQ0 := hQ
  obtain ⟨h8, h6, h16, hnp, hwho, hvb, hts⟩ := hP
  obtain ⟨hq0, hq1, hq2, hq3, hq4, hq5, hq6⟩ := hQ
  refine x_aload_n C dX8_honey_0 rfl rfl ?_
  refine x_getfield C dX8_honey_1 fX8_40 (hc 0 _ rfl) hc4 ?_
  refine x_getfield C dX8_honey_4 fX8_97 (hb 0 _ rfl) rfl ?_
  refine x_aload_n C dX8_honey_7 rfl rfl ?_
  refine x_getfield C dX8_honey_8 fX8_23 (hc 0 _ rfl) hc2 ?_
  refine x_getfield C dX8_honey_11 fX8_82 (hp 0 _ rfl) rfl ?_
  rw [hq0]
  refine x_callV1 C dX8_honey_14 kX8_101 (c_X4_sum hO (by decide) h8 (x_bk_sub hb 4 rfl)) (hb 4 _ rfl) rfl (by decide) ⟨Nat.zero_le _, Nat.zero_le _⟩ (Nat.le_of_ble_eq_true rfl) ?_
  rintro _ _ ⟨rfl, rfl⟩
  refine x_iret C E dX8_honey_17 ?_
  refine ⟨?_, rfl⟩
  unfold h_honey
  rw [s_sum_congr (g := A 0) (p_nd P) (fun j hj => s_fill_in (by omega))]
set_option maxHeartbeats 4000000 in
set_option maxRecDepth 100000 in
theorem c_X8_isQueenAwake {l : Launch} {Y0 : x_Y} (hO : x_Ok Y0) {M : x_M} {a p : Nat} {P : PL} {A : HS} {hx sk : Nat → Int32} {ht : Int32} {Q : HS} (hP : p_ok P) (hQ : q_is Q P) (hb : x_bk M a (hvT a p P A hx sk ht)) (hp : x_bk M p (plT p Q)) {c : Nat} {fs : List Value} (hc : x_bk M c [.inr (8, fs)]) (hc2 : fs[2]? = some (.ref p)) (hc4 : fs[4]? = some (.ref a)) (hk9 : h_ok P A) : x_C l Y0 yX8_isQueenAwake cX8_isQueenAwake 1 (some .boolean) 1 0 0 [.ref c] M (fun u M1 => u = some (.int (1 - A 1 8)) ∧ M1 = M) := by
  refine x_start hO (by decide +kernel) (Nat.le_of_ble_eq_true rfl) (fun K C E => ?_)
  have hP0 := hP
  have hQ0 := hQ
  obtain ⟨h8, h6, h16, hnp, hwho, hvb, hts⟩ := hP
  obtain ⟨hq0, hq1, hq2, hq3, hq4, hq5, hq6⟩ := hQ
  refine x_aload_n C dX8_isQueenAwake_0 rfl rfl ?_
  refine x_getfield C dX8_isQueenAwake_1 fX8_40 (hc 0 _ rfl) hc4 ?_
  refine x_getfield C dX8_isQueenAwake_4 fX8_107 (hb 0 _ rfl) rfl ?_
  refine x_zret C E dX8_isQueenAwake_7 (by rcases hk9.1 8 with q | q <;> rw [q] <;> rfl) ?_
  exact ⟨rfl, rfl⟩
set_option maxHeartbeats 4000000 in
set_option maxRecDepth 100000 in
theorem c_X8_honeyOf {l : Launch} {Y0 : x_Y} (hO : x_Ok Y0) {M : x_M} {a p : Nat} {P : PL} {A : HS} {hx sk : Nat → Int32} {ht : Int32} {Q : HS} (hP : p_ok P) (hQ : q_is Q P) (hb : x_bk M a (hvT a p P A hx sk ht)) (hp : x_bk M p (plT p Q)) {c : Nat} {fs : List Value} (hc : x_bk M c [.inr (8, fs)]) (hc2 : fs[2]? = some (.ref p)) (hc4 : fs[4]? = some (.ref a)) (hk9 : h_ok P A) {d : Nat} (hd9 : d < p_nd P) : x_C l Y0 yX8_honeyOf cX8_honeyOf 2 (some .int) 3 0 0 [.ref c, .int (nI d)] M (fun u M1 => u = some (.int (A 0 d)) ∧ M1 = M) := by
  refine x_start hO (by decide +kernel) (Nat.le_of_ble_eq_true rfl) (fun K C E => ?_)
  have hP0 := hP
  have hQ0 := hQ
  obtain ⟨h8, h6, h16, hnp, hwho, hvb, hts⟩ := hP
  obtain ⟨hq0, hq1, hq2, hq3, hq4, hq5, hq6⟩ := hQ
  refine x_aload_n C dX8_honeyOf_0 rfl rfl ?_
  refine x_iload_n C dX8_honeyOf_1 rfl rfl ?_
  refine x_callV1 C dX8_honeyOf_2 kX8_111 (c_X8_requireDrone hO hP0 hQ0 hb hp hc hc2 hc4 hk9 hd9) (hc 0 _ rfl) rfl (by decide) ⟨Nat.zero_le _, Nat.zero_le _⟩ (Nat.le_of_ble_eq_true rfl) ?_
  rintro _ _ ⟨rfl, rfl⟩
  refine x_aload_n C dX8_honeyOf_5 rfl rfl ?_
  refine x_getfield C dX8_honeyOf_6 fX8_40 (hc 0 _ rfl) hc4 ?_
  refine x_getfield C dX8_honeyOf_9 fX8_97 (hb 0 _ rfl) rfl ?_
  refine x_iload_n C dX8_honeyOf_12 rfl rfl ?_
  refine x_callV1 C dX8_honeyOf_13 kX8_114 (c_X4_get hO (by decide) (x_bk_sub hb 4 rfl)) (hb 4 _ rfl) rfl (by decide) ⟨Nat.zero_le _, Nat.zero_le _⟩ (Nat.le_of_ble_eq_true rfl) ?_
  rintro _ _ ⟨rfl, rfl⟩
  rw [rg_nI (show d < 8 by omega) (by decide)]
  rw [s_fill_in hd9]
  refine x_iret C E dX8_honeyOf_16 ?_
  exact ⟨rfl, rfl⟩
set_option maxHeartbeats 4000000 in
set_option maxRecDepth 100000 in
theorem c_X8_isAwake {l : Launch} {Y0 : x_Y} (hO : x_Ok Y0) {M : x_M} {a p : Nat} {P : PL} {A : HS} {hx sk : Nat → Int32} {ht : Int32} {Q : HS} (hP : p_ok P) (hQ : q_is Q P) (hb : x_bk M a (hvT a p P A hx sk ht)) (hp : x_bk M p (plT p Q)) {c : Nat} {fs : List Value} (hc : x_bk M c [.inr (8, fs)]) (hc2 : fs[2]? = some (.ref p)) (hc4 : fs[4]? = some (.ref a)) (hk9 : h_ok P A) {d : Nat} (hd9 : d < p_nd P) : x_C l Y0 yX8_isAwake cX8_isAwake 2 (some .boolean) 3 0 0 [.ref c, .int (nI d)] M (fun u M1 => u = some (.int (h_upI A d)) ∧ M1 = M) := by
  refine x_start hO (by decide +kernel) (Nat.le_of_ble_eq_true rfl) (fun K C E => ?_)
  have hP0 := hP
  have hQ0 := hQ
  obtain ⟨h8, h6, h16, hnp, hwho, hvb, hts⟩ := hP
  obtain ⟨hq0, hq1, hq2, hq3, hq4, hq5, hq6⟩ := hQ
  refine x_aload_n C dX8_isAwake_0 rfl rfl ?_
  refine x_iload_n C dX8_isAwake_1 rfl rfl ?_
  refine x_callV1 C dX8_isAwake_2 kX8_111 (c_X8_requireDrone hO hP0 hQ0 hb hp hc hc2 hc4 hk9 hd9) (hc 0 _ rfl) rfl (by decide) ⟨Nat.zero_le _, Nat.zero_le _⟩ (Nat.le_of_ble_eq_true rfl) ?_
  rintro _ _ ⟨rfl, rfl⟩
  refine x_aload_n C dX8_isAwake_5 rfl rfl ?_
  refine x_getfield C dX8_isAwake_6 fX8_40 (hc 0 _ rfl) hc4 ?_
  refine x_iload_n C dX8_isAwake_9 rfl rfl ?_
  refine x_callV1 C dX8_isAwake_10 kX8_117 (c_X0_isUp hO hP0 hQ0 hb hp (hk9.1 8) (show d ≤ 8 by omega)) (hb 0 _ rfl) rfl (by decide) ⟨Nat.zero_le _, Nat.zero_le _⟩ (Nat.le_of_ble_eq_true rfl) ?_
  rintro _ _ ⟨rfl, rfl⟩
  refine x_zret C E dX8_isAwake_13 (by unfold h_upI; split <;> rfl) ?_
  exact ⟨rfl, rfl⟩
set_option maxHeartbeats 4000000 in
set_option maxRecDepth 100000 in
theorem c_X8_blockedBy {l : Launch} {Y0 : x_Y} (hO : x_Ok Y0) {M : x_M} {a p : Nat} {P : PL} {A : HS} {hx sk : Nat → Int32} {ht : Int32} {Q : HS} (hP : p_ok P) (hQ : q_is Q P) (hb : x_bk M a (hvT a p P A hx sk ht)) (hp : x_bk M p (plT p Q)) {c : Nat} {fs : List Value} (hc : x_bk M c [.inr (8, fs)]) (hc2 : fs[2]? = some (.ref p)) (hc4 : fs[4]? = some (.ref a)) (hk9 : h_ok P A) {d : Nat} (hd9 : d < p_nd P) : x_C l Y0 yX8_blockedBy cX8_blockedBy 2 (some .int) 3 0 0 [.ref c, .int (nI d)] M (fun u M1 => u = some (.int (A 2 d)) ∧ M1 = M) := by
  refine x_start hO (by decide +kernel) (Nat.le_of_ble_eq_true rfl) (fun K C E => ?_)
  have hP0 := hP
  have hQ0 := hQ
  obtain ⟨h8, h6, h16, hnp, hwho, hvb, hts⟩ := hP
  obtain ⟨hq0, hq1, hq2, hq3, hq4, hq5, hq6⟩ := hQ
  refine x_aload_n C dX8_blockedBy_0 rfl rfl ?_
  refine x_iload_n C dX8_blockedBy_1 rfl rfl ?_
  refine x_callV1 C dX8_blockedBy_2 kX8_111 (c_X8_requireDrone hO hP0 hQ0 hb hp hc hc2 hc4 hk9 hd9) (hc 0 _ rfl) rfl (by decide) ⟨Nat.zero_le _, Nat.zero_le _⟩ (Nat.le_of_ble_eq_true rfl) ?_
  rintro _ _ ⟨rfl, rfl⟩
  refine x_aload_n C dX8_blockedBy_5 rfl rfl ?_
  refine x_getfield C dX8_blockedBy_6 fX8_40 (hc 0 _ rfl) hc4 ?_
  refine x_getfield C dX8_blockedBy_9 fX8_121 (hb 0 _ rfl) rfl ?_
  refine x_iload_n C dX8_blockedBy_12 rfl rfl ?_
  refine x_callV1 C dX8_blockedBy_13 kX8_114 (c_X4_get hO (by decide) (x_bk_sub hb 8 rfl)) (hb 8 _ rfl) rfl (by decide) ⟨Nat.zero_le _, Nat.zero_le _⟩ (Nat.le_of_ble_eq_true rfl) ?_
  rintro _ _ ⟨rfl, rfl⟩
  rw [rg_nI (show d < 8 by omega) (by decide)]
  refine x_iret C E dX8_blockedBy_16 ?_
  exact ⟨rfl, rfl⟩
set_option maxHeartbeats 4000000 in
set_option maxRecDepth 100000 in
theorem c_X8_logOf {l : Launch} {Y0 : x_Y} (hO : x_Ok Y0) {M : x_M} {a p : Nat} {P : PL} {A : HS} {hx sk : Nat → Int32} {ht : Int32} {Q : HS} (hP : p_ok P) (hQ : q_is Q P) (hb : x_bk M a (hvT a p P A hx sk ht)) (hp : x_bk M p (plT p Q)) {c : Nat} {fs : List Value} (hc : x_bk M c [.inr (8, fs)]) (hc2 : fs[2]? = some (.ref p)) (hc4 : fs[4]? = some (.ref a)) (hk9 : h_ok P A) {d : Nat} (hd9 : d < p_nd P) : x_C l Y0 yX8_logOf cX8_logOf 2 (some .int) 3 0 0 [.ref c, .int (nI d)] M (fun u M1 => u = some (.int (A 3 d)) ∧ M1 = M) := by
  refine x_start hO (by decide +kernel) (Nat.le_of_ble_eq_true rfl) (fun K C E => ?_)
  have hP0 := hP
  have hQ0 := hQ
  obtain ⟨h8, h6, h16, hnp, hwho, hvb, hts⟩ := hP
  obtain ⟨hq0, hq1, hq2, hq3, hq4, hq5, hq6⟩ := hQ
  refine x_aload_n C dX8_logOf_0 rfl rfl ?_
  refine x_iload_n C dX8_logOf_1 rfl rfl ?_
  refine x_callV1 C dX8_logOf_2 kX8_111 (c_X8_requireDrone hO hP0 hQ0 hb hp hc hc2 hc4 hk9 hd9) (hc 0 _ rfl) rfl (by decide) ⟨Nat.zero_le _, Nat.zero_le _⟩ (Nat.le_of_ble_eq_true rfl) ?_
  rintro _ _ ⟨rfl, rfl⟩
  refine x_aload_n C dX8_logOf_5 rfl rfl ?_
  refine x_getfield C dX8_logOf_6 fX8_40 (hc 0 _ rfl) hc4 ?_
  refine x_getfield C dX8_logOf_9 fX8_124 (hb 0 _ rfl) rfl ?_
  refine x_iload_n C dX8_logOf_12 rfl rfl ?_
  refine x_callV1 C dX8_logOf_13 kX8_114 (c_X4_get hO (by decide) (x_bk_sub hb 10 rfl)) (hb 10 _ rfl) rfl (by decide) ⟨Nat.zero_le _, Nat.zero_le _⟩ (Nat.le_of_ble_eq_true rfl) ?_
  rintro _ _ ⟨rfl, rfl⟩
  rw [rg_nI (show d < 8 by omega) (by decide)]
  refine x_iret C E dX8_logOf_16 ?_
  exact ⟨rfl, rfl⟩
set_option maxHeartbeats 4000000 in
set_option maxRecDepth 100000 in
theorem c_X8_stateOf {l : Launch} {Y0 : x_Y} (hO : x_Ok Y0) {M : x_M} {a p : Nat} {P : PL} {A : HS} {hx sk : Nat → Int32} {ht : Int32} {Q : HS} (hP : p_ok P) (hQ : q_is Q P) (hb : x_bk M a (hvT a p P A hx sk ht)) (hp : x_bk M p (plT p Q)) {c : Nat} {fs : List Value} (hc : x_bk M c [.inr (8, fs)]) (hc2 : fs[2]? = some (.ref p)) (hc4 : fs[4]? = some (.ref a)) (hk9 : h_ok P A) {k : Nat} (hk : k < p_nk P) : x_C l Y0 yX8_stateOf cX8_stateOf 2 (some .int) 3 0 0 [.ref c, .int (nI k)] M (fun u M1 => u = some (.int (A 4 k)) ∧ M1 = M) := by
  refine x_start hO (by decide +kernel) (Nat.le_of_ble_eq_true rfl) (fun K C E => ?_)
  have hP0 := hP
  have hQ0 := hQ
  obtain ⟨h8, h6, h16, hnp, hwho, hvb, hts⟩ := hP
  obtain ⟨hq0, hq1, hq2, hq3, hq4, hq5, hq6⟩ := hQ
  have hk1 := hnp k hk
  refine x_aload_n C dX8_stateOf_0 rfl rfl ?_
  refine x_iload_n C dX8_stateOf_1 rfl rfl ?_
  refine x_callV1 C dX8_stateOf_2 kX8_127 (c_X8_requireDeal hO hP0 hQ0 hb hp hc hc2 hc4 hk9 hk) (hc 0 _ rfl) rfl (by decide) ⟨Nat.zero_le _, Nat.zero_le _⟩ (Nat.le_of_ble_eq_true rfl) ?_
  rintro _ _ ⟨rfl, rfl⟩
  refine x_aload_n C dX8_stateOf_5 rfl rfl ?_
  refine x_getfield C dX8_stateOf_6 fX8_40 (hc 0 _ rfl) hc4 ?_
  refine x_getfield C dX8_stateOf_9 fX8_130 (hb 0 _ rfl) rfl ?_
  refine x_iload_n C dX8_stateOf_12 rfl rfl ?_
  refine x_callV1 C dX8_stateOf_13 kX8_114 (c_X4_get hO (by decide) (x_bk_sub hb 12 rfl)) (hb 12 _ rfl) rfl (by decide) ⟨Nat.zero_le _, Nat.zero_le _⟩ (Nat.le_of_ble_eq_true rfl) ?_
  rintro _ _ ⟨rfl, rfl⟩
  rw [rg_nI (show k < 6 by omega) (by decide)]
  refine x_iret C E dX8_stateOf_16 ?_
  exact ⟨rfl, rfl⟩
set_option maxHeartbeats 4000000 in
set_option maxRecDepth 100000 in
theorem c_X8_waitsOf {l : Launch} {Y0 : x_Y} (hO : x_Ok Y0) {M : x_M} {a p : Nat} {P : PL} {A : HS} {hx sk : Nat → Int32} {ht : Int32} {Q : HS} (hP : p_ok P) (hQ : q_is Q P) (hb : x_bk M a (hvT a p P A hx sk ht)) (hp : x_bk M p (plT p Q)) {c : Nat} {fs : List Value} (hc : x_bk M c [.inr (8, fs)]) (hc2 : fs[2]? = some (.ref p)) (hc4 : fs[4]? = some (.ref a)) (hk9 : h_ok P A) {k : Nat} (hk : k < p_nk P) : x_C l Y0 yX8_waitsOf cX8_waitsOf 2 (some .int) 3 0 0 [.ref c, .int (nI k)] M (fun u M1 => u = some (.int (h_waits A k)) ∧ M1 = M) := by
  refine x_start hO (by decide +kernel) (Nat.le_of_ble_eq_true rfl) (fun K C E => ?_)
  have hP0 := hP
  have hQ0 := hQ
  obtain ⟨h8, h6, h16, hnp, hwho, hvb, hts⟩ := hP
  obtain ⟨hq0, hq1, hq2, hq3, hq4, hq5, hq6⟩ := hQ
  have hk1 := hnp k hk
  refine x_aload_n C dX8_waitsOf_0 rfl rfl ?_
  refine x_iload_n C dX8_waitsOf_1 rfl rfl ?_
  refine x_callV1 C dX8_waitsOf_2 kX8_127 (c_X8_requireDeal hO hP0 hQ0 hb hp hc hc2 hc4 hk9 hk) (hc 0 _ rfl) rfl (by decide) ⟨Nat.zero_le _, Nat.zero_le _⟩ (Nat.le_of_ble_eq_true rfl) ?_
  rintro _ _ ⟨rfl, rfl⟩
  refine x_aload_n C dX8_waitsOf_5 rfl rfl ?_
  refine x_getfield C dX8_waitsOf_6 fX8_40 (hc 0 _ rfl) hc4 ?_
  refine x_iload_n C dX8_waitsOf_9 rfl rfl ?_
  refine x_callV1 C dX8_waitsOf_10 kX8_133 (c_X0_daysWaited hO hP0 hQ0 hb hp hk) (hb 0 _ rfl) rfl (by decide) ⟨Nat.zero_le _, Nat.zero_le _⟩ (Nat.le_of_ble_eq_true rfl) ?_
  rintro _ _ ⟨rfl, rfl⟩
  refine x_iret C E dX8_waitsOf_13 ?_
  exact ⟨rfl, rfl⟩
set_option maxHeartbeats 4000000 in
set_option maxRecDepth 100000 in
theorem c_X8_partsOf {l : Launch} {Y0 : x_Y} (hO : x_Ok Y0) {M : x_M} {a p : Nat} {P : PL} {A : HS} {hx sk : Nat → Int32} {ht : Int32} {Q : HS} (hP : p_ok P) (hQ : q_is Q P) (hb : x_bk M a (hvT a p P A hx sk ht)) (hp : x_bk M p (plT p Q)) {c : Nat} {fs : List Value} (hc : x_bk M c [.inr (8, fs)]) (hc2 : fs[2]? = some (.ref p)) (hc4 : fs[4]? = some (.ref a)) (hk9 : h_ok P A) {k : Nat} (hk : k < p_nk P) : x_C l Y0 yX8_partsOf cX8_partsOf 2 (some .int) 3 0 0 [.ref c, .int (nI k)] M (fun u M1 => u = some (.int (nI (p_np P k))) ∧ M1 = M) := by
  refine x_start hO (by decide +kernel) (Nat.le_of_ble_eq_true rfl) (fun K C E => ?_)
  have hP0 := hP
  have hQ0 := hQ
  obtain ⟨h8, h6, h16, hnp, hwho, hvb, hts⟩ := hP
  obtain ⟨hq0, hq1, hq2, hq3, hq4, hq5, hq6⟩ := hQ
  have hk1 := hnp k hk
  refine x_aload_n C dX8_partsOf_0 rfl rfl ?_
  refine x_iload_n C dX8_partsOf_1 rfl rfl ?_
  refine x_callV1 C dX8_partsOf_2 kX8_127 (c_X8_requireDeal hO hP0 hQ0 hb hp hc hc2 hc4 hk9 hk) (hc 0 _ rfl) rfl (by decide) ⟨Nat.zero_le _, Nat.zero_le _⟩ (Nat.le_of_ble_eq_true rfl) ?_
  rintro _ _ ⟨rfl, rfl⟩
  refine x_aload_n C dX8_partsOf_5 rfl rfl ?_
  refine x_getfield C dX8_partsOf_6 fX8_23 (hc 0 _ rfl) hc2 ?_
  refine x_getfield C dX8_partsOf_9 fX8_136 (hp 0 _ rfl) rfl ?_
  refine x_iload_n C dX8_partsOf_12 rfl rfl ?_
  refine x_callV1 C dX8_partsOf_13 kX8_114 (c_X4_get hO (by decide) (x_bk_sub hp 3 rfl)) (hp 3 _ rfl) rfl (by decide) ⟨Nat.zero_le _, Nat.zero_le _⟩ (Nat.le_of_ble_eq_true rfl) ?_
  rintro _ _ ⟨rfl, rfl⟩
  rw [rg_nI (show k < 6 by omega) (by decide), hq3 k (by omega)]
  refine x_iret C E dX8_partsOf_16 ?_
  exact ⟨rfl, rfl⟩
set_option maxHeartbeats 4000000 in
set_option maxRecDepth 100000 in
theorem c_X8_droneIn {l : Launch} {Y0 : x_Y} (hO : x_Ok Y0) {M : x_M} {a p : Nat} {P : PL} {A : HS} {hx sk : Nat → Int32} {ht : Int32} {Q : HS} (hP : p_ok P) (hQ : q_is Q P) (hb : x_bk M a (hvT a p P A hx sk ht)) (hp : x_bk M p (plT p Q)) {c : Nat} {fs : List Value} (hc : x_bk M c [.inr (8, fs)]) (hc2 : fs[2]? = some (.ref p)) (hc4 : fs[4]? = some (.ref a)) (hk9 : h_ok P A) {k : Nat} (hk : k < p_nk P) {j : Nat} (hj : j < p_np P k) : x_C l Y0 yX8_droneIn cX8_droneIn 3 (some .int) 3 0 0 [.ref c, .int (nI k), .int (nI j)] M (fun u M1 => u = some (.int (nI (p_who P (6 * k + j)))) ∧ M1 = M) := by
  refine x_start hO (by decide +kernel) (Nat.le_of_ble_eq_true rfl) (fun K C E => ?_)
  have hP0 := hP
  have hQ0 := hQ
  obtain ⟨h8, h6, h16, hnp, hwho, hvb, hts⟩ := hP
  obtain ⟨hq0, hq1, hq2, hq3, hq4, hq5, hq6⟩ := hQ
  have hk1 := hnp k hk
  refine x_aload_n C dX8_droneIn_0 rfl rfl ?_
  refine x_iload_n C dX8_droneIn_1 rfl rfl ?_
  refine x_iload_n C dX8_droneIn_2 rfl rfl ?_
  refine x_callV2 C dX8_droneIn_3 kX8_139 (c_X8_requirePart hO hP0 hQ0 hb hp hc hc2 hc4 hk9 hk hj) (hc 0 _ rfl) rfl (by decide) ⟨Nat.zero_le _, Nat.zero_le _⟩ (Nat.le_of_ble_eq_true rfl) ?_
  rintro _ _ ⟨rfl, rfl⟩
  refine x_aload_n C dX8_droneIn_6 rfl rfl ?_
  refine x_getfield C dX8_droneIn_7 fX8_23 (hc 0 _ rfl) hc2 ?_
  refine x_getfield C dX8_droneIn_10 fX8_143 (hp 0 _ rfl) rfl ?_
  refine x_iload_n C dX8_droneIn_13 rfl rfl ?_
  refine x_iload_n C dX8_droneIn_14 rfl rfl ?_
  refine x_callS2 C dX8_droneIn_15 kX8_146 (c_X8_slot hO) (by decide) ⟨Nat.zero_le _, Nat.zero_le _⟩ (Nat.le_of_ble_eq_true rfl) ?_
  rintro _ _ ⟨rfl, rfl⟩
  rw [slot_nI]
  refine x_callV1 C dX8_droneIn_18 kX8_114 (c_X4_get hO (by decide) (x_bk_sub hp 5 rfl)) (hp 5 _ rfl) rfl (by decide) ⟨Nat.zero_le _, Nat.zero_le _⟩ (Nat.le_of_ble_eq_true rfl) ?_
  rintro _ _ ⟨rfl, rfl⟩
  rw [rg_nI (show 6 * k + j < 36 by omega) (by decide)]
  rw [(hq4 k j hk hj).1]
  refine x_iret C E dX8_droneIn_21 ?_
  exact ⟨rfl, rfl⟩
set_option maxHeartbeats 4000000 in
set_option maxRecDepth 100000 in
theorem c_X8_changeIn {l : Launch} {Y0 : x_Y} (hO : x_Ok Y0) {M : x_M} {a p : Nat} {P : PL} {A : HS} {hx sk : Nat → Int32} {ht : Int32} {Q : HS} (hP : p_ok P) (hQ : q_is Q P) (hb : x_bk M a (hvT a p P A hx sk ht)) (hp : x_bk M p (plT p Q)) {c : Nat} {fs : List Value} (hc : x_bk M c [.inr (8, fs)]) (hc2 : fs[2]? = some (.ref p)) (hc4 : fs[4]? = some (.ref a)) (hk9 : h_ok P A) {k : Nat} (hk : k < p_nk P) {j : Nat} (hj : j < p_np P k) : x_C l Y0 yX8_changeIn cX8_changeIn 3 (some .int) 3 0 0 [.ref c, .int (nI k), .int (nI j)] M (fun u M1 => u = some (.int (p_mv P (6 * k + j))) ∧ M1 = M) := by
  refine x_start hO (by decide +kernel) (Nat.le_of_ble_eq_true rfl) (fun K C E => ?_)
  have hP0 := hP
  have hQ0 := hQ
  obtain ⟨h8, h6, h16, hnp, hwho, hvb, hts⟩ := hP
  obtain ⟨hq0, hq1, hq2, hq3, hq4, hq5, hq6⟩ := hQ
  have hk1 := hnp k hk
  refine x_aload_n C dX8_changeIn_0 rfl rfl ?_
  refine x_iload_n C dX8_changeIn_1 rfl rfl ?_
  refine x_iload_n C dX8_changeIn_2 rfl rfl ?_
  refine x_callV2 C dX8_changeIn_3 kX8_139 (c_X8_requirePart hO hP0 hQ0 hb hp hc hc2 hc4 hk9 hk hj) (hc 0 _ rfl) rfl (by decide) ⟨Nat.zero_le _, Nat.zero_le _⟩ (Nat.le_of_ble_eq_true rfl) ?_
  rintro _ _ ⟨rfl, rfl⟩
  refine x_aload_n C dX8_changeIn_6 rfl rfl ?_
  refine x_getfield C dX8_changeIn_7 fX8_23 (hc 0 _ rfl) hc2 ?_
  refine x_getfield C dX8_changeIn_10 fX8_150 (hp 0 _ rfl) rfl ?_
  refine x_iload_n C dX8_changeIn_13 rfl rfl ?_
  refine x_iload_n C dX8_changeIn_14 rfl rfl ?_
  refine x_callS2 C dX8_changeIn_15 kX8_146 (c_X8_slot hO) (by decide) ⟨Nat.zero_le _, Nat.zero_le _⟩ (Nat.le_of_ble_eq_true rfl) ?_
  rintro _ _ ⟨rfl, rfl⟩
  rw [slot_nI]
  refine x_callV1 C dX8_changeIn_18 kX8_114 (c_X4_get hO (by decide) (x_bk_sub hp 7 rfl)) (hp 7 _ rfl) rfl (by decide) ⟨Nat.zero_le _, Nat.zero_le _⟩ (Nat.le_of_ble_eq_true rfl) ?_
  rintro _ _ ⟨rfl, rfl⟩
  rw [rg_nI (show 6 * k + j < 36 by omega) (by decide)]
  rw [(hq4 k j hk hj).2]
  refine x_iret C E dX8_changeIn_21 ?_
  exact ⟨rfl, rfl⟩
set_option maxHeartbeats 4000000 in
set_option maxRecDepth 100000 in
theorem c_X8_voteIn {l : Launch} {Y0 : x_Y} (hO : x_Ok Y0) {M : x_M} {a p : Nat} {P : PL} {A : HS} {hx sk : Nat → Int32} {ht : Int32} {Q : HS} (hP : p_ok P) (hQ : q_is Q P) (hb : x_bk M a (hvT a p P A hx sk ht)) (hp : x_bk M p (plT p Q)) {c : Nat} {fs : List Value} (hc : x_bk M c [.inr (8, fs)]) (hc2 : fs[2]? = some (.ref p)) (hc4 : fs[4]? = some (.ref a)) (hk9 : h_ok P A) {k : Nat} (hk : k < p_nk P) {j : Nat} (hj : j < p_np P k) : x_C l Y0 yX8_voteIn cX8_voteIn 3 (some .int) 3 0 0 [.ref c, .int (nI k), .int (nI j)] M (fun u M1 => u = some (.int (A 6 (6 * k + j))) ∧ M1 = M) := by
  refine x_start hO (by decide +kernel) (Nat.le_of_ble_eq_true rfl) (fun K C E => ?_)
  have hP0 := hP
  have hQ0 := hQ
  obtain ⟨h8, h6, h16, hnp, hwho, hvb, hts⟩ := hP
  obtain ⟨hq0, hq1, hq2, hq3, hq4, hq5, hq6⟩ := hQ
  have hk1 := hnp k hk
  refine x_aload_n C dX8_voteIn_0 rfl rfl ?_
  refine x_iload_n C dX8_voteIn_1 rfl rfl ?_
  refine x_iload_n C dX8_voteIn_2 rfl rfl ?_
  refine x_callV2 C dX8_voteIn_3 kX8_139 (c_X8_requirePart hO hP0 hQ0 hb hp hc hc2 hc4 hk9 hk hj) (hc 0 _ rfl) rfl (by decide) ⟨Nat.zero_le _, Nat.zero_le _⟩ (Nat.le_of_ble_eq_true rfl) ?_
  rintro _ _ ⟨rfl, rfl⟩
  refine x_aload_n C dX8_voteIn_6 rfl rfl ?_
  refine x_getfield C dX8_voteIn_7 fX8_40 (hc 0 _ rfl) hc4 ?_
  refine x_getfield C dX8_voteIn_10 fX8_153 (hb 0 _ rfl) rfl ?_
  refine x_iload_n C dX8_voteIn_13 rfl rfl ?_
  refine x_iload_n C dX8_voteIn_14 rfl rfl ?_
  refine x_callS2 C dX8_voteIn_15 kX8_146 (c_X8_slot hO) (by decide) ⟨Nat.zero_le _, Nat.zero_le _⟩ (Nat.le_of_ble_eq_true rfl) ?_
  rintro _ _ ⟨rfl, rfl⟩
  rw [slot_nI]
  refine x_callV1 C dX8_voteIn_18 kX8_114 (c_X4_get hO (by decide) (x_bk_sub hb 16 rfl)) (hb 16 _ rfl) rfl (by decide) ⟨Nat.zero_le _, Nat.zero_le _⟩ (Nat.le_of_ble_eq_true rfl) ?_
  rintro _ _ ⟨rfl, rfl⟩
  rw [rg_nI (show 6 * k + j < 36 by omega) (by decide)]
  refine x_iret C E dX8_voteIn_21 ?_
  exact ⟨rfl, rfl⟩
set_option maxHeartbeats 4000000 in
set_option maxRecDepth 100000 in
theorem c_X8_hasHeard {l : Launch} {Y0 : x_Y} (hO : x_Ok Y0) {M : x_M} {a p : Nat} {P : PL} {A : HS} {hx sk : Nat → Int32} {ht : Int32} {Q : HS} (hP : p_ok P) (hQ : q_is Q P) (hb : x_bk M a (hvT a p P A hx sk ht)) (hp : x_bk M p (plT p Q)) {c : Nat} {fs : List Value} (hc : x_bk M c [.inr (8, fs)]) (hc2 : fs[2]? = some (.ref p)) (hc4 : fs[4]? = some (.ref a)) (hk9 : h_ok P A) {k : Nat} (hk : k < p_nk P) {j : Nat} (hj : j < p_np P k) : x_C l Y0 yX8_hasHeard cX8_hasHeard 3 (some .boolean) 3 0 0 [.ref c, .int (nI k), .int (nI j)] M (fun u M1 => u = some (.int (A 7 (6 * k + j))) ∧ M1 = M) := by
  refine x_start hO (by decide +kernel) (Nat.le_of_ble_eq_true rfl) (fun K C E => ?_)
  have hP0 := hP
  have hQ0 := hQ
  obtain ⟨h8, h6, h16, hnp, hwho, hvb, hts⟩ := hP
  obtain ⟨hq0, hq1, hq2, hq3, hq4, hq5, hq6⟩ := hQ
  have hk1 := hnp k hk
  refine x_aload_n C dX8_hasHeard_0 rfl rfl ?_
  refine x_iload_n C dX8_hasHeard_1 rfl rfl ?_
  refine x_iload_n C dX8_hasHeard_2 rfl rfl ?_
  refine x_callV2 C dX8_hasHeard_3 kX8_139 (c_X8_requirePart hO hP0 hQ0 hb hp hc hc2 hc4 hk9 hk hj) (hc 0 _ rfl) rfl (by decide) ⟨Nat.zero_le _, Nat.zero_le _⟩ (Nat.le_of_ble_eq_true rfl) ?_
  rintro _ _ ⟨rfl, rfl⟩
  refine x_aload_n C dX8_hasHeard_6 rfl rfl ?_
  refine x_getfield C dX8_hasHeard_7 fX8_40 (hc 0 _ rfl) hc4 ?_
  refine x_getfield C dX8_hasHeard_10 fX8_156 (hb 0 _ rfl) rfl ?_
  refine x_iload_n C dX8_hasHeard_13 rfl rfl ?_
  refine x_iload_n C dX8_hasHeard_14 rfl rfl ?_
  refine x_callS2 C dX8_hasHeard_15 kX8_146 (c_X8_slot hO) (by decide) ⟨Nat.zero_le _, Nat.zero_le _⟩ (Nat.le_of_ble_eq_true rfl) ?_
  rintro _ _ ⟨rfl, rfl⟩
  rw [slot_nI]
  refine x_callV1 C dX8_hasHeard_18 kX8_114 (c_X4_get hO (by decide) (x_bk_sub hb 18 rfl)) (hb 18 _ rfl) rfl (by decide) ⟨Nat.zero_le _, Nat.zero_le _⟩ (Nat.le_of_ble_eq_true rfl) ?_
  rintro _ _ ⟨rfl, rfl⟩
  rw [rg_nI (show 6 * k + j < 36 by omega) (by decide)]
  refine x_if_eq (tgt := 28) C dX8_hasHeard_21 (by decide) (fun c21 => ?_) (fun c21 => ?_)
  · refine x_iconst (v := 0) C dX8_hasHeard_28 (by decide) ?_
    refine x_zret C E dX8_hasHeard_29 rfl ?_
    exact ⟨by rcases hk9.2.1 (6 * k + j) with q | q <;> first | (rw [q]; done) | (rw [q] at c21; exact absurd rfl c21) | (rw [q] at c21; exact absurd c21 (by decide)) | fail, rfl⟩
  · refine x_iconst (v := 1) C dX8_hasHeard_24 (by decide) ?_
    refine x_goto (tgt := 29) C dX8_hasHeard_25 (by decide) ?_
    refine x_zret C E dX8_hasHeard_29 rfl ?_
    exact ⟨by rcases hk9.2.1 (6 * k + j) with q | q <;> first | (rw [q]; done) | (rw [q] at c21; exact absurd rfl c21) | (rw [q] at c21; exact absurd c21 (by decide)) | fail, rfl⟩
set_option maxHeartbeats 4000000 in
set_option maxRecDepth 100000 in
theorem c_X8_votesFor {l : Launch} {Y0 : x_Y} (hO : x_Ok Y0) {M : x_M} {a p : Nat} {P : PL} {A : HS} {hx sk : Nat → Int32} {ht : Int32} {Q : HS} (hP : p_ok P) (hQ : q_is Q P) (hb : x_bk M a (hvT a p P A hx sk ht)) (hp : x_bk M p (plT p Q)) {c : Nat} {fs : List Value} (hc : x_bk M c [.inr (8, fs)]) (hc2 : fs[2]? = some (.ref p)) (hc4 : fs[4]? = some (.ref a)) (hk9 : h_ok P A) {k : Nat} (hk : k < p_nk P) : x_C l Y0 yX8_votesFor cX8_votesFor 2 (some .int) 3 0 0 [.ref c, .int (nI k)] M (fun u M1 => u = some (.int (h_votes P A k 1)) ∧ M1 = M) := by
  refine x_start hO (by decide +kernel) (Nat.le_of_ble_eq_true rfl) (fun K C E => ?_)
  have hP0 := hP
  have hQ0 := hQ
  obtain ⟨h8, h6, h16, hnp, hwho, hvb, hts⟩ := hP
  obtain ⟨hq0, hq1, hq2, hq3, hq4, hq5, hq6⟩ := hQ
  have hk1 := hnp k hk
  refine x_aload_n C dX8_votesFor_0 rfl rfl ?_
  refine x_iload_n C dX8_votesFor_1 rfl rfl ?_
  refine x_callV1 C dX8_votesFor_2 kX8_127 (c_X8_requireDeal hO hP0 hQ0 hb hp hc hc2 hc4 hk9 hk) (hc 0 _ rfl) rfl (by decide) ⟨Nat.zero_le _, Nat.zero_le _⟩ (Nat.le_of_ble_eq_true rfl) ?_
  rintro _ _ ⟨rfl, rfl⟩
  refine x_aload_n C dX8_votesFor_5 rfl rfl ?_
  refine x_getfield C dX8_votesFor_6 fX8_40 (hc 0 _ rfl) hc4 ?_
  refine x_iload_n C dX8_votesFor_9 rfl rfl ?_
  refine x_iconst (v := 1) C dX8_votesFor_10 (by decide) ?_
  refine x_callV2 C dX8_votesFor_11 kX8_159 (c_X0_countVotes hO hP0 hQ0 hb hp hk) (hb 0 _ rfl) rfl (by decide) ⟨Nat.zero_le _, Nat.zero_le _⟩ (Nat.le_of_ble_eq_true rfl) ?_
  rintro _ _ ⟨rfl, rfl⟩
  refine x_iret C E dX8_votesFor_14 ?_
  exact ⟨rfl, rfl⟩
set_option maxHeartbeats 4000000 in
set_option maxRecDepth 100000 in
theorem c_X8_wouldAgree {l : Launch} {Y0 : x_Y} (hO : x_Ok Y0) {M : x_M} {a p : Nat} {P : PL} {A : HS} {hx sk : Nat → Int32} {ht : Int32} {Q : HS} (hP : p_ok P) (hQ : q_is Q P) (hb : x_bk M a (hvT a p P A hx sk ht)) (hp : x_bk M p (plT p Q)) {c : Nat} {fs : List Value} (hc : x_bk M c [.inr (8, fs)]) (hc2 : fs[2]? = some (.ref p)) (hc4 : fs[4]? = some (.ref a)) (hk9 : h_ok P A) {k : Nat} (hk : k < p_nk P) : x_C l Y0 yX8_wouldAgree cX8_wouldAgree 2 (some .boolean) 4 0 0 [.ref c, .int (nI k)] M (fun u M1 => u = some (.int (h_b (h_agrAll P A k))) ∧ M1 = M) := by
  refine x_start hO (by decide +kernel) (Nat.le_of_ble_eq_true rfl) (fun K C E => ?_)
  have hP0 := hP
  have hQ0 := hQ
  obtain ⟨h8, h6, h16, hnp, hwho, hvb, hts⟩ := hP
  obtain ⟨hq0, hq1, hq2, hq3, hq4, hq5, hq6⟩ := hQ
  have hk1 := hnp k hk
  refine x_aload_n C dX8_wouldAgree_0 rfl rfl ?_
  refine x_iload_n C dX8_wouldAgree_1 rfl rfl ?_
  refine x_callV1 C dX8_wouldAgree_2 kX8_127 (c_X8_requireDeal hO hP0 hQ0 hb hp hc hc2 hc4 hk9 hk) (hc 0 _ rfl) rfl (by decide) ⟨Nat.zero_le _, Nat.zero_le _⟩ (Nat.le_of_ble_eq_true rfl) ?_
  rintro _ _ ⟨rfl, rfl⟩
  refine x_aload_n C dX8_wouldAgree_5 rfl rfl ?_
  refine x_getfield C dX8_wouldAgree_6 fX8_40 (hc 0 _ rfl) hc4 ?_
  refine x_iload_n C dX8_wouldAgree_9 rfl rfl ?_
  refine x_callV1 C dX8_wouldAgree_10 kX8_162 (c_X0_allCanAgree hO hP0 hQ0 hb hp hk) (hb 0 _ rfl) rfl (by decide) ⟨Nat.zero_le _, Nat.zero_le _⟩ (Nat.le_of_ble_eq_true rfl) ?_
  rintro _ _ ⟨rfl, rfl⟩
  refine x_zret C E dX8_wouldAgree_13 (by unfold h_b; split <;> rfl) ?_
  exact ⟨rfl, rfl⟩
