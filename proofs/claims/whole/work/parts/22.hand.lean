set_option maxHeartbeats 4000000 in
set_option maxRecDepth 100000 in
theorem c_X8_begin {l : Launch} {Y0 : x_Y} (hO : x_Ok Y0) {M : x_M} {a p : Nat} {P : PL} {A : HS} {hx sk : Nat → Int32} {ht : Int32} {Q : HS} (hP : p_ok P) (hQ : q_is Q P) (hb : x_bk M a (hvT a p P A hx sk ht)) (hp : x_bk M p (plT p Q)) {c : Nat} {fs : List Value} (hc : x_bk M c [.inr (8, fs)]) (hc2 : fs[2]? = some (.ref p)) (hc4 : fs[4]? = some (.ref a)) (hk9 : h_ok P A) (hd : p + 21 ≤ a ∨ a + 20 ≤ p) (hdc : c + 1 ≤ a ∨ a + 20 ≤ c) {k : Nat} (hk : k < p_nk P) (hcan : h_can P A k = true) : x_C l Y0 yX8_begin cX8_begin 2 (some .int) 4 0 0 [.ref c, .int (nI k)] M (fun u M1 => u = some (.int (h_begun P (h_begin P A k))) ∧ M1 = x_ov M a (hvT a p P (h_begin P A k) hx sk ht)) := by
  refine x_start hO (by decide +kernel) (Nat.le_of_ble_eq_true rfl) (fun K C E => ?_)
  have hP0 := hP
  have hQ0 := hQ
  obtain ⟨h8, h6, h16, hnp, hwho, hvb, hts⟩ := hP
  obtain ⟨hq0, hq1, hq2, hq3, hq4, hq5, hq6⟩ := hQ
  have hpF : ∀ L : List x_E, L.length = 20 → x_bk (x_ov M a L) p (plT p Q) := fun L h => x_ov_far 20 hp h hd
  have hcF : ∀ L : List x_E, L.length = 20 → x_bk (x_ov M a L) c [.inr (8, fs)] := fun L h => x_ov_far 20 hc h hdc
  refine x_to (x_ov_self hb).symm ?_
  refine x_aload_n C dX8_begin_0 rfl rfl ?_
  refine x_iload_n C dX8_begin_1 rfl rfl ?_
  refine x_callV1 C dX8_begin_2 kX8_127 (c_X8_requireDeal hO hP0 hQ0 x_ov_bk (hpF _ rfl) (hcF _ rfl) hc2 hc4 hk9 hk) ((hcF _ rfl) 0 _ rfl) rfl (by decide) ⟨Nat.zero_le _, Nat.zero_le _⟩ (Nat.le_of_ble_eq_true rfl) ?_
  rintro _ _ ⟨rfl, rfl⟩
  refine x_aload_n C dX8_begin_5 rfl rfl ?_
  refine x_getfield C dX8_begin_6 fX8_40 ((hcF _ rfl) 0 _ rfl) hc4 ?_
  refine x_iload_n C dX8_begin_9 rfl rfl ?_
  refine x_callV1 C dX8_begin_10 kX8_165 (c_X0_startDeal hO hP0 hQ0 x_ov_bk (hpF _ rfl) hd hk9 hk) (x_ovg 0 rfl) rfl (by decide) ⟨Nat.zero_le _, Nat.zero_le _⟩ (Nat.le_of_ble_eq_true rfl) ?_
  rintro _ _ ⟨rfl, rfl⟩
  refine x_to (x_ov_ov rfl) ?_
  rw [if_pos hcan, hcan]
  refine x_if_ne (tgt := 26) C dX8_begin_13 (by decide) (fun c13 => ?_) (fun c13 => absurd c13 (by decide))
  refine x_aload_n C dX8_begin_26 rfl rfl ?_
  refine x_getfield C dX8_begin_27 fX8_40 ((hcF _ rfl) 0 _ rfl) hc4 ?_
  refine x_callV0 C dX8_begin_30 kX8_170 (c_X0_countBegun hO hP0 hQ0 x_ov_bk (hpF _ rfl)) (x_ovg 0 rfl) rfl (by decide) ⟨Nat.zero_le _, Nat.zero_le _⟩ (Nat.le_of_ble_eq_true rfl) ?_
  rintro _ _ ⟨rfl, rfl⟩
  refine x_iret C E dX8_begin_33 ?_
  exact ⟨rfl, rfl⟩
set_option maxHeartbeats 4000000 in
set_option maxRecDepth 100000 in
theorem c_X8_crash {l : Launch} {Y0 : x_Y} (hO : x_Ok Y0) {M : x_M} {a p : Nat} {P : PL} {A : HS} {hx sk : Nat → Int32} {ht : Int32} {Q : HS} (hP : p_ok P) (hQ : q_is Q P) (hb : x_bk M a (hvT a p P A hx sk ht)) (hp : x_bk M p (plT p Q)) {c : Nat} {fs : List Value} (hc : x_bk M c [.inr (8, fs)]) (hc2 : fs[2]? = some (.ref p)) (hc4 : fs[4]? = some (.ref a)) (hk9 : h_ok P A) (hd : p + 21 ≤ a ∨ a + 20 ≤ p) (hdc : c + 1 ≤ a ∨ a + 20 ≤ c) {d : Nat} (hd9 : d < p_nd P) (hu : A 1 d = 0) : x_C l Y0 yX8_crash cX8_crash 2 (some .int) 4 0 0 [.ref c, .int (nI d)] M (fun u M1 => u = some (.int (h_awake P (h_u A 1 d 1))) ∧ M1 = x_ov M a (hvT a p P (h_u A 1 d 1) hx sk ht)) := by
  refine x_start hO (by decide +kernel) (Nat.le_of_ble_eq_true rfl) (fun K C E => ?_)
  have hP0 := hP
  have hQ0 := hQ
  obtain ⟨h8, h6, h16, hnp, hwho, hvb, hts⟩ := hP
  obtain ⟨hq0, hq1, hq2, hq3, hq4, hq5, hq6⟩ := hQ
  have hpF : ∀ L : List x_E, L.length = 20 → x_bk (x_ov M a L) p (plT p Q) := fun L h => x_ov_far 20 hp h hd
  have hcF : ∀ L : List x_E, L.length = 20 → x_bk (x_ov M a L) c [.inr (8, fs)] := fun L h => x_ov_far 20 hc h hdc
  refine x_to (x_ov_self hb).symm ?_
  refine x_aload_n C dX8_crash_0 rfl rfl ?_
  refine x_iload_n C dX8_crash_1 rfl rfl ?_
  refine x_callV1 C dX8_crash_2 kX8_111 (c_X8_requireDrone hO hP0 hQ0 x_ov_bk (hpF _ rfl) (hcF _ rfl) hc2 hc4 hk9 hd9) ((hcF _ rfl) 0 _ rfl) rfl (by decide) ⟨Nat.zero_le _, Nat.zero_le _⟩ (Nat.le_of_ble_eq_true rfl) ?_
  rintro _ _ ⟨rfl, rfl⟩
  refine x_aload_n C dX8_crash_5 rfl rfl ?_
  refine x_getfield C dX8_crash_6 fX8_40 ((hcF _ rfl) 0 _ rfl) hc4 ?_
  refine x_iload_n C dX8_crash_9 rfl rfl ?_
  refine x_callV1 C dX8_crash_10 kX8_173 (c_X0_putToSleep hO hP0 hQ0 x_ov_bk (hpF _ rfl) hd hk9 (show d ≤ 8 by omega)) (x_ovg 0 rfl) rfl (by decide) ⟨Nat.zero_le _, Nat.zero_le _⟩ (Nat.le_of_ble_eq_true rfl) ?_
  rintro _ _ ⟨rfl, rfl⟩
  refine x_to (x_ov_ov rfl) ?_
  rw [show h_upI A d = 1 from if_pos hu, show h_sleep A d = h_u A 1 d 1 from if_pos hu]
  refine x_if_ne (tgt := 26) C dX8_crash_13 (by decide) (fun c13 => ?_) (fun c13 => absurd c13 (by decide))
  refine x_aload_n C dX8_crash_26 rfl rfl ?_
  refine x_getfield C dX8_crash_27 fX8_40 ((hcF _ rfl) 0 _ rfl) hc4 ?_
  refine x_callV0 C dX8_crash_30 kX8_178 (c_X0_countUp hO hP0 hQ0 x_ov_bk (hpF _ rfl)) (x_ovg 0 rfl) rfl (by decide) ⟨Nat.zero_le _, Nat.zero_le _⟩ (Nat.le_of_ble_eq_true rfl) ?_
  rintro _ _ ⟨rfl, rfl⟩
  refine x_iret C E dX8_crash_33 ?_
  exact ⟨rfl, rfl⟩
set_option maxHeartbeats 4000000 in
set_option maxRecDepth 100000 in
theorem c_X8_wake {l : Launch} {Y0 : x_Y} (hO : x_Ok Y0) {M : x_M} {a p : Nat} {P : PL} {A : HS} {hx sk : Nat → Int32} {ht : Int32} {Q : HS} (hP : p_ok P) (hQ : q_is Q P) (hb : x_bk M a (hvT a p P A hx sk ht)) (hp : x_bk M p (plT p Q)) {c : Nat} {fs : List Value} (hc : x_bk M c [.inr (8, fs)]) (hc2 : fs[2]? = some (.ref p)) (hc4 : fs[4]? = some (.ref a)) (hk9 : h_ok P A) (hd : p + 21 ≤ a ∨ a + 20 ≤ p) (hdc : c + 1 ≤ a ∨ a + 20 ≤ c) {d : Nat} (hd9 : d < p_nd P) (hu : ¬ A 1 d = 0) : x_C l Y0 yX8_wake cX8_wake 2 (some .int) 4 0 0 [.ref c, .int (nI d)] M (fun u M1 => u = some (.int (h_awake P (h_u A 1 d 0))) ∧ M1 = x_ov M a (hvT a p P (h_u A 1 d 0) hx sk ht)) := by
  refine x_start hO (by decide +kernel) (Nat.le_of_ble_eq_true rfl) (fun K C E => ?_)
  have hP0 := hP
  have hQ0 := hQ
  obtain ⟨h8, h6, h16, hnp, hwho, hvb, hts⟩ := hP
  obtain ⟨hq0, hq1, hq2, hq3, hq4, hq5, hq6⟩ := hQ
  have hpF : ∀ L : List x_E, L.length = 20 → x_bk (x_ov M a L) p (plT p Q) := fun L h => x_ov_far 20 hp h hd
  have hcF : ∀ L : List x_E, L.length = 20 → x_bk (x_ov M a L) c [.inr (8, fs)] := fun L h => x_ov_far 20 hc h hdc
  refine x_to (x_ov_self hb).symm ?_
  refine x_aload_n C dX8_wake_0 rfl rfl ?_
  refine x_iload_n C dX8_wake_1 rfl rfl ?_
  refine x_callV1 C dX8_wake_2 kX8_111 (c_X8_requireDrone hO hP0 hQ0 x_ov_bk (hpF _ rfl) (hcF _ rfl) hc2 hc4 hk9 hd9) ((hcF _ rfl) 0 _ rfl) rfl (by decide) ⟨Nat.zero_le _, Nat.zero_le _⟩ (Nat.le_of_ble_eq_true rfl) ?_
  rintro _ _ ⟨rfl, rfl⟩
  refine x_aload_n C dX8_wake_5 rfl rfl ?_
  refine x_getfield C dX8_wake_6 fX8_40 ((hcF _ rfl) 0 _ rfl) hc4 ?_
  refine x_iload_n C dX8_wake_9 rfl rfl ?_
  refine x_callV1 C dX8_wake_10 kX8_181 (c_X0_rouse hO hP0 hQ0 x_ov_bk (hpF _ rfl) hd hk9 (show d ≤ 8 by omega)) (x_ovg 0 rfl) rfl (by decide) ⟨Nat.zero_le _, Nat.zero_le _⟩ (Nat.le_of_ble_eq_true rfl) ?_
  rintro _ _ ⟨rfl, rfl⟩
  refine x_to (x_ov_ov rfl) ?_
  rw [show h_upI A d = 0 from if_neg hu, show h_rouse P A d = h_u A 1 d 0 from (if_neg hu).trans (if_neg (by omega))]
  refine x_if_ne (tgt := 26) C dX8_wake_13 (by decide) (fun c13 => ?_) (fun c13 => absurd c13 (by decide))
  refine x_aload_n C dX8_wake_26 rfl rfl ?_
  refine x_getfield C dX8_wake_27 fX8_40 ((hcF _ rfl) 0 _ rfl) hc4 ?_
  refine x_callV0 C dX8_wake_30 kX8_178 (c_X0_countUp hO hP0 hQ0 x_ov_bk (hpF _ rfl)) (x_ovg 0 rfl) rfl (by decide) ⟨Nat.zero_le _, Nat.zero_le _⟩ (Nat.le_of_ble_eq_true rfl) ?_
  rintro _ _ ⟨rfl, rfl⟩
  refine x_iret C E dX8_wake_33 ?_
  exact ⟨rfl, rfl⟩
set_option maxHeartbeats 4000000 in
set_option maxRecDepth 100000 in
theorem c_X8_crashQueen {l : Launch} {Y0 : x_Y} (hO : x_Ok Y0) {M : x_M} {a p : Nat} {P : PL} {A : HS} {hx sk : Nat → Int32} {ht : Int32} {Q : HS} (hP : p_ok P) (hQ : q_is Q P) (hb : x_bk M a (hvT a p P A hx sk ht)) (hp : x_bk M p (plT p Q)) {c : Nat} {fs : List Value} (hc : x_bk M c [.inr (8, fs)]) (hc2 : fs[2]? = some (.ref p)) (hc4 : fs[4]? = some (.ref a)) (hk9 : h_ok P A) (hd : p + 21 ≤ a ∨ a + 20 ≤ p) (hdc : c + 1 ≤ a ∨ a + 20 ≤ c) (hu : A 1 8 = 0) : x_C l Y0 yX8_crashQueen cX8_crashQueen 1 (some .int) 4 0 0 [.ref c] M (fun u M1 => u = some (.int (h_begun P (h_u A 1 8 1))) ∧ M1 = x_ov M a (hvT a p P (h_u A 1 8 1) hx sk ht)) := by
  refine x_start hO (by decide +kernel) (Nat.le_of_ble_eq_true rfl) (fun K C E => ?_)
  have hP0 := hP
  have hQ0 := hQ
  obtain ⟨h8, h6, h16, hnp, hwho, hvb, hts⟩ := hP
  obtain ⟨hq0, hq1, hq2, hq3, hq4, hq5, hq6⟩ := hQ
  have hpF : ∀ L : List x_E, L.length = 20 → x_bk (x_ov M a L) p (plT p Q) := fun L h => x_ov_far 20 hp h hd
  have hcF : ∀ L : List x_E, L.length = 20 → x_bk (x_ov M a L) c [.inr (8, fs)] := fun L h => x_ov_far 20 hc h hdc
  refine x_to (x_ov_self hb).symm ?_
  refine x_aload_n C dX8_crashQueen_0 rfl rfl ?_
  refine x_getfield C dX8_crashQueen_1 fX8_40 ((hcF _ rfl) 0 _ rfl) hc4 ?_
  refine x_bipush (v := 8) C dX8_crashQueen_4 (by decide) ?_
  refine x_callV1 C dX8_crashQueen_6 kX8_173 (c_X0_putToSleep hO hP0 hQ0 x_ov_bk (hpF _ rfl) hd hk9 (Nat.le_refl 8)) (x_ovg 0 rfl) rfl (by decide) ⟨Nat.zero_le _, Nat.zero_le _⟩ (Nat.le_of_ble_eq_true rfl) ?_
  rintro _ _ ⟨rfl, rfl⟩
  refine x_to (x_ov_ov rfl) ?_
  rw [show h_upI A 8 = 1 from if_pos hu, show h_sleep A 8 = h_u A 1 8 1 from if_pos hu]
  refine x_if_ne (tgt := 22) C dX8_crashQueen_9 (by decide) (fun c9 => ?_) (fun c9 => absurd c9 (by decide))
  refine x_aload_n C dX8_crashQueen_22 rfl rfl ?_
  refine x_getfield C dX8_crashQueen_23 fX8_40 ((hcF _ rfl) 0 _ rfl) hc4 ?_
  refine x_callV0 C dX8_crashQueen_26 kX8_170 (c_X0_countBegun hO hP0 hQ0 x_ov_bk (hpF _ rfl)) (x_ovg 0 rfl) rfl (by decide) ⟨Nat.zero_le _, Nat.zero_le _⟩ (Nat.le_of_ble_eq_true rfl) ?_
  rintro _ _ ⟨rfl, rfl⟩
  refine x_iret C E dX8_crashQueen_29 ?_
  exact ⟨rfl, rfl⟩
set_option maxHeartbeats 4000000 in
set_option maxRecDepth 100000 in
theorem c_X8_wakeQueen {l : Launch} {Y0 : x_Y} (hO : x_Ok Y0) {M : x_M} {a p : Nat} {P : PL} {A : HS} {hx sk : Nat → Int32} {ht : Int32} {Q : HS} (hP : p_ok P) (hQ : q_is Q P) (hb : x_bk M a (hvT a p P A hx sk ht)) (hp : x_bk M p (plT p Q)) {c : Nat} {fs : List Value} (hc : x_bk M c [.inr (8, fs)]) (hc2 : fs[2]? = some (.ref p)) (hc4 : fs[4]? = some (.ref a)) (hk9 : h_ok P A) (hd : p + 21 ≤ a ∨ a + 20 ≤ p) (hdc : c + 1 ≤ a ∨ a + 20 ≤ c) (hu : ¬ A 1 8 = 0) : x_C l Y0 yX8_wakeQueen cX8_wakeQueen 2 (some .int) 4 0 0 [.ref c] M (fun u M1 => u = some (.int (h_begun P A)) ∧ M1 = x_ov M a (hvT a p P (h_refuse P (h_u A 1 8 0)) hx sk ht)) := by
  refine x_start hO (by decide +kernel) (Nat.le_of_ble_eq_true rfl) (fun K C E => ?_)
  have hP0 := hP
  have hQ0 := hQ
  obtain ⟨h8, h6, h16, hnp, hwho, hvb, hts⟩ := hP
  obtain ⟨hq0, hq1, hq2, hq3, hq4, hq5, hq6⟩ := hQ
  have hpF : ∀ L : List x_E, L.length = 20 → x_bk (x_ov M a L) p (plT p Q) := fun L h => x_ov_far 20 hp h hd
  have hcF : ∀ L : List x_E, L.length = 20 → x_bk (x_ov M a L) c [.inr (8, fs)] := fun L h => x_ov_far 20 hc h hdc
  refine x_to (x_ov_self hb).symm ?_
  refine x_aload_n C dX8_wakeQueen_0 rfl rfl ?_
  refine x_getfield C dX8_wakeQueen_1 fX8_40 ((hcF _ rfl) 0 _ rfl) hc4 ?_
  refine x_callV0 C dX8_wakeQueen_4 kX8_170 (c_X0_countBegun hO hP0 hQ0 x_ov_bk (hpF _ rfl)) (x_ovg 0 rfl) rfl (by decide) ⟨Nat.zero_le _, Nat.zero_le _⟩ (Nat.le_of_ble_eq_true rfl) ?_
  rintro _ _ ⟨rfl, rfl⟩
  refine x_istore_n C dX8_wakeQueen_7 rfl rfl (by decide) ?_
  refine x_aload_n C dX8_wakeQueen_8 rfl rfl ?_
  refine x_getfield C dX8_wakeQueen_9 fX8_40 ((hcF _ rfl) 0 _ rfl) hc4 ?_
  refine x_bipush (v := 8) C dX8_wakeQueen_12 (by decide) ?_
  refine x_callV1 C dX8_wakeQueen_14 kX8_181 (c_X0_rouse hO hP0 hQ0 x_ov_bk (hpF _ rfl) hd hk9 (Nat.le_refl 8)) (x_ovg 0 rfl) rfl (by decide) ⟨Nat.zero_le _, Nat.zero_le _⟩ (Nat.le_of_ble_eq_true rfl) ?_
  rintro _ _ ⟨rfl, rfl⟩
  refine x_to (x_ov_ov rfl) ?_
  rw [show h_upI A 8 = 0 from if_neg hu, show h_rouse P A 8 = h_refuse P (h_u A 1 8 0) from (if_neg hu).trans (if_pos rfl)]
  refine x_if_ne (tgt := 30) C dX8_wakeQueen_17 (by decide) (fun c17 => ?_) (fun c17 => absurd c17 (by decide))
  refine x_iload_n C dX8_wakeQueen_30 rfl rfl ?_
  refine x_iret C E dX8_wakeQueen_31 ?_
  exact ⟨rfl, rfl⟩
set_option maxHeartbeats 4000000 in
set_option maxRecDepth 100000 in
theorem c_X8_passDays {l : Launch} {Y0 : x_Y} (hO : x_Ok Y0) {M : x_M} {a p : Nat} {P : PL} {A : HS} {hx sk : Nat → Int32} {ht : Int32} {Q : HS} (hP : p_ok P) (hQ : q_is Q P) (hb : x_bk M a (hvT a p P A hx sk ht)) (hp : x_bk M p (plT p Q)) {c : Nat} {fs : List Value} (hc : x_bk M c [.inr (8, fs)]) (hc2 : fs[2]? = some (.ref p)) (hc4 : fs[4]? = some (.ref a)) (hk9 : h_ok P A) (hd : p + 21 ≤ a ∨ a + 20 ≤ p) (hdc : c + 1 ≤ a ∨ a + 20 ≤ c) {n : Nat} (hn1 : 1 ≤ n) (hn30 : n ≤ 30) : x_C l Y0 yX8_passDays cX8_passDays 4 (some .int) 7 0 0 [.ref c, .int (nI n)] M (fun u M1 => u = some (.int (h_it (h_pass P) n (A, 0)).2) ∧ ∃ (sk1 : Nat → Int32) (ht1 : Int32), M1 = x_ov M a (hvT a p P (h_it (h_pass P) n (A, 0)).1 hx sk1 ht1)) := by
  refine x_start hO (by decide +kernel) (Nat.le_of_ble_eq_true rfl) (fun K C E => ?_)
  have hP0 := hP
  have hQ0 := hQ
  obtain ⟨h8, h6, h16, hnp, hwho, hvb, hts⟩ := hP
  obtain ⟨hq0, hq1, hq2, hq3, hq4, hq5, hq6⟩ := hQ
  have hpF : ∀ L : List x_E, L.length = 20 → x_bk (x_ov M a L) p (plT p Q) := fun L h => x_ov_far 20 hp h hd
  have hcF : ∀ L : List x_E, L.length = 20 → x_bk (x_ov M a L) c [.inr (8, fs)] := fun L h => x_ov_far 20 hc h hdc
  refine x_to (x_ov_self hb).symm ?_
  have h19 : ¬ nI n < 1 := Int32.not_lt.mpr (show nI 1 ≤ nI n from nI_le hn1 (by omega))
  have h29 : nI n ≤ 30 := show nI n ≤ nI 30 from nI_le hn30 (by decide)
  have lp : ∀ (w i : Nat) (x : Int32) (B : HS × Int32) (sk : Nat → Int32) (ht : Int32), i + w = n → x = nI i → B = h_it (h_pass P) i (A, 0) → h_ok P B.1 → x_X K 4 0 0 8 [(0, .ref c), (1, .int (nI n)), (2, .int B.2), (3, .int x)] [] (x_ov M a (hvT a p P B.1 hx sk ht)) := by
    intro w
    induction w with
    | zero =>
      intro i x B sk ht hi hx9 hz hkB
      subst hx9
      have e : i = n := by omega
      subst e
      refine x_iload_n C dX8_passDays_8 rfl rfl ?_
      refine x_iload_n C dX8_passDays_9 rfl rfl ?_
      refine x_icmp_ge (tgt := 29) C dX8_passDays_10 (by decide) (fun c10 => ?_) (fun c10 => absurd (nI_le (Nat.le_refl _) (by omega)) c10)
      refine x_iload_n C dX8_passDays_29 rfl rfl ?_
      refine x_iret C E dX8_passDays_30 ?_
      exact ⟨by rw [hz], sk, ht, by rw [hz]⟩
    | succ w ih =>
      intro i x B sk ht hi hx9 hz hkB
      subst hx9
      refine x_iload_n C dX8_passDays_8 rfl rfl ?_
      refine x_iload_n C dX8_passDays_9 rfl rfl ?_
      refine x_icmp_ge (tgt := 29) C dX8_passDays_10 (by decide) (fun c10 => absurd c10 (nI_ge (by omega) (by omega))) (fun c10 => ?_)
      refine x_iload_n C dX8_passDays_13 rfl rfl ?_
      refine x_aload_n C dX8_passDays_14 rfl rfl ?_
      refine x_getfield C dX8_passDays_15 fX8_40 ((hcF _ rfl) 0 _ rfl) hc4 ?_
      refine x_callV0 C dX8_passDays_18 kX8_193 (c_X0_passOneDay hO hP0 hQ0 x_ov_bk (hpF _ rfl) hd hkB) (x_ovg 0 rfl) rfl (by decide) ⟨Nat.zero_le _, Nat.zero_le _⟩ (Nat.le_of_ble_eq_true rfl) ?_
      rintro _ _ ⟨rfl, sk1, ht1, rfl⟩
      refine x_to (x_ov_ov rfl) ?_
      refine x_iadd C dX8_passDays_21 ?_
      refine x_istore_n C dX8_passDays_22 rfl rfl (by decide) ?_
      refine x_iinc (v := 1) C dX8_passDays_23 rfl (by decide) rfl (by decide) ?_
      refine x_goto (tgt := 8) C dX8_passDays_26 (by decide) ?_
      refine x_take 4 ?_
      exact ih (i + 1) _ (h_pass P B i) _ _ (by omega) (nI_1 i) (by rw [hz]; rfl) (h_ok_day hP0 hkB)
  refine x_iload_n C dX8_passDays_0 rfl rfl ?_
  refine x_callS1 C dX8_passDays_1 kX8_190 (c_X8_requireDays hO h19 h29) (by decide) ⟨Nat.zero_le _, Nat.zero_le _⟩ (Nat.le_of_ble_eq_true rfl) ?_
  rintro _ _ ⟨rfl, rfl⟩
  refine x_iconst (v := 0) C dX8_passDays_4 (by decide) ?_
  refine x_istore_n C dX8_passDays_5 rfl rfl (by decide) ?_
  refine x_iconst (v := 0) C dX8_passDays_6 (by decide) ?_
  refine x_istore_n C dX8_passDays_7 rfl rfl (by decide) ?_
  refine x_take 4 ?_
  exact lp n 0 0 (A, 0) sk ht (by omega) rfl rfl hk9
