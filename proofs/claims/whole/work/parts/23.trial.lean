set_option maxHeartbeats 4000000 in
set_option maxRecDepth 100000 in
theorem c_X8_tryDays {l : Launch} {Y0 : x_Y} (hO : x_Ok Y0) {M : x_M} {a p : Nat} {P : PL} {A : HS} {hx sk : Nat → Int32} {ht : Int32} {Q : HS} (hP : p_ok P) (hQ : q_is Q P) (hb : x_bk M a (hvT a p P A hx sk ht)) (hp : x_bk M p (plT p Q)) {c : Nat} {fs : List Value} (hc : x_bk M c [.inr (8, fs)]) (hc2 : fs[2]? = some (.ref p)) (hc4 : fs[4]? = some (.ref a)) (hk9 : h_ok P A) {t : Nat} {T : HS} {hy sl : Nat → Int32} {hu : Int32} (hc5 : fs[5]? = some (.ref t)) (ht0 : x_bk M t (hvT t p P T hy sl hu)) (hdt : p + 21 ≤ t ∨ t + 20 ≤ p) (hdct : c + 1 ≤ t ∨ t + 20 ≤ c) (hat : a + 20 ≤ t ∨ t + 20 ≤ a) {n : Nat} (hn30 : n ≤ 30) : x_C l Y0 yX8_tryDays cX8_tryDays 3 none 7 0 0 [.ref c, .int (nI n)] M (fun u M1 => u = none ∧ ∃ (sk1 : Nat → Int32) (ht1 : Int32), M1 = x_ov M t (hvT t p P (h_it (h_pass P) n (A, 0)).1 hx sk1 ht1)) := by
  refine x_start hO (by decide +kernel) (Nat.le_of_ble_eq_true rfl) (fun K C E => ?_)
  have hP0 := hP
  have hQ0 := hQ
  obtain ⟨h8, h6, h16, hnp, hwho, hvb, hts⟩ := hP
  obtain ⟨hq0, hq1, hq2, hq3, hq4, hq5, hq6⟩ := hQ
  have hpF : ∀ L : List x_E, L.length = 20 → x_bk (x_ov M t L) p (plT p Q) := fun L h => x_ov_far 20 hp h hdt
  have hcF : ∀ L : List x_E, L.length = 20 → x_bk (x_ov M t L) c [.inr (8, fs)] := fun L h => x_ov_far 20 hc h hdct
  have haF : ∀ L : List x_E, L.length = 20 → x_bk (x_ov M t L) a (hvT a p P A hx sk ht) := fun L h => x_ov_far 20 hb h hat
  refine x_to (x_ov_self ht0).symm ?_
  have lp : ∀ (w i : Nat) (x : Int32) (B : HS × Int32) (sl : Nat → Int32) (hu : Int32), i + w = n → x = nI i → B = h_it (h_pass P) i (A, 0) → h_ok P B.1 → x_X K 3 0 0 13 [(0, .ref c), (1, .int (nI n)), (2, .int x)] [] (x_ov M t (hvT t p P B.1 hx sl hu)) := by
    intro w
    induction w with
    | zero =>
      intro i x B sl hu hi hx9 hz hkB
      subst hx9
      have e : i = n := by omega
      subst e
      refine x_iload_n C dX8_tryDays_13 rfl rfl ?_
      refine x_iload_n C dX8_tryDays_14 rfl rfl ?_
      refine x_icmp_ge (tgt := 32) C dX8_tryDays_15 (by decide) (fun c15 => ?_) (fun c15 => absurd (nI_le (Nat.le_refl _) (by omega)) c15)
      refine x_vret C E dX8_tryDays_32 ?_
      exact ⟨rfl, sl, hu, by rw [hz]⟩
    | succ w ih =>
      intro i x B sl hu hi hx9 hz hkB
      subst hx9
      refine x_iload_n C dX8_tryDays_13 rfl rfl ?_
      refine x_iload_n C dX8_tryDays_14 rfl rfl ?_
      refine x_icmp_ge (tgt := 32) C dX8_tryDays_15 (by decide) (fun c15 => absurd c15 (nI_ge (by omega) (by omega))) (fun c15 => ?_)
      refine x_aload_n C dX8_tryDays_18 rfl rfl ?_
      refine x_getfield C dX8_tryDays_19 fX8_44 ((hcF _ rfl) 0 _ rfl) hc5 ?_
      refine x_callV0 C dX8_tryDays_22 kX8_193 (c_X0_passOneDay hO hP0 hQ0 x_ov_bk (hpF _ rfl) hdt hkB) (x_ovg 0 rfl) rfl (by decide) ⟨Nat.zero_le _, Nat.zero_le _⟩ (Nat.le_of_ble_eq_true rfl) ?_
      rintro _ _ ⟨rfl, sk1, ht1, rfl⟩
      refine x_to (x_ov_ov rfl) ?_
      refine x_pop C dX8_tryDays_25 rfl ?_
      refine x_iinc (v := 1) C dX8_tryDays_26 rfl (by decide) rfl (by decide) ?_
      refine x_goto (tgt := 13) C dX8_tryDays_29 (by decide) ?_
      refine x_take 3 ?_
      exact ih (i + 1) _ (h_pass P B i) _ _ (by omega) (nI_1 i) (by rw [hz]; rfl) (h_ok_day hP0 hkB)
  refine x_aload_n C dX8_tryDays_0 rfl rfl ?_
  refine x_getfield C dX8_tryDays_1 fX8_44 ((hcF _ rfl) 0 _ rfl) hc5 ?_
  refine x_aload_n C dX8_tryDays_4 rfl rfl ?_
  refine x_getfield C dX8_tryDays_5 fX8_40 ((hcF _ rfl) 0 _ rfl) hc4 ?_
  refine x_callV1 C dX8_tryDays_8 kX8_199 (c_X0_copyFrom hO x_ov_bk (haF _ rfl) hk9 hat) (x_ovg 0 rfl) rfl (by decide) ⟨Nat.zero_le _, Nat.zero_le _⟩ (Nat.le_of_ble_eq_true rfl) ?_
  rintro _ _ ⟨rfl, rfl⟩
  refine x_to (x_ov_ov rfl) ?_
  refine x_iconst (v := 0) C dX8_tryDays_11 (by decide) ?_
  refine x_istore_n C dX8_tryDays_12 rfl rfl (by decide) ?_
  refine x_take 3 ?_
  exact lp n 0 0 (A, 0) _ _ (by omega) rfl rfl hk9
set_option maxHeartbeats 4000000 in
set_option maxRecDepth 100000 in
theorem c_X8_honeyAfter {l : Launch} {Y0 : x_Y} (hO : x_Ok Y0) {M : x_M} {a p : Nat} {P : PL} {A : HS} {hx sk : Nat → Int32} {ht : Int32} {Q : HS} (hP : p_ok P) (hQ : q_is Q P) (hb : x_bk M a (hvT a p P A hx sk ht)) (hp : x_bk M p (plT p Q)) {c : Nat} {fs : List Value} (hc : x_bk M c [.inr (8, fs)]) (hc2 : fs[2]? = some (.ref p)) (hc4 : fs[4]? = some (.ref a)) (hk9 : h_ok P A) {t : Nat} {T : HS} {hy sl : Nat → Int32} {hu : Int32} (hc5 : fs[5]? = some (.ref t)) (ht0 : x_bk M t (hvT t p P T hy sl hu)) (hdt : p + 21 ≤ t ∨ t + 20 ≤ p) (hdct : c + 1 ≤ t ∨ t + 20 ≤ c) (hat : a + 20 ≤ t ∨ t + 20 ≤ a) {d : Nat} (hd9 : d < p_nd P) {n : Nat} (hn1 : 1 ≤ n) (hn30 : n ≤ 30) : x_C l Y0 yX8_honeyAfter cX8_honeyAfter 3 (some .int) 8 0 0 [.ref c, .int (nI d), .int (nI n)] M (fun u M1 => u = some (.int ((h_it (h_pass P) n (A, 0)).1 0 d)) ∧ ∃ (sk1 : Nat → Int32) (ht1 : Int32), M1 = x_ov M t (hvT t p P (h_it (h_pass P) n (A, 0)).1 hx sk1 ht1)) := by
  refine x_start hO (by decide +kernel) (Nat.le_of_ble_eq_true rfl) (fun K C E => ?_)
  have hP0 := hP
  have hQ0 := hQ
  obtain ⟨h8, h6, h16, hnp, hwho, hvb, hts⟩ := hP
  obtain ⟨hq0, hq1, hq2, hq3, hq4, hq5, hq6⟩ := hQ
  have hpF : ∀ L : List x_E, L.length = 20 → x_bk (x_ov M t L) p (plT p Q) := fun L h => x_ov_far 20 hp h hdt
  have hcF : ∀ L : List x_E, L.length = 20 → x_bk (x_ov M t L) c [.inr (8, fs)] := fun L h => x_ov_far 20 hc h hdct
  have haF : ∀ L : List x_E, L.length = 20 → x_bk (x_ov M t L) a (hvT a p P A hx sk ht) := fun L h => x_ov_far 20 hb h hat
  refine x_to (x_ov_self ht0).symm ?_
  have h19 : ¬ nI n < 1 := Int32.not_lt.mpr (show nI 1 ≤ nI n from nI_le hn1 (by omega))
  have h29 : nI n ≤ 30 := show nI n ≤ nI 30 from nI_le hn30 (by decide)
  refine x_aload_n C dX8_honeyAfter_0 rfl rfl ?_
  refine x_iload_n C dX8_honeyAfter_1 rfl rfl ?_
  refine x_callV1 C dX8_honeyAfter_2 kX8_111 (c_X8_requireDrone hO hP0 hQ0 (haF _ rfl) (hpF _ rfl) (hcF _ rfl) hc2 hc4 hk9 hd9) ((hcF _ rfl) 0 _ rfl) rfl (by decide) ⟨Nat.zero_le _, Nat.zero_le _⟩ (Nat.le_of_ble_eq_true rfl) ?_
  rintro _ _ ⟨rfl, rfl⟩
  refine x_iload_n C dX8_honeyAfter_5 rfl rfl ?_
  refine x_callS1 C dX8_honeyAfter_6 kX8_190 (c_X8_requireDays hO h19 h29) (by decide) ⟨Nat.zero_le _, Nat.zero_le _⟩ (Nat.le_of_ble_eq_true rfl) ?_
  rintro _ _ ⟨rfl, rfl⟩
  refine x_aload_n C dX8_honeyAfter_9 rfl rfl ?_
  refine x_iload_n C dX8_honeyAfter_10 rfl rfl ?_
  refine x_callV1 C dX8_honeyAfter_11 kX8_196 (c_X8_tryDays hO hP0 hQ0 (haF _ rfl) (hpF _ rfl) (hcF _ rfl) hc2 hc4 hk9 hc5 x_ov_bk hdt hdct hat hn30) ((hcF _ rfl) 0 _ rfl) rfl (by decide) ⟨Nat.zero_le _, Nat.zero_le _⟩ (Nat.le_of_ble_eq_true rfl) ?_
  rintro _ _ ⟨rfl, sk1, ht1, rfl⟩
  refine x_to (x_ov_ov rfl) ?_
  refine x_aload_n C dX8_honeyAfter_14 rfl rfl ?_
  refine x_getfield C dX8_honeyAfter_15 fX8_44 ((hcF _ rfl) 0 _ rfl) hc5 ?_
  refine x_getfield C dX8_honeyAfter_18 fX8_97 (x_ovg 0 rfl) rfl ?_
  refine x_iload_n C dX8_honeyAfter_21 rfl rfl ?_
  refine x_callV1 C dX8_honeyAfter_22 kX8_114 (c_X4_get hO (by decide) (x_bk_sub x_ov_bk 4 rfl)) (x_ovg 4 rfl) rfl (by decide) ⟨Nat.zero_le _, Nat.zero_le _⟩ (Nat.le_of_ble_eq_true rfl) ?_
  rintro _ _ ⟨rfl, rfl⟩
  rw [rg_nI (show d < 8 by omega) (by decide)]
  rw [s_fill_in hd9]
  refine x_iret C E dX8_honeyAfter_25 ?_
  exact ⟨rfl, sk1, ht1, rfl⟩
set_option maxHeartbeats 4000000 in
set_option maxRecDepth 100000 in
theorem c_X8_stateAfter {l : Launch} {Y0 : x_Y} (hO : x_Ok Y0) {M : x_M} {a p : Nat} {P : PL} {A : HS} {hx sk : Nat → Int32} {ht : Int32} {Q : HS} (hP : p_ok P) (hQ : q_is Q P) (hb : x_bk M a (hvT a p P A hx sk ht)) (hp : x_bk M p (plT p Q)) {c : Nat} {fs : List Value} (hc : x_bk M c [.inr (8, fs)]) (hc2 : fs[2]? = some (.ref p)) (hc4 : fs[4]? = some (.ref a)) (hk9 : h_ok P A) {t : Nat} {T : HS} {hy sl : Nat → Int32} {hu : Int32} (hc5 : fs[5]? = some (.ref t)) (ht0 : x_bk M t (hvT t p P T hy sl hu)) (hdt : p + 21 ≤ t ∨ t + 20 ≤ p) (hdct : c + 1 ≤ t ∨ t + 20 ≤ c) (hat : a + 20 ≤ t ∨ t + 20 ≤ a) {k : Nat} (hk : k < p_nk P) {n : Nat} (hn1 : 1 ≤ n) (hn30 : n ≤ 30) : x_C l Y0 yX8_stateAfter cX8_stateAfter 3 (some .int) 8 0 0 [.ref c, .int (nI k), .int (nI n)] M (fun u M1 => u = some (.int ((h_it (h_pass P) n (A, 0)).1 4 k)) ∧ ∃ (sk1 : Nat → Int32) (ht1 : Int32), M1 = x_ov M t (hvT t p P (h_it (h_pass P) n (A, 0)).1 hx sk1 ht1)) := by
  refine x_start hO (by decide +kernel) (Nat.le_of_ble_eq_true rfl) (fun K C E => ?_)
  have hP0 := hP
  have hQ0 := hQ
  obtain ⟨h8, h6, h16, hnp, hwho, hvb, hts⟩ := hP
  obtain ⟨hq0, hq1, hq2, hq3, hq4, hq5, hq6⟩ := hQ
  have hpF : ∀ L : List x_E, L.length = 20 → x_bk (x_ov M t L) p (plT p Q) := fun L h => x_ov_far 20 hp h hdt
  have hcF : ∀ L : List x_E, L.length = 20 → x_bk (x_ov M t L) c [.inr (8, fs)] := fun L h => x_ov_far 20 hc h hdct
  have haF : ∀ L : List x_E, L.length = 20 → x_bk (x_ov M t L) a (hvT a p P A hx sk ht) := fun L h => x_ov_far 20 hb h hat
  refine x_to (x_ov_self ht0).symm ?_
  have h19 : ¬ nI n < 1 := Int32.not_lt.mpr (show nI 1 ≤ nI n from nI_le hn1 (by omega))
  have h29 : nI n ≤ 30 := show nI n ≤ nI 30 from nI_le hn30 (by decide)
  refine x_aload_n C dX8_stateAfter_0 rfl rfl ?_
  refine x_iload_n C dX8_stateAfter_1 rfl rfl ?_
  refine x_callV1 C dX8_stateAfter_2 kX8_127 (c_X8_requireDeal hO hP0 hQ0 (haF _ rfl) (hpF _ rfl) (hcF _ rfl) hc2 hc4 hk9 hk) ((hcF _ rfl) 0 _ rfl) rfl (by decide) ⟨Nat.zero_le _, Nat.zero_le _⟩ (Nat.le_of_ble_eq_true rfl) ?_
  rintro _ _ ⟨rfl, rfl⟩
  refine x_iload_n C dX8_stateAfter_5 rfl rfl ?_
  refine x_callS1 C dX8_stateAfter_6 kX8_190 (c_X8_requireDays hO h19 h29) (by decide) ⟨Nat.zero_le _, Nat.zero_le _⟩ (Nat.le_of_ble_eq_true rfl) ?_
  rintro _ _ ⟨rfl, rfl⟩
  refine x_aload_n C dX8_stateAfter_9 rfl rfl ?_
  refine x_iload_n C dX8_stateAfter_10 rfl rfl ?_
  refine x_callV1 C dX8_stateAfter_11 kX8_196 (c_X8_tryDays hO hP0 hQ0 (haF _ rfl) (hpF _ rfl) (hcF _ rfl) hc2 hc4 hk9 hc5 x_ov_bk hdt hdct hat hn30) ((hcF _ rfl) 0 _ rfl) rfl (by decide) ⟨Nat.zero_le _, Nat.zero_le _⟩ (Nat.le_of_ble_eq_true rfl) ?_
  rintro _ _ ⟨rfl, sk1, ht1, rfl⟩
  refine x_to (x_ov_ov rfl) ?_
  refine x_aload_n C dX8_stateAfter_14 rfl rfl ?_
  refine x_getfield C dX8_stateAfter_15 fX8_44 ((hcF _ rfl) 0 _ rfl) hc5 ?_
  refine x_getfield C dX8_stateAfter_18 fX8_130 (x_ovg 0 rfl) rfl ?_
  refine x_iload_n C dX8_stateAfter_21 rfl rfl ?_
  refine x_callV1 C dX8_stateAfter_22 kX8_114 (c_X4_get hO (by decide) (x_bk_sub x_ov_bk 12 rfl)) (x_ovg 12 rfl) rfl (by decide) ⟨Nat.zero_le _, Nat.zero_le _⟩ (Nat.le_of_ble_eq_true rfl) ?_
  rintro _ _ ⟨rfl, rfl⟩
  rw [rg_nI (show k < 6 by omega) (by decide)]
  refine x_iret C E dX8_stateAfter_25 ?_
  exact ⟨rfl, sk1, ht1, rfl⟩
set_option maxHeartbeats 4000000 in
set_option maxRecDepth 100000 in
theorem c_X8_daysUntilFree {l : Launch} {Y0 : x_Y} (hO : x_Ok Y0) {M : x_M} {a p : Nat} {P : PL} {A : HS} {hx sk : Nat → Int32} {ht : Int32} {Q : HS} (hP : p_ok P) (hQ : q_is Q P) (hb : x_bk M a (hvT a p P A hx sk ht)) (hp : x_bk M p (plT p Q)) {c : Nat} {fs : List Value} (hc : x_bk M c [.inr (8, fs)]) (hc2 : fs[2]? = some (.ref p)) (hc4 : fs[4]? = some (.ref a)) (hk9 : h_ok P A) {t : Nat} {T : HS} {hy sl : Nat → Int32} {hu : Int32} (hc5 : fs[5]? = some (.ref t)) (ht0 : x_bk M t (hvT t p P T hy sl hu)) (hdt : p + 21 ≤ t ∨ t + 20 ≤ p) (hdct : c + 1 ≤ t ∨ t + 20 ≤ c) (hat : a + 20 ≤ t ∨ t + 20 ≤ a) {d : Nat} (hd9 : d < p_nd P) : x_C l Y0 yX8_daysUntilFree cX8_daysUntilFree 3 (some .int) 7 0 0 [.ref c, .int (nI d)] M (fun u M1 => u = some (.int (h_fr P d 40 0 A)) ∧ ∃ (B : HS) (sk1 : Nat → Int32) (ht1 : Int32), M1 = x_ov M t (hvT t p P B hx sk1 ht1)) := by
  refine x_start hO (by decide +kernel) (Nat.le_of_ble_eq_true rfl) (fun K C E => ?_)
  have hP0 := hP
  have hQ0 := hQ
  obtain ⟨h8, h6, h16, hnp, hwho, hvb, hts⟩ := hP
  obtain ⟨hq0, hq1, hq2, hq3, hq4, hq5, hq6⟩ := hQ
  have hpF : ∀ L : List x_E, L.length = 20 → x_bk (x_ov M t L) p (plT p Q) := fun L h => x_ov_far 20 hp h hdt
  have hcF : ∀ L : List x_E, L.length = 20 → x_bk (x_ov M t L) c [.inr (8, fs)] := fun L h => x_ov_far 20 hc h hdct
  have haF : ∀ L : List x_E, L.length = 20 → x_bk (x_ov M t L) a (hvT a p P A hx sk ht) := fun L h => x_ov_far 20 hb h hat
  refine x_to (x_ov_self ht0).symm ?_
  have lp : ∀ (w i : Nat) (x : Int32) (B : HS) (sl : Nat → Int32) (hu : Int32), i + w = 40 → x = nI i → h_fr P d 40 0 A = h_fr P d w i B → h_ok P B → x_X K 3 0 0 18 [(0, .ref c), (1, .int (nI d)), (2, .int x)] [] (x_ov M t (hvT t p P B hx sl hu)) := by
    intro w
    induction w with
    | zero =>
      intro i x B sl hu hi hx9 hz hkB
      subst hx9
      have e : i = 40 := by omega
      subst e
      refine x_iload_n C dX8_daysUntilFree_18 rfl rfl ?_
      refine x_bipush (v := 40) C dX8_daysUntilFree_19 (by decide) ?_
      refine x_icmp_ge (tgt := 53) C dX8_daysUntilFree_21 (by decide) (fun c21 => ?_) (fun c21 => absurd (show nI 40 ≤ nI 40 from nI_le (Nat.le_refl 40) (by decide)) c21)
      refine x_aload_n C dX8_daysUntilFree_53 rfl rfl ?_
      refine x_getfield C dX8_daysUntilFree_54 fX8_44 ((hcF _ rfl) 0 _ rfl) hc5 ?_
      refine x_getfield C dX8_daysUntilFree_57 fX8_121 (x_ovg 0 rfl) rfl ?_
      refine x_iload_n C dX8_daysUntilFree_60 rfl rfl ?_
      refine x_callV1 C dX8_daysUntilFree_61 kX8_114 (c_X4_get hO (by decide) (x_bk_sub x_ov_bk 8 rfl)) (x_ovg 8 rfl) rfl (by decide) ⟨Nat.zero_le _, Nat.zero_le _⟩ (Nat.le_of_ble_eq_true rfl) ?_
      rintro _ _ ⟨rfl, rfl⟩
      rw [rg_nI (show d < 8 by omega) (by decide)]
      refine x_iconst (v := (-1)) C dX8_daysUntilFree_64 (by decide) ?_
      refine x_icmp_ne (tgt := 72) C dX8_daysUntilFree_65 (by decide) (fun c65 => ?_) (fun c65 => ?_)
      · refine x_iconst (v := (-1)) C dX8_daysUntilFree_72 (by decide) ?_
        refine x_iret C E dX8_daysUntilFree_73 ?_
        refine ⟨?_, B, sl, hu, rfl⟩
        rw [hz]
        first | (unfold h_fr; rw [if_pos c65]; done) | (unfold h_fr; rw [if_neg c65]; done) | fail
      · refine x_iload_n C dX8_daysUntilFree_68 rfl rfl ?_
        refine x_goto (tgt := 73) C dX8_daysUntilFree_69 (by decide) ?_
        refine x_iret C E dX8_daysUntilFree_73 ?_
        refine ⟨?_, B, sl, hu, rfl⟩
        rw [hz]
        first | (unfold h_fr; rw [if_pos c65]; done) | (unfold h_fr; rw [if_neg c65]; done) | fail
    | succ w ih =>
      intro i x B sl hu hi hx9 hz hkB
      subst hx9
      refine x_iload_n C dX8_daysUntilFree_18 rfl rfl ?_
      refine x_bipush (v := 40) C dX8_daysUntilFree_19 (by decide) ?_
      refine x_icmp_ge (tgt := 53) C dX8_daysUntilFree_21 (by decide) (fun c21 => absurd c21 (show ¬ nI 40 ≤ nI i from nI_ge (by omega) (by decide))) (fun c21 => ?_)
      refine x_aload_n C dX8_daysUntilFree_24 rfl rfl ?_
      refine x_getfield C dX8_daysUntilFree_25 fX8_44 ((hcF _ rfl) 0 _ rfl) hc5 ?_
      refine x_getfield C dX8_daysUntilFree_28 fX8_121 (x_ovg 0 rfl) rfl ?_
      refine x_iload_n C dX8_daysUntilFree_31 rfl rfl ?_
      refine x_callV1 C dX8_daysUntilFree_32 kX8_114 (c_X4_get hO (by decide) (x_bk_sub x_ov_bk 8 rfl)) (x_ovg 8 rfl) rfl (by decide) ⟨Nat.zero_le _, Nat.zero_le _⟩ (Nat.le_of_ble_eq_true rfl) ?_
      rintro _ _ ⟨rfl, rfl⟩
      rw [rg_nI (show d < 8 by omega) (by decide)]
      refine x_iconst (v := (-1)) C dX8_daysUntilFree_35 (by decide) ?_
      refine x_icmp_eq (tgt := 53) C dX8_daysUntilFree_36 (by decide) (fun c36 => ?_) (fun c36 => ?_)
      · refine x_aload_n C dX8_daysUntilFree_53 rfl rfl ?_
        refine x_getfield C dX8_daysUntilFree_54 fX8_44 ((hcF _ rfl) 0 _ rfl) hc5 ?_
        refine x_getfield C dX8_daysUntilFree_57 fX8_121 (x_ovg 0 rfl) rfl ?_
        refine x_iload_n C dX8_daysUntilFree_60 rfl rfl ?_
        refine x_callV1 C dX8_daysUntilFree_61 kX8_114 (c_X4_get hO (by decide) (x_bk_sub x_ov_bk 8 rfl)) (x_ovg 8 rfl) rfl (by decide) ⟨Nat.zero_le _, Nat.zero_le _⟩ (Nat.le_of_ble_eq_true rfl) ?_
        rintro _ _ ⟨rfl, rfl⟩
        rw [rg_nI (show d < 8 by omega) (by decide)]
        refine x_iconst (v := (-1)) C dX8_daysUntilFree_64 (by decide) ?_
        refine x_icmp_ne (tgt := 72) C dX8_daysUntilFree_65 (by decide) (fun c65 => ?_) (fun c65 => ?_)
        · exact absurd c36 c65
        · refine x_iload_n C dX8_daysUntilFree_68 rfl rfl ?_
          refine x_goto (tgt := 73) C dX8_daysUntilFree_69 (by decide) ?_
          refine x_iret C E dX8_daysUntilFree_73 ?_
          refine ⟨?_, B, sl, hu, rfl⟩
          rw [hz]
          first | (unfold h_fr; rw [if_pos c65]; done) | (unfold h_fr; rw [if_neg c65]; done) | fail
      · refine x_aload_n C dX8_daysUntilFree_39 rfl rfl ?_
        refine x_getfield C dX8_daysUntilFree_40 fX8_44 ((hcF _ rfl) 0 _ rfl) hc5 ?_
        refine x_callV0 C dX8_daysUntilFree_43 kX8_193 (c_X0_passOneDay hO hP0 hQ0 x_ov_bk (hpF _ rfl) hdt hkB) (x_ovg 0 rfl) rfl (by decide) ⟨Nat.zero_le _, Nat.zero_le _⟩ (Nat.le_of_ble_eq_true rfl) ?_
        rintro _ _ ⟨rfl, sk1, ht1, rfl⟩
        refine x_to (x_ov_ov rfl) ?_
        refine x_pop C dX8_daysUntilFree_46 rfl ?_
        refine x_iinc (v := 1) C dX8_daysUntilFree_47 rfl (by decide) rfl (by decide) ?_
        refine x_goto (tgt := 18) C dX8_daysUntilFree_50 (by decide) ?_
        refine x_take 3 ?_
        exact ih (i + 1) _ (h_day P B).1 _ _ (by omega) (nI_1 i) (by rw [hz]; show (if B 2 d = -1 then _ else _) = _; rw [if_neg c36]) (h_ok_day hP0 hkB)
  refine x_aload_n C dX8_daysUntilFree_0 rfl rfl ?_
  refine x_iload_n C dX8_daysUntilFree_1 rfl rfl ?_
  refine x_callV1 C dX8_daysUntilFree_2 kX8_111 (c_X8_requireDrone hO hP0 hQ0 (haF _ rfl) (hpF _ rfl) (hcF _ rfl) hc2 hc4 hk9 hd9) ((hcF _ rfl) 0 _ rfl) rfl (by decide) ⟨Nat.zero_le _, Nat.zero_le _⟩ (Nat.le_of_ble_eq_true rfl) ?_
  rintro _ _ ⟨rfl, rfl⟩
  refine x_aload_n C dX8_daysUntilFree_5 rfl rfl ?_
  refine x_getfield C dX8_daysUntilFree_6 fX8_44 ((hcF _ rfl) 0 _ rfl) hc5 ?_
  refine x_aload_n C dX8_daysUntilFree_9 rfl rfl ?_
  refine x_getfield C dX8_daysUntilFree_10 fX8_40 ((hcF _ rfl) 0 _ rfl) hc4 ?_
  refine x_callV1 C dX8_daysUntilFree_13 kX8_199 (c_X0_copyFrom hO x_ov_bk (haF _ rfl) hk9 hat) (x_ovg 0 rfl) rfl (by decide) ⟨Nat.zero_le _, Nat.zero_le _⟩ (Nat.le_of_ble_eq_true rfl) ?_
  rintro _ _ ⟨rfl, rfl⟩
  refine x_to (x_ov_ov rfl) ?_
  refine x_iconst (v := 0) C dX8_daysUntilFree_16 (by decide) ?_
  refine x_istore_n C dX8_daysUntilFree_17 rfl rfl (by decide) ?_
  refine x_take 3 ?_
  exact lp 40 0 0 A _ _ (by omega) rfl rfl hk9
/-- which sleeper it is best to wake, so far: its number, and how many would be blocked -/
def h_b1 (P : PL) (A : HS) (q : Int32 × Int32) (i : Nat) : Int32 × Int32 := if A 1 i = 0 then q else if q.1 = -1 ∨ h_blocked P (h_it (h_pass P) 3 (h_wake P A i, 0)).1 < q.2 then (nI i, h_blocked P (h_it (h_pass P) 3 (h_wake P A i, 0)).1) else q
def h_best (P : PL) (A : HS) : Int32 := (h_it (h_b1 P A) (p_nd P) (-1, 0)).1
set_option maxHeartbeats 4000000 in
set_option maxRecDepth 100000 in
theorem c_X8_bestToWake {l : Launch} {Y0 : x_Y} (hO : x_Ok Y0) {M : x_M} {a p : Nat} {P : PL} {A : HS} {hx sk : Nat → Int32} {ht : Int32} {Q : HS} (hP : p_ok P) (hQ : q_is Q P) (hb : x_bk M a (hvT a p P A hx sk ht)) (hp : x_bk M p (plT p Q)) {c : Nat} {fs : List Value} (hc : x_bk M c [.inr (8, fs)]) (hc2 : fs[2]? = some (.ref p)) (hc4 : fs[4]? = some (.ref a)) (hk9 : h_ok P A) {t : Nat} {T : HS} {hy sl : Nat → Int32} {hu : Int32} (hc5 : fs[5]? = some (.ref t)) (ht0 : x_bk M t (hvT t p P T hy sl hu)) (hdt : p + 21 ≤ t ∨ t + 20 ≤ p) (hdct : c + 1 ≤ t ∨ t + 20 ≤ c) (hat : a + 20 ≤ t ∨ t + 20 ≤ a) : x_C l Y0 yX8_bestToWake cX8_bestToWake 5 (some .int) 7 0 0 [.ref c] M (fun u M1 => u = some (.int (h_best P A)) ∧ ∃ (B : HS) (hy1 sk1 : Nat → Int32) (ht1 : Int32), M1 = x_ov M t (hvT t p P B hy1 sk1 ht1)) := by
  refine x_start hO (by decide +kernel) (Nat.le_of_ble_eq_true rfl) (fun K C E => ?_)
  have hP0 := hP
  have hQ0 := hQ
  obtain ⟨h8, h6, h16, hnp, hwho, hvb, hts⟩ := hP
  obtain ⟨hq0, hq1, hq2, hq3, hq4, hq5, hq6⟩ := hQ
  have hpF : ∀ L : List x_E, L.length = 20 → x_bk (x_ov M t L) p (plT p Q) := fun L h => x_ov_far 20 hp h hdt
  have hcF : ∀ L : List x_E, L.length = 20 → x_bk (x_ov M t L) c [.inr (8, fs)] := fun L h => x_ov_far 20 hc h hdct
  have haF : ∀ L : List x_E, L.length = 20 → x_bk (x_ov M t L) a (hvT a p P A hx sk ht) := fun L h => x_ov_far 20 hb h hat
  refine x_to (x_ov_self ht0).symm ?_
  have lp : ∀ (w i : Nat) (x : Int32) (q : Int32 × Int32) (T : HS) (hy sl : Nat → Int32) (hu : Int32), i + w = p_nd P → x = nI i → q = h_it (h_b1 P A) i (-1, 0) → x_X K 5 0 0 6 [(0, .ref c), (1, .int q.1), (2, .int q.2), (3, .int x)] [] (x_ov M t (hvT t p P T hy sl hu)) := by
    intro w
    induction w with
    | zero =>
      intro i x q T hy sl hu hi hx9 hz
      subst hx9
      have e : i = p_nd P := by omega
      refine x_iload_n C dX8_bestToWake_6 rfl rfl ?_
      refine x_aload_n C dX8_bestToWake_7 rfl rfl ?_
      refine x_getfield C dX8_bestToWake_8 fX8_23 ((hcF _ rfl) 0 _ rfl) hc2 ?_
      refine x_getfield C dX8_bestToWake_11 fX8_82 ((hpF _ rfl) 0 _ rfl) rfl ?_
      refine x_icmp_ge (tgt := 102) C dX8_bestToWake_14 (by decide) (fun c14 => ?_) (fun c14 => absurd (by rw [hq0]; exact nI_le (by omega) (by omega)) c14)
      refine x_iload_n C dX8_bestToWake_102 rfl rfl ?_
      refine x_iret C E dX8_bestToWake_103 ?_
      refine ⟨?_, T, hy, sl, hu, rfl⟩
      unfold h_best
      rw [hz, e]
    | succ w ih =>
      intro i x q T hy sl hu hi hx9 hz
      subst hx9
      refine x_iload_n C dX8_bestToWake_6 rfl rfl ?_
      refine x_aload_n C dX8_bestToWake_7 rfl rfl ?_
      refine x_getfield C dX8_bestToWake_8 fX8_23 ((hcF _ rfl) 0 _ rfl) hc2 ?_
      refine x_getfield C dX8_bestToWake_11 fX8_82 ((hpF _ rfl) 0 _ rfl) rfl ?_
      refine x_icmp_ge (tgt := 102) C dX8_bestToWake_14 (by decide) (fun c14 => absurd c14 (by rw [hq0]; exact nI_ge (by omega) (by omega))) (fun c14 => ?_)
      refine x_aload_n C dX8_bestToWake_17 rfl rfl ?_
      refine x_getfield C dX8_bestToWake_18 fX8_40 ((hcF _ rfl) 0 _ rfl) hc4 ?_
      refine x_iload_n C dX8_bestToWake_21 rfl rfl ?_
      refine x_callV1 C dX8_bestToWake_22 kX8_117 (c_X0_isUp hO hP0 hQ0 (haF _ rfl) (hpF _ rfl) (hk9.1 8) (show i ≤ 8 by omega)) ((haF _ rfl) 0 _ rfl) rfl (by decide) ⟨Nat.zero_le _, Nat.zero_le _⟩ (Nat.le_of_ble_eq_true rfl) ?_
      rintro _ _ ⟨rfl, rfl⟩
      refine x_if_ne (tgt := 96) C dX8_bestToWake_25 (by decide) (fun c25 => ?_) (fun c25 => ?_)
      · have hu9 : A 1 i = 0 := by
          by_cases q9 : A 1 i = 0
          · exact q9
          · unfold h_upI at c25; rw [if_neg q9] at c25; exact absurd rfl c25
        have e9 : h_b1 P A q i = q := if_pos hu9
        refine x_iinc (v := 1) C dX8_bestToWake_96 rfl (by decide) rfl (by decide) ?_
        refine x_goto (tgt := 6) C dX8_bestToWake_99 (by decide) ?_
        refine x_take 4 ?_
        first
          | exact ih (i + 1) _ q _ _ _ _ (by omega) (nI_1 i) (e9.symm.trans (by rw [hz]; rfl))
          | exact ih (i + 1) _ (nI i, h_blocked P (h_it (h_pass P) 3 (h_wake P A i, 0)).1) _ _ _ _ (by omega) (nI_1 i) (e9.symm.trans (by rw [hz]; rfl))
          | fail
      · have hu9 : ¬ A 1 i = 0 := fun q9 => by unfold h_upI at c25; rw [if_pos q9] at c25; exact absurd c25 (by decide)
        have hkW : h_ok P (h_wake P A i) := h_ok_wake hk9
        refine x_aload_n C dX8_bestToWake_28 rfl rfl ?_
        refine x_getfield C dX8_bestToWake_29 fX8_44 ((hcF _ rfl) 0 _ rfl) hc5 ?_
        refine x_aload_n C dX8_bestToWake_32 rfl rfl ?_
        refine x_getfield C dX8_bestToWake_33 fX8_40 ((hcF _ rfl) 0 _ rfl) hc4 ?_
        refine x_callV1 C dX8_bestToWake_36 kX8_199 (c_X0_copyFrom hO x_ov_bk (haF _ rfl) hk9 hat) (x_ovg 0 rfl) rfl (by decide) ⟨Nat.zero_le _, Nat.zero_le _⟩ (Nat.le_of_ble_eq_true rfl) ?_
        rintro _ _ ⟨rfl, rfl⟩
        refine x_to (x_ov_ov rfl) ?_
        refine x_aload_n C dX8_bestToWake_39 rfl rfl ?_
        refine x_getfield C dX8_bestToWake_40 fX8_44 ((hcF _ rfl) 0 _ rfl) hc5 ?_
        refine x_iload_n C dX8_bestToWake_43 rfl rfl ?_
        refine x_callV1 C dX8_bestToWake_44 kX8_181 (c_X0_rouse hO hP0 hQ0 x_ov_bk (hpF _ rfl) hdt hk9 (show i ≤ 8 by omega)) (x_ovg 0 rfl) rfl (by decide) ⟨Nat.zero_le _, Nat.zero_le _⟩ (Nat.le_of_ble_eq_true rfl) ?_
        rintro _ _ ⟨rfl, rfl⟩
        refine x_to (x_ov_ov rfl) ?_
        rw [show h_rouse P A i = h_wake P A i from if_neg hu9]
        refine x_pop C dX8_bestToWake_47 rfl ?_
        refine x_iconst (v := 0) C dX8_bestToWake_48 (by decide) ?_
        refine x_istore C dX8_bestToWake_49 rfl (by decide) ?_
        refine x_iload C dX8_bestToWake_51 rfl ?_
        refine x_iconst (v := 3) C dX8_bestToWake_53 (by decide) ?_
        refine x_icmp_ge (tgt := 71) C dX8_bestToWake_54 (by decide) (fun c54 => absurd c54 (by decide)) (fun c54 => ?_)
        refine x_aload_n C dX8_bestToWake_57 rfl rfl ?_
        refine x_getfield C dX8_bestToWake_58 fX8_44 ((hcF _ rfl) 0 _ rfl) hc5 ?_
        refine x_callV0 C dX8_bestToWake_61 kX8_193 (c_X0_passOneDay hO hP0 hQ0 x_ov_bk (hpF _ rfl) hdt (by first | exact hkW | exact h_ok_day hP0 hkW | exact h_ok_day hP0 (h_ok_day hP0 hkW) | fail)) (x_ovg 0 rfl) rfl (by decide) ⟨Nat.zero_le _, Nat.zero_le _⟩ (Nat.le_of_ble_eq_true rfl) ?_
        rintro _ _ ⟨rfl, sk1, ht1, rfl⟩
        refine x_to (x_ov_ov rfl) ?_
        refine x_pop C dX8_bestToWake_64 rfl ?_
        refine x_iinc (v := 1) C dX8_bestToWake_65 rfl (by decide) rfl (by decide) ?_
        refine x_goto (tgt := 51) C dX8_bestToWake_68 (by decide) ?_
        refine x_iload C dX8_bestToWake_51 rfl ?_
        refine x_iconst (v := 3) C dX8_bestToWake_53 (by decide) ?_
        refine x_icmp_ge (tgt := 71) C dX8_bestToWake_54 (by decide) (fun c54 => absurd c54 (by decide)) (fun c54 => ?_)
        refine x_aload_n C dX8_bestToWake_57 rfl rfl ?_
        refine x_getfield C dX8_bestToWake_58 fX8_44 ((hcF _ rfl) 0 _ rfl) hc5 ?_
        refine x_callV0 C dX8_bestToWake_61 kX8_193 (c_X0_passOneDay hO hP0 hQ0 x_ov_bk (hpF _ rfl) hdt (by first | exact hkW | exact h_ok_day hP0 hkW | exact h_ok_day hP0 (h_ok_day hP0 hkW) | fail)) (x_ovg 0 rfl) rfl (by decide) ⟨Nat.zero_le _, Nat.zero_le _⟩ (Nat.le_of_ble_eq_true rfl) ?_
        rintro _ _ ⟨rfl, sk1, ht1, rfl⟩
        refine x_to (x_ov_ov rfl) ?_
        refine x_pop C dX8_bestToWake_64 rfl ?_
        refine x_iinc (v := 1) C dX8_bestToWake_65 rfl (by decide) rfl (by decide) ?_
        refine x_goto (tgt := 51) C dX8_bestToWake_68 (by decide) ?_
        refine x_iload C dX8_bestToWake_51 rfl ?_
        refine x_iconst (v := 3) C dX8_bestToWake_53 (by decide) ?_
        refine x_icmp_ge (tgt := 71) C dX8_bestToWake_54 (by decide) (fun c54 => absurd c54 (by decide)) (fun c54 => ?_)
        refine x_aload_n C dX8_bestToWake_57 rfl rfl ?_
        refine x_getfield C dX8_bestToWake_58 fX8_44 ((hcF _ rfl) 0 _ rfl) hc5 ?_
        refine x_callV0 C dX8_bestToWake_61 kX8_193 (c_X0_passOneDay hO hP0 hQ0 x_ov_bk (hpF _ rfl) hdt (by first | exact hkW | exact h_ok_day hP0 hkW | exact h_ok_day hP0 (h_ok_day hP0 hkW) | fail)) (x_ovg 0 rfl) rfl (by decide) ⟨Nat.zero_le _, Nat.zero_le _⟩ (Nat.le_of_ble_eq_true rfl) ?_
        rintro _ _ ⟨rfl, sk1, ht1, rfl⟩
        refine x_to (x_ov_ov rfl) ?_
        refine x_pop C dX8_bestToWake_64 rfl ?_
        refine x_iinc (v := 1) C dX8_bestToWake_65 rfl (by decide) rfl (by decide) ?_
        refine x_goto (tgt := 51) C dX8_bestToWake_68 (by decide) ?_
        refine x_iload C dX8_bestToWake_51 rfl ?_
        refine x_iconst (v := 3) C dX8_bestToWake_53 (by decide) ?_
        refine x_icmp_ge (tgt := 71) C dX8_bestToWake_54 (by decide) (fun c54 => ?_) (fun c54 => absurd (by decide) c54)
        refine x_aload_n C dX8_bestToWake_71 rfl rfl ?_
        refine x_getfield C dX8_bestToWake_72 fX8_44 ((hcF _ rfl) 0 _ rfl) hc5 ?_
        refine x_callV0 C dX8_bestToWake_75 kX8_94 (c_X0_countBlocked hO hP0 hQ0 x_ov_bk (hpF _ rfl)) (x_ovg 0 rfl) rfl (by decide) ⟨Nat.zero_le _, Nat.zero_le _⟩ (Nat.le_of_ble_eq_true rfl) ?_
        rintro _ _ ⟨rfl, rfl⟩
        refine x_istore C dX8_bestToWake_78 rfl (by decide) ?_
        refine x_iload_n C dX8_bestToWake_80 rfl rfl ?_
        refine x_iconst (v := (-1)) C dX8_bestToWake_81 (by decide) ?_
        refine x_icmp_eq (tgt := 91) C dX8_bestToWake_82 (by decide) (fun c82 => ?_) (fun c82 => ?_)
        · have e9 : h_b1 P A q i = (nI i, h_blocked P (h_it (h_pass P) 3 (h_wake P A i, 0)).1) := (if_neg hu9).trans (if_pos (Or.inl c82))
          refine x_iload_n C dX8_bestToWake_91 rfl rfl ?_
          refine x_istore_n C dX8_bestToWake_92 rfl rfl (by decide) ?_
          refine x_iload C dX8_bestToWake_93 rfl ?_
          refine x_istore_n C dX8_bestToWake_95 rfl rfl (by decide) ?_
          refine x_iinc (v := 1) C dX8_bestToWake_96 rfl (by decide) rfl (by decide) ?_
          refine x_goto (tgt := 6) C dX8_bestToWake_99 (by decide) ?_
          refine x_take 4 ?_
          first
            | exact ih (i + 1) _ q _ _ _ _ (by omega) (nI_1 i) (e9.symm.trans (by rw [hz]; rfl))
            | exact ih (i + 1) _ (nI i, h_blocked P (h_it (h_pass P) 3 (h_wake P A i, 0)).1) _ _ _ _ (by omega) (nI_1 i) (e9.symm.trans (by rw [hz]; rfl))
            | fail
        · refine x_iload C dX8_bestToWake_85 rfl ?_
          refine x_iload_n C dX8_bestToWake_87 rfl rfl ?_
          refine x_icmp_ge (tgt := 96) C dX8_bestToWake_88 (by decide) (fun c88 => ?_) (fun c88 => ?_)
          · have e9 : h_b1 P A q i = q := (if_neg hu9).trans (if_neg (fun h => h.elim c82 (fun h => absurd h (Int32.not_lt.mpr c88))))
            refine x_iinc (v := 1) C dX8_bestToWake_96 rfl (by decide) rfl (by decide) ?_
            refine x_goto (tgt := 6) C dX8_bestToWake_99 (by decide) ?_
            refine x_take 4 ?_
            first
              | exact ih (i + 1) _ q _ _ _ _ (by omega) (nI_1 i) (e9.symm.trans (by rw [hz]; rfl))
              | exact ih (i + 1) _ (nI i, h_blocked P (h_it (h_pass P) 3 (h_wake P A i, 0)).1) _ _ _ _ (by omega) (nI_1 i) (e9.symm.trans (by rw [hz]; rfl))
              | fail
          · have e9 : h_b1 P A q i = (nI i, h_blocked P (h_it (h_pass P) 3 (h_wake P A i, 0)).1) := (if_neg hu9).trans (if_pos (Or.inr (Int32.not_le.mp c88)))
            refine x_iload_n C dX8_bestToWake_91 rfl rfl ?_
            refine x_istore_n C dX8_bestToWake_92 rfl rfl (by decide) ?_
            refine x_iload C dX8_bestToWake_93 rfl ?_
            refine x_istore_n C dX8_bestToWake_95 rfl rfl (by decide) ?_
            refine x_iinc (v := 1) C dX8_bestToWake_96 rfl (by decide) rfl (by decide) ?_
            refine x_goto (tgt := 6) C dX8_bestToWake_99 (by decide) ?_
            refine x_take 4 ?_
            first
              | exact ih (i + 1) _ q _ _ _ _ (by omega) (nI_1 i) (e9.symm.trans (by rw [hz]; rfl))
              | exact ih (i + 1) _ (nI i, h_blocked P (h_it (h_pass P) 3 (h_wake P A i, 0)).1) _ _ _ _ (by omega) (nI_1 i) (e9.symm.trans (by rw [hz]; rfl))
              | fail
  refine x_iconst (v := (-1)) C dX8_bestToWake_0 (by decide) ?_
  refine x_istore_n C dX8_bestToWake_1 rfl rfl (by decide) ?_
  refine x_iconst (v := 0) C dX8_bestToWake_2 (by decide) ?_
  refine x_istore_n C dX8_bestToWake_3 rfl rfl (by decide) ?_
  refine x_iconst (v := 0) C dX8_bestToWake_4 (by decide) ?_
  refine x_istore_n C dX8_bestToWake_5 rfl rfl (by decide) ?_
  refine x_take 4 ?_
  exact lp (p_nd P) 0 0 (-1, 0) T hy sl hu (by omega) rfl rfl
