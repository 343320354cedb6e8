theorem x_ov3 {M : x_M} {a b : Nat} {L L' c : List x_E} (hd : a + L.length ≤ b ∨ b + c.length ≤ a) (hl : L.length = L'.length) : x_ov (x_ov (x_ov M a L) b c) a L' = x_ov (x_ov M b c) a L' := by
  rw [x_ov_comm (M := M) hd, x_ov_ov hl]
set_option maxHeartbeats 4000000 in
set_option maxRecDepth 100000 in
theorem c_X11_passDays {l : Launch} {Y0 : x_Y} (hO : x_Ok Y0) {M : x_M} {m o q : Nat} {P : PL} {A : HS} {hx : Nat → Int32} {z : Int32} {G : HS} {th sz ea tk dp : Int32} {tp kd fr mn rl me rd t m2 : Nat} (hP : p_ok P) (hQ : g_is G P) (hk9 : h_ok P A) (hb : x_bk M m (stT m o P A hx z)) (hp : x_bk M q (pmT q G)) (ho : x_bk M o [.inr (11, mdF th sz ea tk dp tp kd fr mn rl me q rd t m m2)]) (hdo : o + 1 ≤ m ∨ m + 9 ≤ o) (hqo : q + 11 ≤ o ∨ o + 1 ≤ q) (hd : q + 11 ≤ m ∨ m + 9 ≤ q) {sk : Nat → Int32} (ht : x_bk M t [.inl (0, 400, .inl sk)]) (htm : m + 9 ≤ t ∨ t + 1 ≤ m) (htq : q + 11 ≤ t ∨ t + 1 ≤ q) (hto : o + 1 ≤ t ∨ t + 1 ≤ o) {n : Nat} (hn1 : 1 ≤ n) (hn30 : n ≤ 30) : x_C l Y0 yX11_passDays cX11_passDays 3 (some .int) 7 0 0 [.ref o, .int (nI n)] M (fun u M1 => u = some (.int (h_it (h_pass P) n (A, 0)).2) ∧ ∃ sk1 : Nat → Int32, M1 = x_ov (x_ov (x_ov M o [.inr (11, mdF 0 sz ea tk dp tp kd fr mn rl me q rd t m m2)]) t [.inl (0, 400, .inl sk1)]) m (stT m o P (h_it (h_pass P) n (A, 0)).1 hx (z + (h_it (h_pass P) n (A, 0)).2))) := by
  refine x_start hO (by decide +kernel) (Nat.le_of_ble_eq_true rfl) (fun K C E => ?_)
  have hP0 := hP
  have hQ0 := hQ
  obtain ⟨h8, h6, h16, hnp, hwho, hvb, hts⟩ := hP
  obtain ⟨hq0, hq1, hq2, hq3, hq4, hq5, hq6⟩ := hQ
  have hbF : ∀ L : List x_E, L.length = 1 → x_bk (x_ov M o L) m (stT m o P A hx z) := fun L h => x_ov_far 1 hb h hdo.symm
  have hpF : ∀ L : List x_E, L.length = 1 → x_bk (x_ov M o L) q (pmT q G) := fun L h => x_ov_far 1 hp h hqo
  have hoG : ∀ Lo L2 : List x_E, Lo.length = 1 → L2.length = 9 → x_bk (x_ov (x_ov M o Lo) m L2) o Lo := fun Lo L2 h1 h2 => x_ov_far 9 x_ov_bk h2 (by rw [h1]; exact hdo)
  have hpG : ∀ Lo L2 : List x_E, Lo.length = 1 → L2.length = 9 → x_bk (x_ov (x_ov M o Lo) m L2) q (pmT q G) := fun Lo L2 h1 h2 => x_ov_far 9 (x_ov_far 1 hp h1 hqo) h2 hd
  have htF : ∀ L : List x_E, L.length = 1 → x_bk (x_ov M o L) t [.inl (0, 400, .inl sk)] := fun L h => x_ov_far 1 ht h hto.symm
  refine x_to (x_ov_self ho).symm ?_
  have h19 : ¬ nI n < 1 := Int32.not_lt.mpr (show nI 1 ≤ nI n from nI_le hn1 (by omega))
  have h29 : nI n ≤ 30 := show nI n ≤ nI 30 from nI_le hn30 (by decide)
  have hv30 : (!decide (nI n < 1) && !decide (30 < nI n)) = true := by
    rw [decide_eq_false h19, decide_eq_false (Int32.not_lt.mpr h29)]
    rfl
  refine x_aload_n C dX11_passDays_0 rfl rfl ?_
  refine x_iconst (v := 0) C dX11_passDays_1 (by decide) ?_
  refine x_putfield C dX11_passDays_2 fX11_60 (x_ovg 0 rfl) rfl rfl (Nat.le_of_ble_eq_true rfl) ?_
  refine x_to (x_st_ov 0 (Nat.le_of_ble_eq_true rfl)) ?_
  refine x_iload_n C dX11_passDays_5 rfl rfl ?_
  refine x_callS1 C dX11_passDays_6 kX11_354 (c_X11_areDays hO) (by decide) ⟨Nat.zero_le _, Nat.zero_le _⟩ (Nat.le_of_ble_eq_true rfl) ?_
  rintro _ _ ⟨rfl, rfl⟩
  rw [hv30]
  refine x_if_ne (tgt := 18) C dX11_passDays_9 (by decide) (fun c9 => ?_) (fun c9 => absurd c9 (show ¬ h_b true = 0 by decide))
  refine x_aload_n C dX11_passDays_18 rfl rfl ?_
  refine x_getfield C dX11_passDays_19 fX11_50 (x_ovg 0 rfl) rfl ?_
  refine x_getfield C dX11_passDays_22 fX11_357 ((hbF _ rfl) 0 _ rfl) rfl ?_
  refine x_istore_n C dX11_passDays_25 rfl rfl (by decide) ?_
  refine x_aload_n C dX11_passDays_26 rfl rfl ?_
  refine x_getfield C dX11_passDays_27 fX11_50 (x_ovg 0 rfl) rfl ?_
  refine x_iload_n C dX11_passDays_30 rfl rfl ?_
  refine x_callV1 C dX11_passDays_31 kX11_360 (c_X10_pass hO hP0 hQ0 hk9 (hbF _ rfl) (hpF _ rfl) x_ov_bk rfl rfl (htF _ rfl) htm htq hto hd hdo (show n < 2 ^ 31 by omega)) ((hbF _ rfl) 0 _ rfl) rfl (by decide) ⟨Nat.zero_le _, Nat.zero_le _⟩ (Nat.le_of_ble_eq_true rfl) ?_
  rintro _ _ ⟨rfl, sk1, rfl⟩
  rw [h_pass_z n]
  refine x_getfield C dX11_passDays_34 fX11_357 (x_ovg 0 rfl) rfl ?_
  refine x_iload_n C dX11_passDays_37 rfl rfl ?_
  refine x_isub C dX11_passDays_38 ?_
  refine x_iret C E dX11_passDays_39 ?_
  exact ⟨by rw [Int32.add_comm z, Int32.add_sub_cancel], sk1, rfl⟩
set_option maxHeartbeats 4000000 in
set_option maxRecDepth 100000 in
theorem c_X11_passDaysN {l : Launch} {Y0 : x_Y} (hO : x_Ok Y0) {M : x_M} {m o q : Nat} {P : PL} {A : HS} {hx : Nat → Int32} {z : Int32} {G : HS} {th sz ea tk dp : Int32} {tp kd fr mn rl me rd t m2 : Nat} (hP : p_ok P) (hQ : g_is G P) (hk9 : h_ok P A) (hb : x_bk M m (stT m o P A hx z)) (hp : x_bk M q (pmT q G)) (ho : x_bk M o [.inr (11, mdF th sz ea tk dp tp kd fr mn rl me q rd t m m2)]) (hdo : o + 1 ≤ m ∨ m + 9 ≤ o) (hqo : q + 11 ≤ o ∨ o + 1 ≤ q) {x : Int32} (hv30 : (!decide (x < 1) && !decide (30 < x)) = false) : x_C l Y0 yX11_passDays cX11_passDays 3 (some .int) 7 0 0 [.ref o, .int x] M (fun u M1 => u = some (.int 0) ∧ M1 = x_ov M o [.inr (11, mdF 1 sz ea tk dp tp kd fr mn rl me q rd t m m2)]) := by
  refine x_start hO (by decide +kernel) (Nat.le_of_ble_eq_true rfl) (fun K C E => ?_)
  have hP0 := hP
  have hQ0 := hQ
  obtain ⟨h8, h6, h16, hnp, hwho, hvb, hts⟩ := hP
  obtain ⟨hq0, hq1, hq2, hq3, hq4, hq5, hq6⟩ := hQ
  have hbF : ∀ L : List x_E, L.length = 1 → x_bk (x_ov M o L) m (stT m o P A hx z) := fun L h => x_ov_far 1 hb h hdo.symm
  have hpF : ∀ L : List x_E, L.length = 1 → x_bk (x_ov M o L) q (pmT q G) := fun L h => x_ov_far 1 hp h hqo
  refine x_to (x_ov_self ho).symm ?_
  refine x_aload_n C dX11_passDays_0 rfl rfl ?_
  refine x_iconst (v := 0) C dX11_passDays_1 (by decide) ?_
  refine x_putfield C dX11_passDays_2 fX11_60 (x_ovg 0 rfl) rfl rfl (Nat.le_of_ble_eq_true rfl) ?_
  refine x_to (x_st_ov 0 (Nat.le_of_ble_eq_true rfl)) ?_
  refine x_iload_n C dX11_passDays_5 rfl rfl ?_
  refine x_callS1 C dX11_passDays_6 kX11_354 (c_X11_areDays hO) (by decide) ⟨Nat.zero_le _, Nat.zero_le _⟩ (Nat.le_of_ble_eq_true rfl) ?_
  rintro _ _ ⟨rfl, rfl⟩
  rw [hv30]
  refine x_if_ne (tgt := 18) C dX11_passDays_9 (by decide) (fun c9 => absurd c9 (show ¬ ¬ h_b false = 0 by decide)) (fun c9 => ?_)
  refine x_aload_n C dX11_passDays_12 rfl rfl ?_
  refine x_iconst (v := 1) C dX11_passDays_13 (by decide) ?_
  refine x_callV1 C dX11_passDays_14 kX11_276 (c_X11_no hO x_ov_bk) (x_ovg 0 rfl) rfl (by decide) ⟨Nat.zero_le _, Nat.zero_le _⟩ (Nat.le_of_ble_eq_true rfl) ?_
  rintro _ _ ⟨rfl, rfl⟩
  refine x_to (x_ov_ov rfl) ?_
  refine x_iret C E dX11_passDays_17 ?_
  exact ⟨rfl, rfl⟩
set_option maxHeartbeats 4000000 in
set_option maxRecDepth 100000 in
theorem c_X11_ahead {l : Launch} {Y0 : x_Y} (hO : x_Ok Y0) {M : x_M} {m o q : Nat} {P : PL} {A : HS} {hx : Nat → Int32} {z : Int32} {G : HS} {th sz ea tk dp : Int32} {tp kd fr mn rl me rd t m2 : Nat} (hP : p_ok P) (hQ : g_is G P) (hk9 : h_ok P A) (hb : x_bk M m (stT m o P A hx z)) (hp : x_bk M q (pmT q G)) (ho : x_bk M o [.inr (11, mdF th sz ea tk dp tp kd fr mn rl me q rd t m m2)]) {P2 : PL} {T : HS} {hy : Nat → Int32} {y9 : Int32} (hn2 : x_bk M m2 (stT m2 o P2 T hy y9)) (hm2 : m + 9 ≤ m2 ∨ m2 + 9 ≤ m) : x_C l Y0 yX11_ahead cX11_ahead 1 (some (.object "HoneyAccordModel$State")) 4 0 0 [.ref o] M (fun u M1 => u = some (.ref m2) ∧ M1 = x_ov M m2 (stT m2 o P A hx z)) := by
  refine x_start hO (by decide +kernel) (Nat.le_of_ble_eq_true rfl) (fun K C E => ?_)
  refine x_aload_n C dX11_ahead_0 rfl rfl ?_
  refine x_getfield C dX11_ahead_1 fX11_54 (ho 0 _ rfl) rfl ?_
  refine x_aload_n C dX11_ahead_4 rfl rfl ?_
  refine x_getfield C dX11_ahead_5 fX11_50 (ho 0 _ rfl) rfl ?_
  refine x_callV1 C dX11_ahead_8 kX11_80 (c_X10_become hO hn2 hb hk9.1 hk9.2.1 hm2) (hn2 0 _ rfl) rfl (by decide) ⟨Nat.zero_le _, Nat.zero_le _⟩ (Nat.le_of_ble_eq_true rfl) ?_
  rintro _ _ ⟨rfl, rfl⟩
  refine x_aret C E dX11_ahead_11 ?_
  exact ⟨rfl, rfl⟩
set_option maxHeartbeats 4000000 in
set_option maxRecDepth 100000 in
theorem c_X11_honeyAfter {l : Launch} {Y0 : x_Y} (hO : x_Ok Y0) {M : x_M} {m o q : Nat} {P : PL} {A : HS} {hx : Nat → Int32} {z : Int32} {G : HS} {th sz ea tk dp : Int32} {tp kd fr mn rl me rd t m2 : Nat} (hP : p_ok P) (hQ : g_is G P) (hk9 : h_ok P A) (hb : x_bk M m (stT m o P A hx z)) (hp : x_bk M q (pmT q G)) (ho : x_bk M o [.inr (11, mdF th sz ea tk dp tp kd fr mn rl me q rd t m m2)]) (hdo : o + 1 ≤ m ∨ m + 9 ≤ o) (hqo : q + 11 ≤ o ∨ o + 1 ≤ q) (hd : q + 11 ≤ m ∨ m + 9 ≤ q) {sk : Nat → Int32} (ht : x_bk M t [.inl (0, 400, .inl sk)]) (htm : m + 9 ≤ t ∨ t + 1 ≤ m) (htq : q + 11 ≤ t ∨ t + 1 ≤ q) (hto : o + 1 ≤ t ∨ t + 1 ≤ o) {P2 : PL} {T : HS} {hy : Nat → Int32} {y9 : Int32} (hn2 : x_bk M m2 (stT m2 o P2 T hy y9)) (hm2 : m + 9 ≤ m2 ∨ m2 + 9 ≤ m) (hm2o : o + 1 ≤ m2 ∨ m2 + 9 ≤ o) (hm2q : q + 11 ≤ m2 ∨ m2 + 9 ≤ q) (htm2 : m2 + 9 ≤ t ∨ t + 1 ≤ m2) {d : Nat} (hd9 : d < p_nd P) {n : Nat} (hn1 : 1 ≤ n) (hn30 : n ≤ 30) : x_C l Y0 yX11_honeyAfter cX11_honeyAfter 3 (some .int) 8 0 0 [.ref o, .int (nI d), .int (nI n)] M (fun u M1 => u = some (.int ((h_it (h_pass P) n (A, 0)).1 0 d)) ∧ ∃ (sk1 : Nat → Int32) (B : HS) (y8 : Int32), M1 = x_ov (x_ov (x_ov M o [.inr (11, mdF 0 sz ea tk dp tp kd fr mn rl me q rd t m m2)]) t [.inl (0, 400, .inl sk1)]) m2 (stT m2 o P B hx y8)) := by
  refine x_start hO (by decide +kernel) (Nat.le_of_ble_eq_true rfl) (fun K C E => ?_)
  have hP0 := hP
  have hQ0 := hQ
  obtain ⟨h8, h6, h16, hnp, hwho, hvb, hts⟩ := hP
  obtain ⟨hq0, hq1, hq2, hq3, hq4, hq5, hq6⟩ := hQ
  have hbF : ∀ L : List x_E, L.length = 1 → x_bk (x_ov M o L) m (stT m o P A hx z) := fun L h => x_ov_far 1 hb h hdo.symm
  have hpF : ∀ L : List x_E, L.length = 1 → x_bk (x_ov M o L) q (pmT q G) := fun L h => x_ov_far 1 hp h hqo
  have hoG : ∀ Lo L2 : List x_E, Lo.length = 1 → L2.length = 9 → x_bk (x_ov (x_ov M o Lo) m L2) o Lo := fun Lo L2 h1 h2 => x_ov_far 9 x_ov_bk h2 (by rw [h1]; exact hdo)
  have hpG : ∀ Lo L2 : List x_E, Lo.length = 1 → L2.length = 9 → x_bk (x_ov (x_ov M o Lo) m L2) q (pmT q G) := fun Lo L2 h1 h2 => x_ov_far 9 (x_ov_far 1 hp h1 hqo) h2 hd
  have htF : ∀ L : List x_E, L.length = 1 → x_bk (x_ov M o L) t [.inl (0, 400, .inl sk)] := fun L h => x_ov_far 1 ht h hto.symm
  have hn2F : ∀ L : List x_E, L.length = 1 → x_bk (x_ov M o L) m2 (stT m2 o P2 T hy y9) := fun L h => x_ov_far 1 hn2 h hm2o.symm
  have hoH : ∀ Lo L2 : List x_E, Lo.length = 1 → L2.length = 9 → x_bk (x_ov (x_ov M o Lo) m2 L2) o Lo := fun Lo L2 h1 h2 => x_ov_far 9 x_ov_bk h2 (by rw [h1]; exact hm2o)
  have hpH : ∀ Lo L2 : List x_E, Lo.length = 1 → L2.length = 9 → x_bk (x_ov (x_ov M o Lo) m2 L2) q (pmT q G) := fun Lo L2 h1 h2 => x_ov_far 9 (x_ov_far 1 hp h1 hqo) h2 hm2q
  have htH : ∀ Lo L2 : List x_E, Lo.length = 1 → L2.length = 9 → x_bk (x_ov (x_ov M o Lo) m2 L2) t [.inl (0, 400, .inl sk)] := fun Lo L2 h1 h2 => x_ov_far 9 (htF Lo h1) h2 htm2.symm
  refine x_to (x_ov_self ho).symm ?_
  have h19 : ¬ nI n < 1 := Int32.not_lt.mpr (show nI 1 ≤ nI n from nI_le hn1 (by omega))
  have h29 : nI n ≤ 30 := show nI n ≤ nI 30 from nI_le hn30 (by decide)
  have hv30 : (!decide (nI n < 1) && !decide (30 < nI n)) = true := by
    rw [decide_eq_false h19, decide_eq_false (Int32.not_lt.mpr h29)]
    rfl
  have hv := h_inR_t hd9 (by omega)
  refine x_aload_n C dX11_honeyAfter_0 rfl rfl ?_
  refine x_aload_n C dX11_honeyAfter_1 rfl rfl ?_
  refine x_iload_n C dX11_honeyAfter_2 rfl rfl ?_
  refine x_callV1 C dX11_honeyAfter_3 kX11_301 (c_X11_isDrone hO hP0 hQ0 hk9 (hbF _ rfl) (hpF _ rfl) x_ov_bk) (x_ovg 0 rfl) rfl (by decide) ⟨Nat.zero_le _, Nat.zero_le _⟩ (Nat.le_of_ble_eq_true rfl) ?_
  rintro _ _ ⟨rfl, rfl⟩
  rw [hv]
  refine x_callV1 C dX11_honeyAfter_6 kX11_304 (c_X11_isKnown hO x_ov_bk) (x_ovg 0 rfl) rfl (by decide) ⟨Nat.zero_le _, Nat.zero_le _⟩ (Nat.le_of_ble_eq_true rfl) ?_
  rintro _ _ ⟨rfl, rfl⟩
  refine x_to (x_ov_ov rfl) ?_
  refine x_if_ne (tgt := 14) C dX11_honeyAfter_9 (by decide) (fun c9 => ?_) (fun c9 => absurd c9 (show ¬ h_b true = 0 by decide))
  refine x_iload_n C dX11_honeyAfter_14 rfl rfl ?_
  refine x_callS1 C dX11_honeyAfter_15 kX11_354 (c_X11_areDays hO) (by decide) ⟨Nat.zero_le _, Nat.zero_le _⟩ (Nat.le_of_ble_eq_true rfl) ?_
  rintro _ _ ⟨rfl, rfl⟩
  rw [hv30]
  refine x_if_eq (tgt := 37) C dX11_honeyAfter_18 (by decide) (fun c18 => absurd c18 (show ¬ h_b true = 0 by decide)) (fun c18 => ?_)
  refine x_aload_n C dX11_honeyAfter_21 rfl rfl ?_
  refine x_callV0 C dX11_honeyAfter_22 kX11_364 (c_X11_ahead hO hP0 hQ0 hk9 (hbF _ rfl) (hpF _ rfl) x_ov_bk (hn2F _ rfl) hm2) (x_ovg 0 rfl) rfl (by decide) ⟨Nat.zero_le _, Nat.zero_le _⟩ (Nat.le_of_ble_eq_true rfl) ?_
  rintro _ _ ⟨rfl, rfl⟩
  refine x_iload_n C dX11_honeyAfter_25 rfl rfl ?_
  refine x_callV1 C dX11_honeyAfter_26 kX11_360 (c_X10_pass hO hP0 hQ0 hk9 x_ov_bk (hpH _ _ rfl rfl) (hoH _ _ rfl rfl) rfl rfl (htH _ _ rfl rfl) htm2 htq hto hm2q hm2o (show n < 2 ^ 31 by omega)) (x_ovg 0 rfl) rfl (by decide) ⟨Nat.zero_le _, Nat.zero_le _⟩ (Nat.le_of_ble_eq_true rfl) ?_
  rintro _ _ ⟨rfl, sk1, rfl⟩
  refine x_to (x_ov3 (by exact htm2) rfl) ?_
  rw [h_pass_z n]
  refine x_getfield C dX11_honeyAfter_29 fX11_308 (x_ovg 0 rfl) rfl ?_
  refine x_iload_n C dX11_honeyAfter_32 rfl rfl ?_
  refine x_iaload C dX11_honeyAfter_33 (x_ovg 1 rfl) (vp_in_nI (show d < 8 by omega) (by decide)) ?_
  rw [nI_clamp (show d < 2 ^ 31 by omega)]
  rw [s_fill_in hd9]
  refine x_goto (tgt := 42) C dX11_honeyAfter_34 (by decide) ?_
  refine x_iret C E dX11_honeyAfter_42 ?_
  exact ⟨rfl, sk1, _, _, rfl⟩
set_option maxHeartbeats 4000000 in
set_option maxRecDepth 100000 in
theorem c_X11_honeyAfterN {l : Launch} {Y0 : x_Y} (hO : x_Ok Y0) {M : x_M} {m o q : Nat} {P : PL} {A : HS} {hx : Nat → Int32} {z : Int32} {G : HS} {th sz ea tk dp : Int32} {tp kd fr mn rl me rd t m2 : Nat} (hP : p_ok P) (hQ : g_is G P) (hk9 : h_ok P A) (hb : x_bk M m (stT m o P A hx z)) (hp : x_bk M q (pmT q G)) (ho : x_bk M o [.inr (11, mdF th sz ea tk dp tp kd fr mn rl me q rd t m m2)]) (hdo : o + 1 ≤ m ∨ m + 9 ≤ o) (hqo : q + 11 ≤ o ∨ o + 1 ≤ q) {x y : Int32} (hv : h_inR x (p_nd P) = false) : x_C l Y0 yX11_honeyAfter cX11_honeyAfter 3 (some .int) 8 0 0 [.ref o, .int x, .int y] M (fun u M1 => u = some (.int 0) ∧ M1 = x_ov M o [.inr (11, mdF 1 sz ea tk dp tp kd fr mn rl me q rd t m m2)]) := by
  refine x_start hO (by decide +kernel) (Nat.le_of_ble_eq_true rfl) (fun K C E => ?_)
  have hP0 := hP
  have hQ0 := hQ
  obtain ⟨h8, h6, h16, hnp, hwho, hvb, hts⟩ := hP
  obtain ⟨hq0, hq1, hq2, hq3, hq4, hq5, hq6⟩ := hQ
  have hbF : ∀ L : List x_E, L.length = 1 → x_bk (x_ov M o L) m (stT m o P A hx z) := fun L h => x_ov_far 1 hb h hdo.symm
  have hpF : ∀ L : List x_E, L.length = 1 → x_bk (x_ov M o L) q (pmT q G) := fun L h => x_ov_far 1 hp h hqo
  refine x_to (x_ov_self ho).symm ?_
  refine x_aload_n C dX11_honeyAfter_0 rfl rfl ?_
  refine x_aload_n C dX11_honeyAfter_1 rfl rfl ?_
  refine x_iload_n C dX11_honeyAfter_2 rfl rfl ?_
  refine x_callV1 C dX11_honeyAfter_3 kX11_301 (c_X11_isDrone hO hP0 hQ0 hk9 (hbF _ rfl) (hpF _ rfl) x_ov_bk) (x_ovg 0 rfl) rfl (by decide) ⟨Nat.zero_le _, Nat.zero_le _⟩ (Nat.le_of_ble_eq_true rfl) ?_
  rintro _ _ ⟨rfl, rfl⟩
  rw [hv]
  refine x_callV1 C dX11_honeyAfter_6 kX11_304 (c_X11_isKnown hO x_ov_bk) (x_ovg 0 rfl) rfl (by decide) ⟨Nat.zero_le _, Nat.zero_le _⟩ (Nat.le_of_ble_eq_true rfl) ?_
  rintro _ _ ⟨rfl, rfl⟩
  refine x_to (x_ov_ov rfl) ?_
  refine x_if_ne (tgt := 14) C dX11_honeyAfter_9 (by decide) (fun c9 => absurd c9 (show ¬ ¬ h_b false = 0 by decide)) (fun c9 => ?_)
  refine x_iconst (v := 0) C dX11_honeyAfter_12 (by decide) ?_
  refine x_iret C E dX11_honeyAfter_13 ?_
  exact ⟨rfl, rfl⟩
set_option maxHeartbeats 4000000 in
set_option maxRecDepth 100000 in
theorem c_X11_honeyAfterE {l : Launch} {Y0 : x_Y} (hO : x_Ok Y0) {M : x_M} {m o q : Nat} {P : PL} {A : HS} {hx : Nat → Int32} {z : Int32} {G : HS} {th sz ea tk dp : Int32} {tp kd fr mn rl me rd t m2 : Nat} (hP : p_ok P) (hQ : g_is G P) (hk9 : h_ok P A) (hb : x_bk M m (stT m o P A hx z)) (hp : x_bk M q (pmT q G)) (ho : x_bk M o [.inr (11, mdF th sz ea tk dp tp kd fr mn rl me q rd t m m2)]) (hdo : o + 1 ≤ m ∨ m + 9 ≤ o) (hqo : q + 11 ≤ o ∨ o + 1 ≤ q) {d : Nat} (hd9 : d < p_nd P) {x : Int32} (hv30 : (!decide (x < 1) && !decide (30 < x)) = false) : x_C l Y0 yX11_honeyAfter cX11_honeyAfter 3 (some .int) 8 0 0 [.ref o, .int (nI d), .int x] M (fun u M1 => u = some (.int 0) ∧ M1 = x_ov M o [.inr (11, mdF 2 sz ea tk dp tp kd fr mn rl me q rd t m m2)]) := by
  refine x_start hO (by decide +kernel) (Nat.le_of_ble_eq_true rfl) (fun K C E => ?_)
  have hP0 := hP
  have hQ0 := hQ
  obtain ⟨h8, h6, h16, hnp, hwho, hvb, hts⟩ := hP
  obtain ⟨hq0, hq1, hq2, hq3, hq4, hq5, hq6⟩ := hQ
  have hbF : ∀ L : List x_E, L.length = 1 → x_bk (x_ov M o L) m (stT m o P A hx z) := fun L h => x_ov_far 1 hb h hdo.symm
  have hpF : ∀ L : List x_E, L.length = 1 → x_bk (x_ov M o L) q (pmT q G) := fun L h => x_ov_far 1 hp h hqo
  refine x_to (x_ov_self ho).symm ?_
  have hv := h_inR_t hd9 (by omega)
  refine x_aload_n C dX11_honeyAfter_0 rfl rfl ?_
  refine x_aload_n C dX11_honeyAfter_1 rfl rfl ?_
  refine x_iload_n C dX11_honeyAfter_2 rfl rfl ?_
  refine x_callV1 C dX11_honeyAfter_3 kX11_301 (c_X11_isDrone hO hP0 hQ0 hk9 (hbF _ rfl) (hpF _ rfl) x_ov_bk) (x_ovg 0 rfl) rfl (by decide) ⟨Nat.zero_le _, Nat.zero_le _⟩ (Nat.le_of_ble_eq_true rfl) ?_
  rintro _ _ ⟨rfl, rfl⟩
  rw [hv]
  refine x_callV1 C dX11_honeyAfter_6 kX11_304 (c_X11_isKnown hO x_ov_bk) (x_ovg 0 rfl) rfl (by decide) ⟨Nat.zero_le _, Nat.zero_le _⟩ (Nat.le_of_ble_eq_true rfl) ?_
  rintro _ _ ⟨rfl, rfl⟩
  refine x_to (x_ov_ov rfl) ?_
  refine x_if_ne (tgt := 14) C dX11_honeyAfter_9 (by decide) (fun c9 => ?_) (fun c9 => absurd c9 (show ¬ h_b true = 0 by decide))
  refine x_iload_n C dX11_honeyAfter_14 rfl rfl ?_
  refine x_callS1 C dX11_honeyAfter_15 kX11_354 (c_X11_areDays hO) (by decide) ⟨Nat.zero_le _, Nat.zero_le _⟩ (Nat.le_of_ble_eq_true rfl) ?_
  rintro _ _ ⟨rfl, rfl⟩
  rw [hv30]
  refine x_if_eq (tgt := 37) C dX11_honeyAfter_18 (by decide) (fun c18 => ?_) (fun c18 => absurd (show h_b false = 0 by decide) c18)
  refine x_aload_n C dX11_honeyAfter_37 rfl rfl ?_
  refine x_iconst (v := 2) C dX11_honeyAfter_38 (by decide) ?_
  refine x_callV1 C dX11_honeyAfter_39 kX11_276 (c_X11_no hO x_ov_bk) (x_ovg 0 rfl) rfl (by decide) ⟨Nat.zero_le _, Nat.zero_le _⟩ (Nat.le_of_ble_eq_true rfl) ?_
  rintro _ _ ⟨rfl, rfl⟩
  refine x_to (x_ov_ov rfl) ?_
  refine x_iret C E dX11_honeyAfter_42 ?_
  exact ⟨rfl, rfl⟩
set_option maxHeartbeats 4000000 in
set_option maxRecDepth 100000 in
theorem c_X11_stateAfter {l : Launch} {Y0 : x_Y} (hO : x_Ok Y0) {M : x_M} {m o q : Nat} {P : PL} {A : HS} {hx : Nat → Int32} {z : Int32} {G : HS} {th sz ea tk dp : Int32} {tp kd fr mn rl me rd t m2 : Nat} (hP : p_ok P) (hQ : g_is G P) (hk9 : h_ok P A) (hb : x_bk M m (stT m o P A hx z)) (hp : x_bk M q (pmT q G)) (ho : x_bk M o [.inr (11, mdF th sz ea tk dp tp kd fr mn rl me q rd t m m2)]) (hdo : o + 1 ≤ m ∨ m + 9 ≤ o) (hqo : q + 11 ≤ o ∨ o + 1 ≤ q) (hd : q + 11 ≤ m ∨ m + 9 ≤ q) {sk : Nat → Int32} (ht : x_bk M t [.inl (0, 400, .inl sk)]) (htm : m + 9 ≤ t ∨ t + 1 ≤ m) (htq : q + 11 ≤ t ∨ t + 1 ≤ q) (hto : o + 1 ≤ t ∨ t + 1 ≤ o) {P2 : PL} {T : HS} {hy : Nat → Int32} {y9 : Int32} (hn2 : x_bk M m2 (stT m2 o P2 T hy y9)) (hm2 : m + 9 ≤ m2 ∨ m2 + 9 ≤ m) (hm2o : o + 1 ≤ m2 ∨ m2 + 9 ≤ o) (hm2q : q + 11 ≤ m2 ∨ m2 + 9 ≤ q) (htm2 : m2 + 9 ≤ t ∨ t + 1 ≤ m2) {k : Nat} (hk : k < p_nk P) {n : Nat} (hn1 : 1 ≤ n) (hn30 : n ≤ 30) : x_C l Y0 yX11_stateAfter cX11_stateAfter 3 (some .int) 8 0 0 [.ref o, .int (nI k), .int (nI n)] M (fun u M1 => u = some (.int ((h_it (h_pass P) n (A, 0)).1 4 k)) ∧ ∃ (sk1 : Nat → Int32) (B : HS) (y8 : Int32), M1 = x_ov (x_ov (x_ov M o [.inr (11, mdF 0 sz ea tk dp tp kd fr mn rl me q rd t m m2)]) t [.inl (0, 400, .inl sk1)]) m2 (stT m2 o P B hx y8)) := by
  refine x_start hO (by decide +kernel) (Nat.le_of_ble_eq_true rfl) (fun K C E => ?_)
  have hP0 := hP
  have hQ0 := hQ
  obtain ⟨h8, h6, h16, hnp, hwho, hvb, hts⟩ := hP
  obtain ⟨hq0, hq1, hq2, hq3, hq4, hq5, hq6⟩ := hQ
  have hbF : ∀ L : List x_E, L.length = 1 → x_bk (x_ov M o L) m (stT m o P A hx z) := fun L h => x_ov_far 1 hb h hdo.symm
  have hpF : ∀ L : List x_E, L.length = 1 → x_bk (x_ov M o L) q (pmT q G) := fun L h => x_ov_far 1 hp h hqo
  have hoG : ∀ Lo L2 : List x_E, Lo.length = 1 → L2.length = 9 → x_bk (x_ov (x_ov M o Lo) m L2) o Lo := fun Lo L2 h1 h2 => x_ov_far 9 x_ov_bk h2 (by rw [h1]; exact hdo)
  have hpG : ∀ Lo L2 : List x_E, Lo.length = 1 → L2.length = 9 → x_bk (x_ov (x_ov M o Lo) m L2) q (pmT q G) := fun Lo L2 h1 h2 => x_ov_far 9 (x_ov_far 1 hp h1 hqo) h2 hd
  have htF : ∀ L : List x_E, L.length = 1 → x_bk (x_ov M o L) t [.inl (0, 400, .inl sk)] := fun L h => x_ov_far 1 ht h hto.symm
  have hn2F : ∀ L : List x_E, L.length = 1 → x_bk (x_ov M o L) m2 (stT m2 o P2 T hy y9) := fun L h => x_ov_far 1 hn2 h hm2o.symm
  have hoH : ∀ Lo L2 : List x_E, Lo.length = 1 → L2.length = 9 → x_bk (x_ov (x_ov M o Lo) m2 L2) o Lo := fun Lo L2 h1 h2 => x_ov_far 9 x_ov_bk h2 (by rw [h1]; exact hm2o)
  have hpH : ∀ Lo L2 : List x_E, Lo.length = 1 → L2.length = 9 → x_bk (x_ov (x_ov M o Lo) m2 L2) q (pmT q G) := fun Lo L2 h1 h2 => x_ov_far 9 (x_ov_far 1 hp h1 hqo) h2 hm2q
  have htH : ∀ Lo L2 : List x_E, Lo.length = 1 → L2.length = 9 → x_bk (x_ov (x_ov M o Lo) m2 L2) t [.inl (0, 400, .inl sk)] := fun Lo L2 h1 h2 => x_ov_far 9 (htF Lo h1) h2 htm2.symm
  refine x_to (x_ov_self ho).symm ?_
  have h19 : ¬ nI n < 1 := Int32.not_lt.mpr (show nI 1 ≤ nI n from nI_le hn1 (by omega))
  have h29 : nI n ≤ 30 := show nI n ≤ nI 30 from nI_le hn30 (by decide)
  have hv30 : (!decide (nI n < 1) && !decide (30 < nI n)) = true := by
    rw [decide_eq_false h19, decide_eq_false (Int32.not_lt.mpr h29)]
    rfl
  have hv := h_inR_t hk (by omega)
  refine x_aload_n C dX11_stateAfter_0 rfl rfl ?_
  refine x_aload_n C dX11_stateAfter_1 rfl rfl ?_
  refine x_iload_n C dX11_stateAfter_2 rfl rfl ?_
  refine x_callV1 C dX11_stateAfter_3 kX11_73 (c_X11_isDeal hO hP0 hQ0 hk9 (hbF _ rfl) (hpF _ rfl) x_ov_bk) (x_ovg 0 rfl) rfl (by decide) ⟨Nat.zero_le _, Nat.zero_le _⟩ (Nat.le_of_ble_eq_true rfl) ?_
  rintro _ _ ⟨rfl, rfl⟩
  rw [hv]
  refine x_callV1 C dX11_stateAfter_6 kX11_304 (c_X11_isKnown hO x_ov_bk) (x_ovg 0 rfl) rfl (by decide) ⟨Nat.zero_le _, Nat.zero_le _⟩ (Nat.le_of_ble_eq_true rfl) ?_
  rintro _ _ ⟨rfl, rfl⟩
  refine x_to (x_ov_ov rfl) ?_
  refine x_if_ne (tgt := 14) C dX11_stateAfter_9 (by decide) (fun c9 => ?_) (fun c9 => absurd c9 (show ¬ h_b true = 0 by decide))
  refine x_iload_n C dX11_stateAfter_14 rfl rfl ?_
  refine x_callS1 C dX11_stateAfter_15 kX11_354 (c_X11_areDays hO) (by decide) ⟨Nat.zero_le _, Nat.zero_le _⟩ (Nat.le_of_ble_eq_true rfl) ?_
  rintro _ _ ⟨rfl, rfl⟩
  rw [hv30]
  refine x_if_eq (tgt := 37) C dX11_stateAfter_18 (by decide) (fun c18 => absurd c18 (show ¬ h_b true = 0 by decide)) (fun c18 => ?_)
  refine x_aload_n C dX11_stateAfter_21 rfl rfl ?_
  refine x_callV0 C dX11_stateAfter_22 kX11_364 (c_X11_ahead hO hP0 hQ0 hk9 (hbF _ rfl) (hpF _ rfl) x_ov_bk (hn2F _ rfl) hm2) (x_ovg 0 rfl) rfl (by decide) ⟨Nat.zero_le _, Nat.zero_le _⟩ (Nat.le_of_ble_eq_true rfl) ?_
  rintro _ _ ⟨rfl, rfl⟩
  refine x_iload_n C dX11_stateAfter_25 rfl rfl ?_
  refine x_callV1 C dX11_stateAfter_26 kX11_360 (c_X10_pass hO hP0 hQ0 hk9 x_ov_bk (hpH _ _ rfl rfl) (hoH _ _ rfl rfl) rfl rfl (htH _ _ rfl rfl) htm2 htq hto hm2q hm2o (show n < 2 ^ 31 by omega)) (x_ovg 0 rfl) rfl (by decide) ⟨Nat.zero_le _, Nat.zero_le _⟩ (Nat.le_of_ble_eq_true rfl) ?_
  rintro _ _ ⟨rfl, sk1, rfl⟩
  refine x_to (x_ov3 (by exact htm2) rfl) ?_
  rw [h_pass_z n]
  refine x_getfield C dX11_stateAfter_29 fX11_315 (x_ovg 0 rfl) rfl ?_
  refine x_iload_n C dX11_stateAfter_32 rfl rfl ?_
  refine x_iaload C dX11_stateAfter_33 (x_ovg 5 rfl) (vp_in_nI (show k < 6 by omega) (by decide)) ?_
  rw [nI_clamp (show k < 2 ^ 31 by omega)]
  refine x_goto (tgt := 42) C dX11_stateAfter_34 (by decide) ?_
  refine x_iret C E dX11_stateAfter_42 ?_
  exact ⟨rfl, sk1, _, _, rfl⟩
set_option maxHeartbeats 4000000 in
set_option maxRecDepth 100000 in
theorem c_X11_stateAfterN {l : Launch} {Y0 : x_Y} (hO : x_Ok Y0) {M : x_M} {m o q : Nat} {P : PL} {A : HS} {hx : Nat → Int32} {z : Int32} {G : HS} {th sz ea tk dp : Int32} {tp kd fr mn rl me rd t m2 : Nat} (hP : p_ok P) (hQ : g_is G P) (hk9 : h_ok P A) (hb : x_bk M m (stT m o P A hx z)) (hp : x_bk M q (pmT q G)) (ho : x_bk M o [.inr (11, mdF th sz ea tk dp tp kd fr mn rl me q rd t m m2)]) (hdo : o + 1 ≤ m ∨ m + 9 ≤ o) (hqo : q + 11 ≤ o ∨ o + 1 ≤ q) {x y : Int32} (hv : h_inR x (p_nk P) = false) : x_C l Y0 yX11_stateAfter cX11_stateAfter 3 (some .int) 8 0 0 [.ref o, .int x, .int y] M (fun u M1 => u = some (.int 0) ∧ M1 = x_ov M o [.inr (11, mdF 1 sz ea tk dp tp kd fr mn rl me q rd t m m2)]) := by
  refine x_start hO (by decide +kernel) (Nat.le_of_ble_eq_true rfl) (fun K C E => ?_)
  have hP0 := hP
  have hQ0 := hQ
  obtain ⟨h8, h6, h16, hnp, hwho, hvb, hts⟩ := hP
  obtain ⟨hq0, hq1, hq2, hq3, hq4, hq5, hq6⟩ := hQ
  have hbF : ∀ L : List x_E, L.length = 1 → x_bk (x_ov M o L) m (stT m o P A hx z) := fun L h => x_ov_far 1 hb h hdo.symm
  have hpF : ∀ L : List x_E, L.length = 1 → x_bk (x_ov M o L) q (pmT q G) := fun L h => x_ov_far 1 hp h hqo
  refine x_to (x_ov_self ho).symm ?_
  refine x_aload_n C dX11_stateAfter_0 rfl rfl ?_
  refine x_aload_n C dX11_stateAfter_1 rfl rfl ?_
  refine x_iload_n C dX11_stateAfter_2 rfl rfl ?_
  refine x_callV1 C dX11_stateAfter_3 kX11_73 (c_X11_isDeal hO hP0 hQ0 hk9 (hbF _ rfl) (hpF _ rfl) x_ov_bk) (x_ovg 0 rfl) rfl (by decide) ⟨Nat.zero_le _, Nat.zero_le _⟩ (Nat.le_of_ble_eq_true rfl) ?_
  rintro _ _ ⟨rfl, rfl⟩
  rw [hv]
  refine x_callV1 C dX11_stateAfter_6 kX11_304 (c_X11_isKnown hO x_ov_bk) (x_ovg 0 rfl) rfl (by decide) ⟨Nat.zero_le _, Nat.zero_le _⟩ (Nat.le_of_ble_eq_true rfl) ?_
  rintro _ _ ⟨rfl, rfl⟩
  refine x_to (x_ov_ov rfl) ?_
  refine x_if_ne (tgt := 14) C dX11_stateAfter_9 (by decide) (fun c9 => absurd c9 (show ¬ ¬ h_b false = 0 by decide)) (fun c9 => ?_)
  refine x_iconst (v := 0) C dX11_stateAfter_12 (by decide) ?_
  refine x_iret C E dX11_stateAfter_13 ?_
  exact ⟨rfl, rfl⟩
set_option maxHeartbeats 4000000 in
set_option maxRecDepth 100000 in
theorem c_X11_stateAfterE {l : Launch} {Y0 : x_Y} (hO : x_Ok Y0) {M : x_M} {m o q : Nat} {P : PL} {A : HS} {hx : Nat → Int32} {z : Int32} {G : HS} {th sz ea tk dp : Int32} {tp kd fr mn rl me rd t m2 : Nat} (hP : p_ok P) (hQ : g_is G P) (hk9 : h_ok P A) (hb : x_bk M m (stT m o P A hx z)) (hp : x_bk M q (pmT q G)) (ho : x_bk M o [.inr (11, mdF th sz ea tk dp tp kd fr mn rl me q rd t m m2)]) (hdo : o + 1 ≤ m ∨ m + 9 ≤ o) (hqo : q + 11 ≤ o ∨ o + 1 ≤ q) {k : Nat} (hk : k < p_nk P) {x : Int32} (hv30 : (!decide (x < 1) && !decide (30 < x)) = false) : x_C l Y0 yX11_stateAfter cX11_stateAfter 3 (some .int) 8 0 0 [.ref o, .int (nI k), .int x] M (fun u M1 => u = some (.int 0) ∧ M1 = x_ov M o [.inr (11, mdF 2 sz ea tk dp tp kd fr mn rl me q rd t m m2)]) := by
  refine x_start hO (by decide +kernel) (Nat.le_of_ble_eq_true rfl) (fun K C E => ?_)
  have hP0 := hP
  have hQ0 := hQ
  obtain ⟨h8, h6, h16, hnp, hwho, hvb, hts⟩ := hP
  obtain ⟨hq0, hq1, hq2, hq3, hq4, hq5, hq6⟩ := hQ
  have hbF : ∀ L : List x_E, L.length = 1 → x_bk (x_ov M o L) m (stT m o P A hx z) := fun L h => x_ov_far 1 hb h hdo.symm
  have hpF : ∀ L : List x_E, L.length = 1 → x_bk (x_ov M o L) q (pmT q G) := fun L h => x_ov_far 1 hp h hqo
  refine x_to (x_ov_self ho).symm ?_
  have hv := h_inR_t hk (by omega)
  refine x_aload_n C dX11_stateAfter_0 rfl rfl ?_
  refine x_aload_n C dX11_stateAfter_1 rfl rfl ?_
  refine x_iload_n C dX11_stateAfter_2 rfl rfl ?_
  refine x_callV1 C dX11_stateAfter_3 kX11_73 (c_X11_isDeal hO hP0 hQ0 hk9 (hbF _ rfl) (hpF _ rfl) x_ov_bk) (x_ovg 0 rfl) rfl (by decide) ⟨Nat.zero_le _, Nat.zero_le _⟩ (Nat.le_of_ble_eq_true rfl) ?_
  rintro _ _ ⟨rfl, rfl⟩
  rw [hv]
  refine x_callV1 C dX11_stateAfter_6 kX11_304 (c_X11_isKnown hO x_ov_bk) (x_ovg 0 rfl) rfl (by decide) ⟨Nat.zero_le _, Nat.zero_le _⟩ (Nat.le_of_ble_eq_true rfl) ?_
  rintro _ _ ⟨rfl, rfl⟩
  refine x_to (x_ov_ov rfl) ?_
  refine x_if_ne (tgt := 14) C dX11_stateAfter_9 (by decide) (fun c9 => ?_) (fun c9 => absurd c9 (show ¬ h_b true = 0 by decide))
  refine x_iload_n C dX11_stateAfter_14 rfl rfl ?_
  refine x_callS1 C dX11_stateAfter_15 kX11_354 (c_X11_areDays hO) (by decide) ⟨Nat.zero_le _, Nat.zero_le _⟩ (Nat.le_of_ble_eq_true rfl) ?_
  rintro _ _ ⟨rfl, rfl⟩
  rw [hv30]
  refine x_if_eq (tgt := 37) C dX11_stateAfter_18 (by decide) (fun c18 => ?_) (fun c18 => absurd (show h_b false = 0 by decide) c18)
  refine x_aload_n C dX11_stateAfter_37 rfl rfl ?_
  refine x_iconst (v := 2) C dX11_stateAfter_38 (by decide) ?_
  refine x_callV1 C dX11_stateAfter_39 kX11_276 (c_X11_no hO x_ov_bk) (x_ovg 0 rfl) rfl (by decide) ⟨Nat.zero_le _, Nat.zero_le _⟩ (Nat.le_of_ble_eq_true rfl) ?_
  rintro _ _ ⟨rfl, rfl⟩
  refine x_to (x_ov_ov rfl) ?_
  refine x_iret C E dX11_stateAfter_42 ?_
  exact ⟨rfl, rfl⟩
set_option maxHeartbeats 4000000 in
set_option maxRecDepth 100000 in
theorem c_X11_daysUntilFree {l : Launch} {Y0 : x_Y} (hO : x_Ok Y0) {M : x_M} {m o q : Nat} {P : PL} {A : HS} {hx : Nat → Int32} {z : Int32} {G : HS} {th sz ea tk dp : Int32} {tp kd fr mn rl me rd t m2 : Nat} (hP : p_ok P) (hQ : g_is G P) (hk9 : h_ok P A) (hb : x_bk M m (stT m o P A hx z)) (hp : x_bk M q (pmT q G)) (ho : x_bk M o [.inr (11, mdF th sz ea tk dp tp kd fr mn rl me q rd t m m2)]) (hdo : o + 1 ≤ m ∨ m + 9 ≤ o) (hqo : q + 11 ≤ o ∨ o + 1 ≤ q) (hd : q + 11 ≤ m ∨ m + 9 ≤ q) {sk : Nat → Int32} (ht : x_bk M t [.inl (0, 400, .inl sk)]) (htm : m + 9 ≤ t ∨ t + 1 ≤ m) (htq : q + 11 ≤ t ∨ t + 1 ≤ q) (hto : o + 1 ≤ t ∨ t + 1 ≤ o) {P2 : PL} {T : HS} {hy : Nat → Int32} {y9 : Int32} (hn2 : x_bk M m2 (stT m2 o P2 T hy y9)) (hm2 : m + 9 ≤ m2 ∨ m2 + 9 ≤ m) (hm2o : o + 1 ≤ m2 ∨ m2 + 9 ≤ o) (hm2q : q + 11 ≤ m2 ∨ m2 + 9 ≤ q) (htm2 : m2 + 9 ≤ t ∨ t + 1 ≤ m2) {d : Nat} (hd9 : d < p_nd P) : x_C l Y0 yX11_daysUntilFree cX11_daysUntilFree 2 (some .int) 8 0 0 [.ref o, .int (nI d)] M (fun u M1 => u = some (.int (h_fr P d 40 0 A)) ∧ ∃ (sk1 : Nat → Int32) (B : HS) (y8 : Int32), M1 = x_ov (x_ov (x_ov M o [.inr (11, mdF 0 sz ea tk dp tp kd fr mn rl me q rd t m m2)]) t [.inl (0, 400, .inl sk1)]) m2 (stT m2 o P B hx y8)) := by
  refine x_start hO (by decide +kernel) (Nat.le_of_ble_eq_true rfl) (fun K C E => ?_)
  have hP0 := hP
  have hQ0 := hQ
  obtain ⟨h8, h6, h16, hnp, hwho, hvb, hts⟩ := hP
  obtain ⟨hq0, hq1, hq2, hq3, hq4, hq5, hq6⟩ := hQ
  have hbF : ∀ L : List x_E, L.length = 1 → x_bk (x_ov M o L) m (stT m o P A hx z) := fun L h => x_ov_far 1 hb h hdo.symm
  have hpF : ∀ L : List x_E, L.length = 1 → x_bk (x_ov M o L) q (pmT q G) := fun L h => x_ov_far 1 hp h hqo
  have hoG : ∀ Lo L2 : List x_E, Lo.length = 1 → L2.length = 9 → x_bk (x_ov (x_ov M o Lo) m L2) o Lo := fun Lo L2 h1 h2 => x_ov_far 9 x_ov_bk h2 (by rw [h1]; exact hdo)
  have hpG : ∀ Lo L2 : List x_E, Lo.length = 1 → L2.length = 9 → x_bk (x_ov (x_ov M o Lo) m L2) q (pmT q G) := fun Lo L2 h1 h2 => x_ov_far 9 (x_ov_far 1 hp h1 hqo) h2 hd
  have htF : ∀ L : List x_E, L.length = 1 → x_bk (x_ov M o L) t [.inl (0, 400, .inl sk)] := fun L h => x_ov_far 1 ht h hto.symm
  have hn2F : ∀ L : List x_E, L.length = 1 → x_bk (x_ov M o L) m2 (stT m2 o P2 T hy y9) := fun L h => x_ov_far 1 hn2 h hm2o.symm
  have hoH : ∀ Lo L2 : List x_E, Lo.length = 1 → L2.length = 9 → x_bk (x_ov (x_ov M o Lo) m2 L2) o Lo := fun Lo L2 h1 h2 => x_ov_far 9 x_ov_bk h2 (by rw [h1]; exact hm2o)
  have hpH : ∀ Lo L2 : List x_E, Lo.length = 1 → L2.length = 9 → x_bk (x_ov (x_ov M o Lo) m2 L2) q (pmT q G) := fun Lo L2 h1 h2 => x_ov_far 9 (x_ov_far 1 hp h1 hqo) h2 hm2q
  have htH : ∀ Lo L2 : List x_E, Lo.length = 1 → L2.length = 9 → x_bk (x_ov (x_ov M o Lo) m2 L2) t [.inl (0, 400, .inl sk)] := fun Lo L2 h1 h2 => x_ov_far 9 (htF Lo h1) h2 htm2.symm
  refine x_to (x_ov_self ho).symm ?_
  have hv := h_inR_t hd9 (by omega)
  refine x_aload_n C dX11_daysUntilFree_0 rfl rfl ?_
  refine x_aload_n C dX11_daysUntilFree_1 rfl rfl ?_
  refine x_iload_n C dX11_daysUntilFree_2 rfl rfl ?_
  refine x_callV1 C dX11_daysUntilFree_3 kX11_301 (c_X11_isDrone hO hP0 hQ0 hk9 (hbF _ rfl) (hpF _ rfl) x_ov_bk) (x_ovg 0 rfl) rfl (by decide) ⟨Nat.zero_le _, Nat.zero_le _⟩ (Nat.le_of_ble_eq_true rfl) ?_
  rintro _ _ ⟨rfl, rfl⟩
  rw [hv]
  refine x_callV1 C dX11_daysUntilFree_6 kX11_304 (c_X11_isKnown hO x_ov_bk) (x_ovg 0 rfl) rfl (by decide) ⟨Nat.zero_le _, Nat.zero_le _⟩ (Nat.le_of_ble_eq_true rfl) ?_
  rintro _ _ ⟨rfl, rfl⟩
  refine x_to (x_ov_ov rfl) ?_
  refine x_if_eq (tgt := 23) C dX11_daysUntilFree_9 (by decide) (fun c9 => absurd c9 (show ¬ h_b true = 0 by decide)) (fun c9 => ?_)
  refine x_aload_n C dX11_daysUntilFree_12 rfl rfl ?_
  refine x_callV0 C dX11_daysUntilFree_13 kX11_364 (c_X11_ahead hO hP0 hQ0 hk9 (hbF _ rfl) (hpF _ rfl) x_ov_bk (hn2F _ rfl) hm2) (x_ovg 0 rfl) rfl (by decide) ⟨Nat.zero_le _, Nat.zero_le _⟩ (Nat.le_of_ble_eq_true rfl) ?_
  rintro _ _ ⟨rfl, rfl⟩
  refine x_iload_n C dX11_daysUntilFree_16 rfl rfl ?_
  refine x_callV1 C dX11_daysUntilFree_17 kX11_368 (c_X10_untilFree hO hP0 hQ0 hk9 x_ov_bk (hpH _ _ rfl rfl) (hoH _ _ rfl rfl) rfl rfl (htH _ _ rfl rfl) htm2 htq hto hm2q hm2o hd9) (x_ovg 0 rfl) rfl (by decide) ⟨Nat.zero_le _, Nat.zero_le _⟩ (Nat.le_of_ble_eq_true rfl) ?_
  rintro _ _ ⟨rfl, sk1, B, y8, -, rfl⟩
  refine x_to (x_ov3 (by exact htm2) rfl) ?_
  refine x_goto (tgt := 24) C dX11_daysUntilFree_20 (by decide) ?_
  refine x_iret C E dX11_daysUntilFree_24 ?_
  exact ⟨rfl, sk1, _, _, rfl⟩
set_option maxHeartbeats 4000000 in
set_option maxRecDepth 100000 in
theorem c_X11_daysUntilFreeN {l : Launch} {Y0 : x_Y} (hO : x_Ok Y0) {M : x_M} {m o q : Nat} {P : PL} {A : HS} {hx : Nat → Int32} {z : Int32} {G : HS} {th sz ea tk dp : Int32} {tp kd fr mn rl me rd t m2 : Nat} (hP : p_ok P) (hQ : g_is G P) (hk9 : h_ok P A) (hb : x_bk M m (stT m o P A hx z)) (hp : x_bk M q (pmT q G)) (ho : x_bk M o [.inr (11, mdF th sz ea tk dp tp kd fr mn rl me q rd t m m2)]) (hdo : o + 1 ≤ m ∨ m + 9 ≤ o) (hqo : q + 11 ≤ o ∨ o + 1 ≤ q) {x : Int32} (hv : h_inR x (p_nd P) = false) : x_C l Y0 yX11_daysUntilFree cX11_daysUntilFree 2 (some .int) 8 0 0 [.ref o, .int x] M (fun u M1 => u = some (.int 0) ∧ M1 = x_ov M o [.inr (11, mdF 1 sz ea tk dp tp kd fr mn rl me q rd t m m2)]) := by
  refine x_start hO (by decide +kernel) (Nat.le_of_ble_eq_true rfl) (fun K C E => ?_)
  have hP0 := hP
  have hQ0 := hQ
  obtain ⟨h8, h6, h16, hnp, hwho, hvb, hts⟩ := hP
  obtain ⟨hq0, hq1, hq2, hq3, hq4, hq5, hq6⟩ := hQ
  have hbF : ∀ L : List x_E, L.length = 1 → x_bk (x_ov M o L) m (stT m o P A hx z) := fun L h => x_ov_far 1 hb h hdo.symm
  have hpF : ∀ L : List x_E, L.length = 1 → x_bk (x_ov M o L) q (pmT q G) := fun L h => x_ov_far 1 hp h hqo
  refine x_to (x_ov_self ho).symm ?_
  refine x_aload_n C dX11_daysUntilFree_0 rfl rfl ?_
  refine x_aload_n C dX11_daysUntilFree_1 rfl rfl ?_
  refine x_iload_n C dX11_daysUntilFree_2 rfl rfl ?_
  refine x_callV1 C dX11_daysUntilFree_3 kX11_301 (c_X11_isDrone hO hP0 hQ0 hk9 (hbF _ rfl) (hpF _ rfl) x_ov_bk) (x_ovg 0 rfl) rfl (by decide) ⟨Nat.zero_le _, Nat.zero_le _⟩ (Nat.le_of_ble_eq_true rfl) ?_
  rintro _ _ ⟨rfl, rfl⟩
  rw [hv]
  refine x_callV1 C dX11_daysUntilFree_6 kX11_304 (c_X11_isKnown hO x_ov_bk) (x_ovg 0 rfl) rfl (by decide) ⟨Nat.zero_le _, Nat.zero_le _⟩ (Nat.le_of_ble_eq_true rfl) ?_
  rintro _ _ ⟨rfl, rfl⟩
  refine x_to (x_ov_ov rfl) ?_
  refine x_if_eq (tgt := 23) C dX11_daysUntilFree_9 (by decide) (fun c9 => ?_) (fun c9 => absurd (show h_b false = 0 by decide) c9)
  refine x_iconst (v := 0) C dX11_daysUntilFree_23 (by decide) ?_
  refine x_iret C E dX11_daysUntilFree_24 ?_
  exact ⟨rfl, rfl⟩
set_option maxHeartbeats 4000000 in
set_option maxRecDepth 100000 in
theorem c_X11_meanHoney {l : Launch} {Y0 : x_Y} (hO : x_Ok Y0) {M : x_M} {m o q : Nat} {P : PL} {A : HS} {hx : Nat → Int32} {z : Int32} {G : HS} {th sz ea tk dp : Int32} {tp kd fr mn rl me rd t m2 : Nat} (hP : p_ok P) (hQ : g_is G P) (hk9 : h_ok P A) (hb : x_bk M m (stT m o P A hx z)) (hp : x_bk M q (pmT q G)) (ho : x_bk M o [.inr (11, mdF th sz ea tk dp tp kd fr mn rl me q rd t m m2)]) (hdo : o + 1 ≤ m ∨ m + 9 ≤ o) (hqo : q + 11 ≤ o ∨ o + 1 ≤ q) : x_C l Y0 yX11_meanHoney cX11_meanHoney 1 (some .double) 4 0 0 [.ref o] M (fun u M1 => u = some (.double (h_mean P A)) ∧ M1 = x_ov M o [.inr (11, mdF 0 sz ea tk dp tp kd fr mn rl me q rd t m m2)]) := by
  refine x_start hO (by decide +kernel) (Nat.le_of_ble_eq_true rfl) (fun K C E => ?_)
  have hP0 := hP
  have hQ0 := hQ
  obtain ⟨h8, h6, h16, hnp, hwho, hvb, hts⟩ := hP
  obtain ⟨hq0, hq1, hq2, hq3, hq4, hq5, hq6⟩ := hQ
  have hbF : ∀ L : List x_E, L.length = 1 → x_bk (x_ov M o L) m (stT m o P A hx z) := fun L h => x_ov_far 1 hb h hdo.symm
  have hpF : ∀ L : List x_E, L.length = 1 → x_bk (x_ov M o L) q (pmT q G) := fun L h => x_ov_far 1 hp h hqo
  refine x_to (x_ov_self ho).symm ?_
  refine x_aload_n C dX11_meanHoney_0 rfl rfl ?_
  refine x_iconst (v := 0) C dX11_meanHoney_1 (by decide) ?_
  refine x_putfield C dX11_meanHoney_2 fX11_60 (x_ovg 0 rfl) rfl rfl (Nat.le_of_ble_eq_true rfl) ?_
  refine x_to (x_st_ov 0 (Nat.le_of_ble_eq_true rfl)) ?_
  refine x_aload_n C dX11_meanHoney_5 rfl rfl ?_
  refine x_getfield C dX11_meanHoney_6 fX11_35 (x_ovg 0 rfl) rfl ?_
  refine x_getfield C dX11_meanHoney_9 fX11_63 ((hpF _ rfl) 0 _ rfl) rfl ?_
  rw [hq0]
  refine x_if_ne (tgt := 19) C dX11_meanHoney_12 (by decide) (fun c12 => ?_) (fun c12 => ?_)
  · have e9 : ¬ p_nd P = 0 := fun q9 => by rw [q9] at c12; exact absurd rfl c12
    refine x_aload_n C dX11_meanHoney_19 rfl rfl ?_
    refine x_getfield C dX11_meanHoney_20 fX11_50 (x_ovg 0 rfl) rfl ?_
    refine x_callV0 C dX11_meanHoney_23 kX11_294 (c_X10_allHoney hO hP0 hQ0 hk9 (hbF _ rfl) (hpF _ rfl) x_ov_bk rfl) ((hbF _ rfl) 0 _ rfl) rfl (by decide) ⟨Nat.zero_le _, Nat.zero_le _⟩ (Nat.le_of_ble_eq_true rfl) ?_
    rintro _ _ ⟨rfl, rfl⟩
    refine x_i2d C dX11_meanHoney_26 ?_
    refine x_aload_n C dX11_meanHoney_27 rfl rfl ?_
    refine x_getfield C dX11_meanHoney_28 fX11_35 (x_ovg 0 rfl) rfl ?_
    refine x_getfield C dX11_meanHoney_31 fX11_63 ((hpF _ rfl) 0 _ rfl) rfl ?_
    rw [hq0]
    refine x_i2d C dX11_meanHoney_34 ?_
    refine x_ddiv C dX11_meanHoney_35 (h_mean_ok c12) ?_
    refine x_dret C E dX11_meanHoney_36 ?_
    refine ⟨?_, rfl⟩
    unfold h_mean
    first | (rw [if_neg e9]; done) | (rw [if_pos e9]; done) | fail
  · have e9 : p_nd P = 0 := (nI_eq (by omega) (by omega)).mp (show nI (p_nd P) = nI 0 from c12)
    refine x_dconst0 C dX11_meanHoney_15 ?_
    refine x_goto (tgt := 36) C dX11_meanHoney_16 (by decide) ?_
    refine x_dret C E dX11_meanHoney_36 ?_
    refine ⟨?_, rfl⟩
    unfold h_mean
    first | (rw [if_neg e9]; done) | (rw [if_pos e9]; done) | fail
