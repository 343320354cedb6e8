set_option maxHeartbeats 4000000 in
set_option maxRecDepth 100000 in
theorem c_X11_honeyOf {l : Launch} {Y0 : x_Y} (hO : x_Ok Y0) {M : x_M} {m o q : Nat} {P : PL} {A : HS} {hx : Nat → Int32} {z : Int32} {G : HS} {th sz ea tk dp : Int32} {tp kd fr mn rl me rd t m2 : Nat} (hP : p_ok P) (hQ : g_is G P) (hk9 : h_ok P A) (hb : x_bk M m (stT m o P A hx z)) (hp : x_bk M q (pmT q G)) (ho : x_bk M o [.inr (11, mdF th sz ea tk dp tp kd fr mn rl me q rd t m m2)]) (hdo : o + 1 ≤ m ∨ m + 9 ≤ o) (hqo : q + 11 ≤ o ∨ o + 1 ≤ q) {d : Nat} (hd9 : d < p_nd P) : x_C l Y0 yX11_honeyOf cX11_honeyOf 2 (some .int) 3 0 0 [.ref o, .int (nI d)] M (fun u M1 => u = some (.int (A 0 d)) ∧ M1 = x_ov M o [.inr (11, mdF 0 sz ea tk dp tp kd fr mn rl me q rd t m m2)]) := by
  refine x_start hO (by decide +kernel) (Nat.le_of_ble_eq_true rfl) (fun K C E => ?_)
  have hP0 := hP
  have hQ0 := hQ
  obtain ⟨h8, h6, h16, hnp, hwho, hvb, hts⟩ := hP
  obtain ⟨hq0, hq1, hq2, hq3, hq4, hq5, hq6⟩ := hQ
  have hbF : ∀ L : List x_E, L.length = 1 → x_bk (x_ov M o L) m (stT m o P A hx z) := fun L h => x_ov_far 1 hb h hdo.symm
  have hpF : ∀ L : List x_E, L.length = 1 → x_bk (x_ov M o L) q (pmT q G) := fun L h => x_ov_far 1 hp h hqo
  refine x_to (x_ov_self ho).symm ?_
  have hv := h_inR_t hd9 (by omega)
  refine x_aload_n C dX11_honeyOf_0 rfl rfl ?_
  refine x_aload_n C dX11_honeyOf_1 rfl rfl ?_
  refine x_iload_n C dX11_honeyOf_2 rfl rfl ?_
  refine x_callV1 C dX11_honeyOf_3 kX11_301 (c_X11_isDrone hO hP0 hQ0 hk9 (hbF _ rfl) (hpF _ rfl) x_ov_bk) (x_ovg 0 rfl) rfl (by decide) ⟨Nat.zero_le _, Nat.zero_le _⟩ (Nat.le_of_ble_eq_true rfl) ?_
  rintro _ _ ⟨rfl, rfl⟩
  rw [hv]
  refine x_callV1 C dX11_honeyOf_6 kX11_304 (c_X11_isKnown hO x_ov_bk) (x_ovg 0 rfl) rfl (by decide) ⟨Nat.zero_le _, Nat.zero_le _⟩ (Nat.le_of_ble_eq_true rfl) ?_
  rintro _ _ ⟨rfl, rfl⟩
  refine x_to (x_ov_ov rfl) ?_
  refine x_if_eq (tgt := 24) C dX11_honeyOf_9 (by decide) (fun c9 => absurd c9 (show ¬ h_b true = 0 by decide)) (fun c9 => ?_)
  refine x_aload_n C dX11_honeyOf_12 rfl rfl ?_
  refine x_getfield C dX11_honeyOf_13 fX11_50 (x_ovg 0 rfl) rfl ?_
  refine x_getfield C dX11_honeyOf_16 fX11_308 ((hbF _ rfl) 0 _ rfl) rfl ?_
  refine x_iload_n C dX11_honeyOf_19 rfl rfl ?_
  refine x_iaload C dX11_honeyOf_20 ((hbF _ rfl) 1 _ rfl) (vp_in_nI (show d < 8 by omega) (by decide)) ?_
  rw [nI_clamp (show d < 2 ^ 31 by omega)]
  rw [s_fill_in hd9]
  refine x_goto (tgt := 25) C dX11_honeyOf_21 (by decide) ?_
  refine x_iret C E dX11_honeyOf_25 ?_
  exact ⟨rfl, rfl⟩
set_option maxHeartbeats 4000000 in
set_option maxRecDepth 100000 in
theorem c_X11_honeyOfN {l : Launch} {Y0 : x_Y} (hO : x_Ok Y0) {M : x_M} {m o q : Nat} {P : PL} {A : HS} {hx : Nat → Int32} {z : Int32} {G : HS} {th sz ea tk dp : Int32} {tp kd fr mn rl me rd t m2 : Nat} (hP : p_ok P) (hQ : g_is G P) (hk9 : h_ok P A) (hb : x_bk M m (stT m o P A hx z)) (hp : x_bk M q (pmT q G)) (ho : x_bk M o [.inr (11, mdF th sz ea tk dp tp kd fr mn rl me q rd t m m2)]) (hdo : o + 1 ≤ m ∨ m + 9 ≤ o) (hqo : q + 11 ≤ o ∨ o + 1 ≤ q) {x : Int32} (hv : h_inR x (p_nd P) = false) : x_C l Y0 yX11_honeyOf cX11_honeyOf 2 (some .int) 3 0 0 [.ref o, .int x] M (fun u M1 => u = some (.int 0) ∧ M1 = x_ov M o [.inr (11, mdF 1 sz ea tk dp tp kd fr mn rl me q rd t m m2)]) := by
  refine x_start hO (by decide +kernel) (Nat.le_of_ble_eq_true rfl) (fun K C E => ?_)
  have hP0 := hP
  have hQ0 := hQ
  obtain ⟨h8, h6, h16, hnp, hwho, hvb, hts⟩ := hP
  obtain ⟨hq0, hq1, hq2, hq3, hq4, hq5, hq6⟩ := hQ
  have hbF : ∀ L : List x_E, L.length = 1 → x_bk (x_ov M o L) m (stT m o P A hx z) := fun L h => x_ov_far 1 hb h hdo.symm
  have hpF : ∀ L : List x_E, L.length = 1 → x_bk (x_ov M o L) q (pmT q G) := fun L h => x_ov_far 1 hp h hqo
  refine x_to (x_ov_self ho).symm ?_
  refine x_aload_n C dX11_honeyOf_0 rfl rfl ?_
  refine x_aload_n C dX11_honeyOf_1 rfl rfl ?_
  refine x_iload_n C dX11_honeyOf_2 rfl rfl ?_
  refine x_callV1 C dX11_honeyOf_3 kX11_301 (c_X11_isDrone hO hP0 hQ0 hk9 (hbF _ rfl) (hpF _ rfl) x_ov_bk) (x_ovg 0 rfl) rfl (by decide) ⟨Nat.zero_le _, Nat.zero_le _⟩ (Nat.le_of_ble_eq_true rfl) ?_
  rintro _ _ ⟨rfl, rfl⟩
  rw [hv]
  refine x_callV1 C dX11_honeyOf_6 kX11_304 (c_X11_isKnown hO x_ov_bk) (x_ovg 0 rfl) rfl (by decide) ⟨Nat.zero_le _, Nat.zero_le _⟩ (Nat.le_of_ble_eq_true rfl) ?_
  rintro _ _ ⟨rfl, rfl⟩
  refine x_to (x_ov_ov rfl) ?_
  refine x_if_eq (tgt := 24) C dX11_honeyOf_9 (by decide) (fun c9 => ?_) (fun c9 => absurd (show h_b false = 0 by decide) c9)
  refine x_iconst (v := 0) C dX11_honeyOf_24 (by decide) ?_
  refine x_iret C E dX11_honeyOf_25 ?_
  exact ⟨rfl, rfl⟩
set_option maxHeartbeats 4000000 in
set_option maxRecDepth 100000 in
theorem c_X11_isAwake {l : Launch} {Y0 : x_Y} (hO : x_Ok Y0) {M : x_M} {m o q : Nat} {P : PL} {A : HS} {hx : Nat → Int32} {z : Int32} {G : HS} {th sz ea tk dp : Int32} {tp kd fr mn rl me rd t m2 : Nat} (hP : p_ok P) (hQ : g_is G P) (hk9 : h_ok P A) (hb : x_bk M m (stT m o P A hx z)) (hp : x_bk M q (pmT q G)) (ho : x_bk M o [.inr (11, mdF th sz ea tk dp tp kd fr mn rl me q rd t m m2)]) (hdo : o + 1 ≤ m ∨ m + 9 ≤ o) (hqo : q + 11 ≤ o ∨ o + 1 ≤ q) {d : Nat} (hd9 : d < p_nd P) : x_C l Y0 yX11_isAwake cX11_isAwake 2 (some .boolean) 3 0 0 [.ref o, .int (nI d)] M (fun u M1 => u = some (.int (h_upI A d)) ∧ M1 = x_ov M o [.inr (11, mdF 0 sz ea tk dp tp kd fr mn rl me q rd t m m2)]) := by
  refine x_start hO (by decide +kernel) (Nat.le_of_ble_eq_true rfl) (fun K C E => ?_)
  have hP0 := hP
  have hQ0 := hQ
  obtain ⟨h8, h6, h16, hnp, hwho, hvb, hts⟩ := hP
  obtain ⟨hq0, hq1, hq2, hq3, hq4, hq5, hq6⟩ := hQ
  have hbF : ∀ L : List x_E, L.length = 1 → x_bk (x_ov M o L) m (stT m o P A hx z) := fun L h => x_ov_far 1 hb h hdo.symm
  have hpF : ∀ L : List x_E, L.length = 1 → x_bk (x_ov M o L) q (pmT q G) := fun L h => x_ov_far 1 hp h hqo
  refine x_to (x_ov_self ho).symm ?_
  have hv := h_inR_t hd9 (by omega)
  refine x_aload_n C dX11_isAwake_0 rfl rfl ?_
  refine x_aload_n C dX11_isAwake_1 rfl rfl ?_
  refine x_iload_n C dX11_isAwake_2 rfl rfl ?_
  refine x_callV1 C dX11_isAwake_3 kX11_301 (c_X11_isDrone hO hP0 hQ0 hk9 (hbF _ rfl) (hpF _ rfl) x_ov_bk) (x_ovg 0 rfl) rfl (by decide) ⟨Nat.zero_le _, Nat.zero_le _⟩ (Nat.le_of_ble_eq_true rfl) ?_
  rintro _ _ ⟨rfl, rfl⟩
  rw [hv]
  refine x_callV1 C dX11_isAwake_6 kX11_304 (c_X11_isKnown hO x_ov_bk) (x_ovg 0 rfl) rfl (by decide) ⟨Nat.zero_le _, Nat.zero_le _⟩ (Nat.le_of_ble_eq_true rfl) ?_
  rintro _ _ ⟨rfl, rfl⟩
  refine x_to (x_ov_ov rfl) ?_
  refine x_if_eq (tgt := 28) C dX11_isAwake_9 (by decide) (fun c9 => absurd c9 (show ¬ h_b true = 0 by decide)) (fun c9 => ?_)
  refine x_aload_n C dX11_isAwake_12 rfl rfl ?_
  refine x_getfield C dX11_isAwake_13 fX11_50 (x_ovg 0 rfl) rfl ?_
  refine x_getfield C dX11_isAwake_16 fX11_297 ((hbF _ rfl) 0 _ rfl) rfl ?_
  refine x_iload_n C dX11_isAwake_19 rfl rfl ?_
  refine x_baload C dX11_isAwake_20 ((hbF _ rfl) 4 _ rfl) (vp_in_nI (show d < 9 by omega) (by decide)) ?_
  rw [nI_clamp (show d < 2 ^ 31 by omega)]
  refine x_if_ne (tgt := 28) C dX11_isAwake_21 (by decide) (fun c21 => ?_) (fun c21 => ?_)
  · refine x_iconst (v := 0) C dX11_isAwake_28 (by decide) ?_
    refine x_zret C E dX11_isAwake_29 rfl ?_
    exact ⟨by unfold h_upI; first | (rw [if_pos c21]; done) | (rw [if_neg c21]; done) | fail, rfl⟩
  · refine x_iconst (v := 1) C dX11_isAwake_24 (by decide) ?_
    refine x_goto (tgt := 29) C dX11_isAwake_25 (by decide) ?_
    refine x_zret C E dX11_isAwake_29 rfl ?_
    exact ⟨by unfold h_upI; first | (rw [if_pos c21]; done) | (rw [if_neg c21]; done) | fail, rfl⟩
set_option maxHeartbeats 4000000 in
set_option maxRecDepth 100000 in
theorem c_X11_isAwakeN {l : Launch} {Y0 : x_Y} (hO : x_Ok Y0) {M : x_M} {m o q : Nat} {P : PL} {A : HS} {hx : Nat → Int32} {z : Int32} {G : HS} {th sz ea tk dp : Int32} {tp kd fr mn rl me rd t m2 : Nat} (hP : p_ok P) (hQ : g_is G P) (hk9 : h_ok P A) (hb : x_bk M m (stT m o P A hx z)) (hp : x_bk M q (pmT q G)) (ho : x_bk M o [.inr (11, mdF th sz ea tk dp tp kd fr mn rl me q rd t m m2)]) (hdo : o + 1 ≤ m ∨ m + 9 ≤ o) (hqo : q + 11 ≤ o ∨ o + 1 ≤ q) {x : Int32} (hv : h_inR x (p_nd P) = false) : x_C l Y0 yX11_isAwake cX11_isAwake 2 (some .boolean) 3 0 0 [.ref o, .int x] M (fun u M1 => u = some (.int 0) ∧ M1 = x_ov M o [.inr (11, mdF 1 sz ea tk dp tp kd fr mn rl me q rd t m m2)]) := by
  refine x_start hO (by decide +kernel) (Nat.le_of_ble_eq_true rfl) (fun K C E => ?_)
  have hP0 := hP
  have hQ0 := hQ
  obtain ⟨h8, h6, h16, hnp, hwho, hvb, hts⟩ := hP
  obtain ⟨hq0, hq1, hq2, hq3, hq4, hq5, hq6⟩ := hQ
  have hbF : ∀ L : List x_E, L.length = 1 → x_bk (x_ov M o L) m (stT m o P A hx z) := fun L h => x_ov_far 1 hb h hdo.symm
  have hpF : ∀ L : List x_E, L.length = 1 → x_bk (x_ov M o L) q (pmT q G) := fun L h => x_ov_far 1 hp h hqo
  refine x_to (x_ov_self ho).symm ?_
  refine x_aload_n C dX11_isAwake_0 rfl rfl ?_
  refine x_aload_n C dX11_isAwake_1 rfl rfl ?_
  refine x_iload_n C dX11_isAwake_2 rfl rfl ?_
  refine x_callV1 C dX11_isAwake_3 kX11_301 (c_X11_isDrone hO hP0 hQ0 hk9 (hbF _ rfl) (hpF _ rfl) x_ov_bk) (x_ovg 0 rfl) rfl (by decide) ⟨Nat.zero_le _, Nat.zero_le _⟩ (Nat.le_of_ble_eq_true rfl) ?_
  rintro _ _ ⟨rfl, rfl⟩
  rw [hv]
  refine x_callV1 C dX11_isAwake_6 kX11_304 (c_X11_isKnown hO x_ov_bk) (x_ovg 0 rfl) rfl (by decide) ⟨Nat.zero_le _, Nat.zero_le _⟩ (Nat.le_of_ble_eq_true rfl) ?_
  rintro _ _ ⟨rfl, rfl⟩
  refine x_to (x_ov_ov rfl) ?_
  refine x_if_eq (tgt := 28) C dX11_isAwake_9 (by decide) (fun c9 => ?_) (fun c9 => absurd (show h_b false = 0 by decide) c9)
  refine x_iconst (v := 0) C dX11_isAwake_28 (by decide) ?_
  refine x_zret C E dX11_isAwake_29 rfl ?_
  exact ⟨rfl, rfl⟩
set_option maxHeartbeats 4000000 in
set_option maxRecDepth 100000 in
theorem c_X11_blockedBy {l : Launch} {Y0 : x_Y} (hO : x_Ok Y0) {M : x_M} {m o q : Nat} {P : PL} {A : HS} {hx : Nat → Int32} {z : Int32} {G : HS} {th sz ea tk dp : Int32} {tp kd fr mn rl me rd t m2 : Nat} (hP : p_ok P) (hQ : g_is G P) (hk9 : h_ok P A) (hb : x_bk M m (stT m o P A hx z)) (hp : x_bk M q (pmT q G)) (ho : x_bk M o [.inr (11, mdF th sz ea tk dp tp kd fr mn rl me q rd t m m2)]) (hdo : o + 1 ≤ m ∨ m + 9 ≤ o) (hqo : q + 11 ≤ o ∨ o + 1 ≤ q) {d : Nat} (hd9 : d < p_nd P) : x_C l Y0 yX11_blockedBy cX11_blockedBy 2 (some .int) 3 0 0 [.ref o, .int (nI d)] M (fun u M1 => u = some (.int (A 2 d)) ∧ M1 = x_ov M o [.inr (11, mdF 0 sz ea tk dp tp kd fr mn rl me q rd t m m2)]) := by
  refine x_start hO (by decide +kernel) (Nat.le_of_ble_eq_true rfl) (fun K C E => ?_)
  have hP0 := hP
  have hQ0 := hQ
  obtain ⟨h8, h6, h16, hnp, hwho, hvb, hts⟩ := hP
  obtain ⟨hq0, hq1, hq2, hq3, hq4, hq5, hq6⟩ := hQ
  have hbF : ∀ L : List x_E, L.length = 1 → x_bk (x_ov M o L) m (stT m o P A hx z) := fun L h => x_ov_far 1 hb h hdo.symm
  have hpF : ∀ L : List x_E, L.length = 1 → x_bk (x_ov M o L) q (pmT q G) := fun L h => x_ov_far 1 hp h hqo
  refine x_to (x_ov_self ho).symm ?_
  have hv := h_inR_t hd9 (by omega)
  refine x_aload_n C dX11_blockedBy_0 rfl rfl ?_
  refine x_aload_n C dX11_blockedBy_1 rfl rfl ?_
  refine x_iload_n C dX11_blockedBy_2 rfl rfl ?_
  refine x_callV1 C dX11_blockedBy_3 kX11_301 (c_X11_isDrone hO hP0 hQ0 hk9 (hbF _ rfl) (hpF _ rfl) x_ov_bk) (x_ovg 0 rfl) rfl (by decide) ⟨Nat.zero_le _, Nat.zero_le _⟩ (Nat.le_of_ble_eq_true rfl) ?_
  rintro _ _ ⟨rfl, rfl⟩
  rw [hv]
  refine x_callV1 C dX11_blockedBy_6 kX11_304 (c_X11_isKnown hO x_ov_bk) (x_ovg 0 rfl) rfl (by decide) ⟨Nat.zero_le _, Nat.zero_le _⟩ (Nat.le_of_ble_eq_true rfl) ?_
  rintro _ _ ⟨rfl, rfl⟩
  refine x_to (x_ov_ov rfl) ?_
  refine x_if_eq (tgt := 24) C dX11_blockedBy_9 (by decide) (fun c9 => absurd c9 (show ¬ h_b true = 0 by decide)) (fun c9 => ?_)
  refine x_aload_n C dX11_blockedBy_12 rfl rfl ?_
  refine x_getfield C dX11_blockedBy_13 fX11_50 (x_ovg 0 rfl) rfl ?_
  refine x_getfield C dX11_blockedBy_16 fX11_309 ((hbF _ rfl) 0 _ rfl) rfl ?_
  refine x_iload_n C dX11_blockedBy_19 rfl rfl ?_
  refine x_iaload C dX11_blockedBy_20 ((hbF _ rfl) 2 _ rfl) (vp_in_nI (show d < 8 by omega) (by decide)) ?_
  rw [nI_clamp (show d < 2 ^ 31 by omega)]
  refine x_goto (tgt := 25) C dX11_blockedBy_21 (by decide) ?_
  refine x_iret C E dX11_blockedBy_25 ?_
  exact ⟨rfl, rfl⟩
set_option maxHeartbeats 4000000 in
set_option maxRecDepth 100000 in
theorem c_X11_blockedByN {l : Launch} {Y0 : x_Y} (hO : x_Ok Y0) {M : x_M} {m o q : Nat} {P : PL} {A : HS} {hx : Nat → Int32} {z : Int32} {G : HS} {th sz ea tk dp : Int32} {tp kd fr mn rl me rd t m2 : Nat} (hP : p_ok P) (hQ : g_is G P) (hk9 : h_ok P A) (hb : x_bk M m (stT m o P A hx z)) (hp : x_bk M q (pmT q G)) (ho : x_bk M o [.inr (11, mdF th sz ea tk dp tp kd fr mn rl me q rd t m m2)]) (hdo : o + 1 ≤ m ∨ m + 9 ≤ o) (hqo : q + 11 ≤ o ∨ o + 1 ≤ q) {x : Int32} (hv : h_inR x (p_nd P) = false) : x_C l Y0 yX11_blockedBy cX11_blockedBy 2 (some .int) 3 0 0 [.ref o, .int x] M (fun u M1 => u = some (.int 0) ∧ M1 = x_ov M o [.inr (11, mdF 1 sz ea tk dp tp kd fr mn rl me q rd t m m2)]) := by
  refine x_start hO (by decide +kernel) (Nat.le_of_ble_eq_true rfl) (fun K C E => ?_)
  have hP0 := hP
  have hQ0 := hQ
  obtain ⟨h8, h6, h16, hnp, hwho, hvb, hts⟩ := hP
  obtain ⟨hq0, hq1, hq2, hq3, hq4, hq5, hq6⟩ := hQ
  have hbF : ∀ L : List x_E, L.length = 1 → x_bk (x_ov M o L) m (stT m o P A hx z) := fun L h => x_ov_far 1 hb h hdo.symm
  have hpF : ∀ L : List x_E, L.length = 1 → x_bk (x_ov M o L) q (pmT q G) := fun L h => x_ov_far 1 hp h hqo
  refine x_to (x_ov_self ho).symm ?_
  refine x_aload_n C dX11_blockedBy_0 rfl rfl ?_
  refine x_aload_n C dX11_blockedBy_1 rfl rfl ?_
  refine x_iload_n C dX11_blockedBy_2 rfl rfl ?_
  refine x_callV1 C dX11_blockedBy_3 kX11_301 (c_X11_isDrone hO hP0 hQ0 hk9 (hbF _ rfl) (hpF _ rfl) x_ov_bk) (x_ovg 0 rfl) rfl (by decide) ⟨Nat.zero_le _, Nat.zero_le _⟩ (Nat.le_of_ble_eq_true rfl) ?_
  rintro _ _ ⟨rfl, rfl⟩
  rw [hv]
  refine x_callV1 C dX11_blockedBy_6 kX11_304 (c_X11_isKnown hO x_ov_bk) (x_ovg 0 rfl) rfl (by decide) ⟨Nat.zero_le _, Nat.zero_le _⟩ (Nat.le_of_ble_eq_true rfl) ?_
  rintro _ _ ⟨rfl, rfl⟩
  refine x_to (x_ov_ov rfl) ?_
  refine x_if_eq (tgt := 24) C dX11_blockedBy_9 (by decide) (fun c9 => ?_) (fun c9 => absurd (show h_b false = 0 by decide) c9)
  refine x_iconst (v := 0) C dX11_blockedBy_24 (by decide) ?_
  refine x_iret C E dX11_blockedBy_25 ?_
  exact ⟨rfl, rfl⟩
set_option maxHeartbeats 4000000 in
set_option maxRecDepth 100000 in
theorem c_X11_logOf {l : Launch} {Y0 : x_Y} (hO : x_Ok Y0) {M : x_M} {m o q : Nat} {P : PL} {A : HS} {hx : Nat → Int32} {z : Int32} {G : HS} {th sz ea tk dp : Int32} {tp kd fr mn rl me rd t m2 : Nat} (hP : p_ok P) (hQ : g_is G P) (hk9 : h_ok P A) (hb : x_bk M m (stT m o P A hx z)) (hp : x_bk M q (pmT q G)) (ho : x_bk M o [.inr (11, mdF th sz ea tk dp tp kd fr mn rl me q rd t m m2)]) (hdo : o + 1 ≤ m ∨ m + 9 ≤ o) (hqo : q + 11 ≤ o ∨ o + 1 ≤ q) {d : Nat} (hd9 : d < p_nd P) : x_C l Y0 yX11_logOf cX11_logOf 2 (some .int) 3 0 0 [.ref o, .int (nI d)] M (fun u M1 => u = some (.int (A 3 d)) ∧ M1 = x_ov M o [.inr (11, mdF 0 sz ea tk dp tp kd fr mn rl me q rd t m m2)]) := by
  refine x_start hO (by decide +kernel) (Nat.le_of_ble_eq_true rfl) (fun K C E => ?_)
  have hP0 := hP
  have hQ0 := hQ
  obtain ⟨h8, h6, h16, hnp, hwho, hvb, hts⟩ := hP
  obtain ⟨hq0, hq1, hq2, hq3, hq4, hq5, hq6⟩ := hQ
  have hbF : ∀ L : List x_E, L.length = 1 → x_bk (x_ov M o L) m (stT m o P A hx z) := fun L h => x_ov_far 1 hb h hdo.symm
  have hpF : ∀ L : List x_E, L.length = 1 → x_bk (x_ov M o L) q (pmT q G) := fun L h => x_ov_far 1 hp h hqo
  refine x_to (x_ov_self ho).symm ?_
  have hv := h_inR_t hd9 (by omega)
  refine x_aload_n C dX11_logOf_0 rfl rfl ?_
  refine x_aload_n C dX11_logOf_1 rfl rfl ?_
  refine x_iload_n C dX11_logOf_2 rfl rfl ?_
  refine x_callV1 C dX11_logOf_3 kX11_301 (c_X11_isDrone hO hP0 hQ0 hk9 (hbF _ rfl) (hpF _ rfl) x_ov_bk) (x_ovg 0 rfl) rfl (by decide) ⟨Nat.zero_le _, Nat.zero_le _⟩ (Nat.le_of_ble_eq_true rfl) ?_
  rintro _ _ ⟨rfl, rfl⟩
  rw [hv]
  refine x_callV1 C dX11_logOf_6 kX11_304 (c_X11_isKnown hO x_ov_bk) (x_ovg 0 rfl) rfl (by decide) ⟨Nat.zero_le _, Nat.zero_le _⟩ (Nat.le_of_ble_eq_true rfl) ?_
  rintro _ _ ⟨rfl, rfl⟩
  refine x_to (x_ov_ov rfl) ?_
  refine x_if_eq (tgt := 24) C dX11_logOf_9 (by decide) (fun c9 => absurd c9 (show ¬ h_b true = 0 by decide)) (fun c9 => ?_)
  refine x_aload_n C dX11_logOf_12 rfl rfl ?_
  refine x_getfield C dX11_logOf_13 fX11_50 (x_ovg 0 rfl) rfl ?_
  refine x_getfield C dX11_logOf_16 fX11_312 ((hbF _ rfl) 0 _ rfl) rfl ?_
  refine x_iload_n C dX11_logOf_19 rfl rfl ?_
  refine x_iaload C dX11_logOf_20 ((hbF _ rfl) 3 _ rfl) (vp_in_nI (show d < 8 by omega) (by decide)) ?_
  rw [nI_clamp (show d < 2 ^ 31 by omega)]
  refine x_goto (tgt := 25) C dX11_logOf_21 (by decide) ?_
  refine x_iret C E dX11_logOf_25 ?_
  exact ⟨rfl, rfl⟩
set_option maxHeartbeats 4000000 in
set_option maxRecDepth 100000 in
theorem c_X11_logOfN {l : Launch} {Y0 : x_Y} (hO : x_Ok Y0) {M : x_M} {m o q : Nat} {P : PL} {A : HS} {hx : Nat → Int32} {z : Int32} {G : HS} {th sz ea tk dp : Int32} {tp kd fr mn rl me rd t m2 : Nat} (hP : p_ok P) (hQ : g_is G P) (hk9 : h_ok P A) (hb : x_bk M m (stT m o P A hx z)) (hp : x_bk M q (pmT q G)) (ho : x_bk M o [.inr (11, mdF th sz ea tk dp tp kd fr mn rl me q rd t m m2)]) (hdo : o + 1 ≤ m ∨ m + 9 ≤ o) (hqo : q + 11 ≤ o ∨ o + 1 ≤ q) {x : Int32} (hv : h_inR x (p_nd P) = false) : x_C l Y0 yX11_logOf cX11_logOf 2 (some .int) 3 0 0 [.ref o, .int x] M (fun u M1 => u = some (.int 0) ∧ M1 = x_ov M o [.inr (11, mdF 1 sz ea tk dp tp kd fr mn rl me q rd t m m2)]) := by
  refine x_start hO (by decide +kernel) (Nat.le_of_ble_eq_true rfl) (fun K C E => ?_)
  have hP0 := hP
  have hQ0 := hQ
  obtain ⟨h8, h6, h16, hnp, hwho, hvb, hts⟩ := hP
  obtain ⟨hq0, hq1, hq2, hq3, hq4, hq5, hq6⟩ := hQ
  have hbF : ∀ L : List x_E, L.length = 1 → x_bk (x_ov M o L) m (stT m o P A hx z) := fun L h => x_ov_far 1 hb h hdo.symm
  have hpF : ∀ L : List x_E, L.length = 1 → x_bk (x_ov M o L) q (pmT q G) := fun L h => x_ov_far 1 hp h hqo
  refine x_to (x_ov_self ho).symm ?_
  refine x_aload_n C dX11_logOf_0 rfl rfl ?_
  refine x_aload_n C dX11_logOf_1 rfl rfl ?_
  refine x_iload_n C dX11_logOf_2 rfl rfl ?_
  refine x_callV1 C dX11_logOf_3 kX11_301 (c_X11_isDrone hO hP0 hQ0 hk9 (hbF _ rfl) (hpF _ rfl) x_ov_bk) (x_ovg 0 rfl) rfl (by decide) ⟨Nat.zero_le _, Nat.zero_le _⟩ (Nat.le_of_ble_eq_true rfl) ?_
  rintro _ _ ⟨rfl, rfl⟩
  rw [hv]
  refine x_callV1 C dX11_logOf_6 kX11_304 (c_X11_isKnown hO x_ov_bk) (x_ovg 0 rfl) rfl (by decide) ⟨Nat.zero_le _, Nat.zero_le _⟩ (Nat.le_of_ble_eq_true rfl) ?_
  rintro _ _ ⟨rfl, rfl⟩
  refine x_to (x_ov_ov rfl) ?_
  refine x_if_eq (tgt := 24) C dX11_logOf_9 (by decide) (fun c9 => ?_) (fun c9 => absurd (show h_b false = 0 by decide) c9)
  refine x_iconst (v := 0) C dX11_logOf_24 (by decide) ?_
  refine x_iret C E dX11_logOf_25 ?_
  exact ⟨rfl, rfl⟩
set_option maxHeartbeats 4000000 in
set_option maxRecDepth 100000 in
theorem c_X11_stateOf {l : Launch} {Y0 : x_Y} (hO : x_Ok Y0) {M : x_M} {m o q : Nat} {P : PL} {A : HS} {hx : Nat → Int32} {z : Int32} {G : HS} {th sz ea tk dp : Int32} {tp kd fr mn rl me rd t m2 : Nat} (hP : p_ok P) (hQ : g_is G P) (hk9 : h_ok P A) (hb : x_bk M m (stT m o P A hx z)) (hp : x_bk M q (pmT q G)) (ho : x_bk M o [.inr (11, mdF th sz ea tk dp tp kd fr mn rl me q rd t m m2)]) (hdo : o + 1 ≤ m ∨ m + 9 ≤ o) (hqo : q + 11 ≤ o ∨ o + 1 ≤ q) {k : Nat} (hk : k < p_nk P) : x_C l Y0 yX11_stateOf cX11_stateOf 2 (some .int) 3 0 0 [.ref o, .int (nI k)] M (fun u M1 => u = some (.int (A 4 k)) ∧ M1 = x_ov M o [.inr (11, mdF 0 sz ea tk dp tp kd fr mn rl me q rd t m m2)]) := by
  refine x_start hO (by decide +kernel) (Nat.le_of_ble_eq_true rfl) (fun K C E => ?_)
  have hP0 := hP
  have hQ0 := hQ
  obtain ⟨h8, h6, h16, hnp, hwho, hvb, hts⟩ := hP
  obtain ⟨hq0, hq1, hq2, hq3, hq4, hq5, hq6⟩ := hQ
  have hbF : ∀ L : List x_E, L.length = 1 → x_bk (x_ov M o L) m (stT m o P A hx z) := fun L h => x_ov_far 1 hb h hdo.symm
  have hpF : ∀ L : List x_E, L.length = 1 → x_bk (x_ov M o L) q (pmT q G) := fun L h => x_ov_far 1 hp h hqo
  refine x_to (x_ov_self ho).symm ?_
  have hk1 := hnp k hk
  have hv := h_inR_t hk (by omega)
  refine x_aload_n C dX11_stateOf_0 rfl rfl ?_
  refine x_aload_n C dX11_stateOf_1 rfl rfl ?_
  refine x_iload_n C dX11_stateOf_2 rfl rfl ?_
  refine x_callV1 C dX11_stateOf_3 kX11_73 (c_X11_isDeal hO hP0 hQ0 hk9 (hbF _ rfl) (hpF _ rfl) x_ov_bk) (x_ovg 0 rfl) rfl (by decide) ⟨Nat.zero_le _, Nat.zero_le _⟩ (Nat.le_of_ble_eq_true rfl) ?_
  rintro _ _ ⟨rfl, rfl⟩
  rw [hv]
  refine x_callV1 C dX11_stateOf_6 kX11_304 (c_X11_isKnown hO x_ov_bk) (x_ovg 0 rfl) rfl (by decide) ⟨Nat.zero_le _, Nat.zero_le _⟩ (Nat.le_of_ble_eq_true rfl) ?_
  rintro _ _ ⟨rfl, rfl⟩
  refine x_to (x_ov_ov rfl) ?_
  refine x_if_eq (tgt := 24) C dX11_stateOf_9 (by decide) (fun c9 => absurd c9 (show ¬ h_b true = 0 by decide)) (fun c9 => ?_)
  refine x_aload_n C dX11_stateOf_12 rfl rfl ?_
  refine x_getfield C dX11_stateOf_13 fX11_50 (x_ovg 0 rfl) rfl ?_
  refine x_getfield C dX11_stateOf_16 fX11_315 ((hbF _ rfl) 0 _ rfl) rfl ?_
  refine x_iload_n C dX11_stateOf_19 rfl rfl ?_
  refine x_iaload C dX11_stateOf_20 ((hbF _ rfl) 5 _ rfl) (vp_in_nI (show k < 6 by omega) (by decide)) ?_
  rw [nI_clamp (show k < 2 ^ 31 by omega)]
  refine x_goto (tgt := 25) C dX11_stateOf_21 (by decide) ?_
  refine x_iret C E dX11_stateOf_25 ?_
  exact ⟨rfl, rfl⟩
set_option maxHeartbeats 4000000 in
set_option maxRecDepth 100000 in
theorem c_X11_stateOfN {l : Launch} {Y0 : x_Y} (hO : x_Ok Y0) {M : x_M} {m o q : Nat} {P : PL} {A : HS} {hx : Nat → Int32} {z : Int32} {G : HS} {th sz ea tk dp : Int32} {tp kd fr mn rl me rd t m2 : Nat} (hP : p_ok P) (hQ : g_is G P) (hk9 : h_ok P A) (hb : x_bk M m (stT m o P A hx z)) (hp : x_bk M q (pmT q G)) (ho : x_bk M o [.inr (11, mdF th sz ea tk dp tp kd fr mn rl me q rd t m m2)]) (hdo : o + 1 ≤ m ∨ m + 9 ≤ o) (hqo : q + 11 ≤ o ∨ o + 1 ≤ q) {x : Int32} (hv : h_inR x (p_nk P) = false) : x_C l Y0 yX11_stateOf cX11_stateOf 2 (some .int) 3 0 0 [.ref o, .int x] M (fun u M1 => u = some (.int 0) ∧ M1 = x_ov M o [.inr (11, mdF 1 sz ea tk dp tp kd fr mn rl me q rd t m m2)]) := by
  refine x_start hO (by decide +kernel) (Nat.le_of_ble_eq_true rfl) (fun K C E => ?_)
  have hP0 := hP
  have hQ0 := hQ
  obtain ⟨h8, h6, h16, hnp, hwho, hvb, hts⟩ := hP
  obtain ⟨hq0, hq1, hq2, hq3, hq4, hq5, hq6⟩ := hQ
  have hbF : ∀ L : List x_E, L.length = 1 → x_bk (x_ov M o L) m (stT m o P A hx z) := fun L h => x_ov_far 1 hb h hdo.symm
  have hpF : ∀ L : List x_E, L.length = 1 → x_bk (x_ov M o L) q (pmT q G) := fun L h => x_ov_far 1 hp h hqo
  refine x_to (x_ov_self ho).symm ?_
  refine x_aload_n C dX11_stateOf_0 rfl rfl ?_
  refine x_aload_n C dX11_stateOf_1 rfl rfl ?_
  refine x_iload_n C dX11_stateOf_2 rfl rfl ?_
  refine x_callV1 C dX11_stateOf_3 kX11_73 (c_X11_isDeal hO hP0 hQ0 hk9 (hbF _ rfl) (hpF _ rfl) x_ov_bk) (x_ovg 0 rfl) rfl (by decide) ⟨Nat.zero_le _, Nat.zero_le _⟩ (Nat.le_of_ble_eq_true rfl) ?_
  rintro _ _ ⟨rfl, rfl⟩
  rw [hv]
  refine x_callV1 C dX11_stateOf_6 kX11_304 (c_X11_isKnown hO x_ov_bk) (x_ovg 0 rfl) rfl (by decide) ⟨Nat.zero_le _, Nat.zero_le _⟩ (Nat.le_of_ble_eq_true rfl) ?_
  rintro _ _ ⟨rfl, rfl⟩
  refine x_to (x_ov_ov rfl) ?_
  refine x_if_eq (tgt := 24) C dX11_stateOf_9 (by decide) (fun c9 => ?_) (fun c9 => absurd (show h_b false = 0 by decide) c9)
  refine x_iconst (v := 0) C dX11_stateOf_24 (by decide) ?_
  refine x_iret C E dX11_stateOf_25 ?_
  exact ⟨rfl, rfl⟩
set_option maxHeartbeats 4000000 in
set_option maxRecDepth 100000 in
theorem c_X11_waitsOf {l : Launch} {Y0 : x_Y} (hO : x_Ok Y0) {M : x_M} {m o q : Nat} {P : PL} {A : HS} {hx : Nat → Int32} {z : Int32} {G : HS} {th sz ea tk dp : Int32} {tp kd fr mn rl me rd t m2 : Nat} (hP : p_ok P) (hQ : g_is G P) (hk9 : h_ok P A) (hb : x_bk M m (stT m o P A hx z)) (hp : x_bk M q (pmT q G)) (ho : x_bk M o [.inr (11, mdF th sz ea tk dp tp kd fr mn rl me q rd t m m2)]) (hdo : o + 1 ≤ m ∨ m + 9 ≤ o) (hqo : q + 11 ≤ o ∨ o + 1 ≤ q) {k : Nat} (hk : k < p_nk P) : x_C l Y0 yX11_waitsOf cX11_waitsOf 2 (some .int) 3 0 0 [.ref o, .int (nI k)] M (fun u M1 => u = some (.int (h_waits A k)) ∧ M1 = x_ov M o [.inr (11, mdF 0 sz ea tk dp tp kd fr mn rl me q rd t m m2)]) := by
  refine x_start hO (by decide +kernel) (Nat.le_of_ble_eq_true rfl) (fun K C E => ?_)
  have hP0 := hP
  have hQ0 := hQ
  obtain ⟨h8, h6, h16, hnp, hwho, hvb, hts⟩ := hP
  obtain ⟨hq0, hq1, hq2, hq3, hq4, hq5, hq6⟩ := hQ
  have hbF : ∀ L : List x_E, L.length = 1 → x_bk (x_ov M o L) m (stT m o P A hx z) := fun L h => x_ov_far 1 hb h hdo.symm
  have hpF : ∀ L : List x_E, L.length = 1 → x_bk (x_ov M o L) q (pmT q G) := fun L h => x_ov_far 1 hp h hqo
  refine x_to (x_ov_self ho).symm ?_
  have hk1 := hnp k hk
  have hv := h_inR_t hk (by omega)
  refine x_aload_n C dX11_waitsOf_0 rfl rfl ?_
  refine x_aload_n C dX11_waitsOf_1 rfl rfl ?_
  refine x_iload_n C dX11_waitsOf_2 rfl rfl ?_
  refine x_callV1 C dX11_waitsOf_3 kX11_73 (c_X11_isDeal hO hP0 hQ0 hk9 (hbF _ rfl) (hpF _ rfl) x_ov_bk) (x_ovg 0 rfl) rfl (by decide) ⟨Nat.zero_le _, Nat.zero_le _⟩ (Nat.le_of_ble_eq_true rfl) ?_
  rintro _ _ ⟨rfl, rfl⟩
  rw [hv]
  refine x_callV1 C dX11_waitsOf_6 kX11_304 (c_X11_isKnown hO x_ov_bk) (x_ovg 0 rfl) rfl (by decide) ⟨Nat.zero_le _, Nat.zero_le _⟩ (Nat.le_of_ble_eq_true rfl) ?_
  rintro _ _ ⟨rfl, rfl⟩
  refine x_to (x_ov_ov rfl) ?_
  refine x_if_eq (tgt := 23) C dX11_waitsOf_9 (by decide) (fun c9 => absurd c9 (show ¬ h_b true = 0 by decide)) (fun c9 => ?_)
  refine x_aload_n C dX11_waitsOf_12 rfl rfl ?_
  refine x_getfield C dX11_waitsOf_13 fX11_50 (x_ovg 0 rfl) rfl ?_
  refine x_iload_n C dX11_waitsOf_16 rfl rfl ?_
  refine x_callV1 C dX11_waitsOf_17 kX11_318 (c_X10_waits hO hP0 hQ0 hk9 (hbF _ rfl) (hpF _ rfl) x_ov_bk rfl hk) ((hbF _ rfl) 0 _ rfl) rfl (by decide) ⟨Nat.zero_le _, Nat.zero_le _⟩ (Nat.le_of_ble_eq_true rfl) ?_
  rintro _ _ ⟨rfl, rfl⟩
  refine x_goto (tgt := 24) C dX11_waitsOf_20 (by decide) ?_
  refine x_iret C E dX11_waitsOf_24 ?_
  exact ⟨rfl, rfl⟩
set_option maxHeartbeats 4000000 in
set_option maxRecDepth 100000 in
theorem c_X11_waitsOfN {l : Launch} {Y0 : x_Y} (hO : x_Ok Y0) {M : x_M} {m o q : Nat} {P : PL} {A : HS} {hx : Nat → Int32} {z : Int32} {G : HS} {th sz ea tk dp : Int32} {tp kd fr mn rl me rd t m2 : Nat} (hP : p_ok P) (hQ : g_is G P) (hk9 : h_ok P A) (hb : x_bk M m (stT m o P A hx z)) (hp : x_bk M q (pmT q G)) (ho : x_bk M o [.inr (11, mdF th sz ea tk dp tp kd fr mn rl me q rd t m m2)]) (hdo : o + 1 ≤ m ∨ m + 9 ≤ o) (hqo : q + 11 ≤ o ∨ o + 1 ≤ q) {x : Int32} (hv : h_inR x (p_nk P) = false) : x_C l Y0 yX11_waitsOf cX11_waitsOf 2 (some .int) 3 0 0 [.ref o, .int x] M (fun u M1 => u = some (.int 0) ∧ M1 = x_ov M o [.inr (11, mdF 1 sz ea tk dp tp kd fr mn rl me q rd t m m2)]) := by
  refine x_start hO (by decide +kernel) (Nat.le_of_ble_eq_true rfl) (fun K C E => ?_)
  have hP0 := hP
  have hQ0 := hQ
  obtain ⟨h8, h6, h16, hnp, hwho, hvb, hts⟩ := hP
  obtain ⟨hq0, hq1, hq2, hq3, hq4, hq5, hq6⟩ := hQ
  have hbF : ∀ L : List x_E, L.length = 1 → x_bk (x_ov M o L) m (stT m o P A hx z) := fun L h => x_ov_far 1 hb h hdo.symm
  have hpF : ∀ L : List x_E, L.length = 1 → x_bk (x_ov M o L) q (pmT q G) := fun L h => x_ov_far 1 hp h hqo
  refine x_to (x_ov_self ho).symm ?_
  refine x_aload_n C dX11_waitsOf_0 rfl rfl ?_
  refine x_aload_n C dX11_waitsOf_1 rfl rfl ?_
  refine x_iload_n C dX11_waitsOf_2 rfl rfl ?_
  refine x_callV1 C dX11_waitsOf_3 kX11_73 (c_X11_isDeal hO hP0 hQ0 hk9 (hbF _ rfl) (hpF _ rfl) x_ov_bk) (x_ovg 0 rfl) rfl (by decide) ⟨Nat.zero_le _, Nat.zero_le _⟩ (Nat.le_of_ble_eq_true rfl) ?_
  rintro _ _ ⟨rfl, rfl⟩
  rw [hv]
  refine x_callV1 C dX11_waitsOf_6 kX11_304 (c_X11_isKnown hO x_ov_bk) (x_ovg 0 rfl) rfl (by decide) ⟨Nat.zero_le _, Nat.zero_le _⟩ (Nat.le_of_ble_eq_true rfl) ?_
  rintro _ _ ⟨rfl, rfl⟩
  refine x_to (x_ov_ov rfl) ?_
  refine x_if_eq (tgt := 23) C dX11_waitsOf_9 (by decide) (fun c9 => ?_) (fun c9 => absurd (show h_b false = 0 by decide) c9)
  refine x_iconst (v := 0) C dX11_waitsOf_23 (by decide) ?_
  refine x_iret C E dX11_waitsOf_24 ?_
  exact ⟨rfl, rfl⟩
set_option maxHeartbeats 4000000 in
set_option maxRecDepth 100000 in
theorem c_X11_partsOf {l : Launch} {Y0 : x_Y} (hO : x_Ok Y0) {M : x_M} {m o q : Nat} {P : PL} {A : HS} {hx : Nat → Int32} {z : Int32} {G : HS} {th sz ea tk dp : Int32} {tp kd fr mn rl me rd t m2 : Nat} (hP : p_ok P) (hQ : g_is G P) (hk9 : h_ok P A) (hb : x_bk M m (stT m o P A hx z)) (hp : x_bk M q (pmT q G)) (ho : x_bk M o [.inr (11, mdF th sz ea tk dp tp kd fr mn rl me q rd t m m2)]) (hdo : o + 1 ≤ m ∨ m + 9 ≤ o) (hqo : q + 11 ≤ o ∨ o + 1 ≤ q) {k : Nat} (hk : k < p_nk P) : x_C l Y0 yX11_partsOf cX11_partsOf 2 (some .int) 3 0 0 [.ref o, .int (nI k)] M (fun u M1 => u = some (.int (nI (p_np P k))) ∧ M1 = x_ov M o [.inr (11, mdF 0 sz ea tk dp tp kd fr mn rl me q rd t m m2)]) := by
  refine x_start hO (by decide +kernel) (Nat.le_of_ble_eq_true rfl) (fun K C E => ?_)
  have hP0 := hP
  have hQ0 := hQ
  obtain ⟨h8, h6, h16, hnp, hwho, hvb, hts⟩ := hP
  obtain ⟨hq0, hq1, hq2, hq3, hq4, hq5, hq6⟩ := hQ
  have hbF : ∀ L : List x_E, L.length = 1 → x_bk (x_ov M o L) m (stT m o P A hx z) := fun L h => x_ov_far 1 hb h hdo.symm
  have hpF : ∀ L : List x_E, L.length = 1 → x_bk (x_ov M o L) q (pmT q G) := fun L h => x_ov_far 1 hp h hqo
  refine x_to (x_ov_self ho).symm ?_
  have hk1 := hnp k hk
  have hv := h_inR_t hk (by omega)
  refine x_aload_n C dX11_partsOf_0 rfl rfl ?_
  refine x_aload_n C dX11_partsOf_1 rfl rfl ?_
  refine x_iload_n C dX11_partsOf_2 rfl rfl ?_
  refine x_callV1 C dX11_partsOf_3 kX11_73 (c_X11_isDeal hO hP0 hQ0 hk9 (hbF _ rfl) (hpF _ rfl) x_ov_bk) (x_ovg 0 rfl) rfl (by decide) ⟨Nat.zero_le _, Nat.zero_le _⟩ (Nat.le_of_ble_eq_true rfl) ?_
  rintro _ _ ⟨rfl, rfl⟩
  rw [hv]
  refine x_callV1 C dX11_partsOf_6 kX11_304 (c_X11_isKnown hO x_ov_bk) (x_ovg 0 rfl) rfl (by decide) ⟨Nat.zero_le _, Nat.zero_le _⟩ (Nat.le_of_ble_eq_true rfl) ?_
  rintro _ _ ⟨rfl, rfl⟩
  refine x_to (x_ov_ov rfl) ?_
  refine x_if_eq (tgt := 24) C dX11_partsOf_9 (by decide) (fun c9 => absurd c9 (show ¬ h_b true = 0 by decide)) (fun c9 => ?_)
  refine x_aload_n C dX11_partsOf_12 rfl rfl ?_
  refine x_getfield C dX11_partsOf_13 fX11_35 (x_ovg 0 rfl) rfl ?_
  refine x_getfield C dX11_partsOf_16 fX11_77 ((hpF _ rfl) 0 _ rfl) rfl ?_
  refine x_iload_n C dX11_partsOf_19 rfl rfl ?_
  refine x_iaload C dX11_partsOf_20 ((hpF _ rfl) 2 _ rfl) (vp_in_nI (show k < 6 by omega) (by decide)) ?_
  rw [nI_clamp (show k < 2 ^ 31 by omega)]
  rw [hq3 k hk]
  refine x_goto (tgt := 25) C dX11_partsOf_21 (by decide) ?_
  refine x_iret C E dX11_partsOf_25 ?_
  exact ⟨rfl, rfl⟩
set_option maxHeartbeats 4000000 in
set_option maxRecDepth 100000 in
theorem c_X11_partsOfN {l : Launch} {Y0 : x_Y} (hO : x_Ok Y0) {M : x_M} {m o q : Nat} {P : PL} {A : HS} {hx : Nat → Int32} {z : Int32} {G : HS} {th sz ea tk dp : Int32} {tp kd fr mn rl me rd t m2 : Nat} (hP : p_ok P) (hQ : g_is G P) (hk9 : h_ok P A) (hb : x_bk M m (stT m o P A hx z)) (hp : x_bk M q (pmT q G)) (ho : x_bk M o [.inr (11, mdF th sz ea tk dp tp kd fr mn rl me q rd t m m2)]) (hdo : o + 1 ≤ m ∨ m + 9 ≤ o) (hqo : q + 11 ≤ o ∨ o + 1 ≤ q) {x : Int32} (hv : h_inR x (p_nk P) = false) : x_C l Y0 yX11_partsOf cX11_partsOf 2 (some .int) 3 0 0 [.ref o, .int x] M (fun u M1 => u = some (.int 0) ∧ M1 = x_ov M o [.inr (11, mdF 1 sz ea tk dp tp kd fr mn rl me q rd t m m2)]) := by
  refine x_start hO (by decide +kernel) (Nat.le_of_ble_eq_true rfl) (fun K C E => ?_)
  have hP0 := hP
  have hQ0 := hQ
  obtain ⟨h8, h6, h16, hnp, hwho, hvb, hts⟩ := hP
  obtain ⟨hq0, hq1, hq2, hq3, hq4, hq5, hq6⟩ := hQ
  have hbF : ∀ L : List x_E, L.length = 1 → x_bk (x_ov M o L) m (stT m o P A hx z) := fun L h => x_ov_far 1 hb h hdo.symm
  have hpF : ∀ L : List x_E, L.length = 1 → x_bk (x_ov M o L) q (pmT q G) := fun L h => x_ov_far 1 hp h hqo
  refine x_to (x_ov_self ho).symm ?_
  refine x_aload_n C dX11_partsOf_0 rfl rfl ?_
  refine x_aload_n C dX11_partsOf_1 rfl rfl ?_
  refine x_iload_n C dX11_partsOf_2 rfl rfl ?_
  refine x_callV1 C dX11_partsOf_3 kX11_73 (c_X11_isDeal hO hP0 hQ0 hk9 (hbF _ rfl) (hpF _ rfl) x_ov_bk) (x_ovg 0 rfl) rfl (by decide) ⟨Nat.zero_le _, Nat.zero_le _⟩ (Nat.le_of_ble_eq_true rfl) ?_
  rintro _ _ ⟨rfl, rfl⟩
  rw [hv]
  refine x_callV1 C dX11_partsOf_6 kX11_304 (c_X11_isKnown hO x_ov_bk) (x_ovg 0 rfl) rfl (by decide) ⟨Nat.zero_le _, Nat.zero_le _⟩ (Nat.le_of_ble_eq_true rfl) ?_
  rintro _ _ ⟨rfl, rfl⟩
  refine x_to (x_ov_ov rfl) ?_
  refine x_if_eq (tgt := 24) C dX11_partsOf_9 (by decide) (fun c9 => ?_) (fun c9 => absurd (show h_b false = 0 by decide) c9)
  refine x_iconst (v := 0) C dX11_partsOf_24 (by decide) ?_
  refine x_iret C E dX11_partsOf_25 ?_
  exact ⟨rfl, rfl⟩
set_option maxHeartbeats 4000000 in
set_option maxRecDepth 100000 in
theorem c_X11_droneIn {l : Launch} {Y0 : x_Y} (hO : x_Ok Y0) {M : x_M} {m o q : Nat} {P : PL} {A : HS} {hx : Nat → Int32} {z : Int32} {G : HS} {th sz ea tk dp : Int32} {tp kd fr mn rl me rd t m2 : Nat} (hP : p_ok P) (hQ : g_is G P) (hk9 : h_ok P A) (hb : x_bk M m (stT m o P A hx z)) (hp : x_bk M q (pmT q G)) (ho : x_bk M o [.inr (11, mdF th sz ea tk dp tp kd fr mn rl me q rd t m m2)]) (hdo : o + 1 ≤ m ∨ m + 9 ≤ o) (hqo : q + 11 ≤ o ∨ o + 1 ≤ q) {k : Nat} (hk : k < p_nk P) {j : Nat} (hj : j < p_np P k) : x_C l Y0 yX11_droneIn cX11_droneIn 3 (some .int) 4 0 0 [.ref o, .int (nI k), .int (nI j)] M (fun u M1 => u = some (.int (nI (p_who P (6 * k + j)))) ∧ M1 = x_ov M o [.inr (11, mdF 0 sz ea tk dp tp kd fr mn rl me q rd t m m2)]) := by
  refine x_start hO (by decide +kernel) (Nat.le_of_ble_eq_true rfl) (fun K C E => ?_)
  have hP0 := hP
  have hQ0 := hQ
  obtain ⟨h8, h6, h16, hnp, hwho, hvb, hts⟩ := hP
  obtain ⟨hq0, hq1, hq2, hq3, hq4, hq5, hq6⟩ := hQ
  have hbF : ∀ L : List x_E, L.length = 1 → x_bk (x_ov M o L) m (stT m o P A hx z) := fun L h => x_ov_far 1 hb h hdo.symm
  have hpF : ∀ L : List x_E, L.length = 1 → x_bk (x_ov M o L) q (pmT q G) := fun L h => x_ov_far 1 hp h hqo
  refine x_to (x_ov_self ho).symm ?_
  have hk1 := hnp k hk
  have hv := h_inR_t hj (by have := hnp k hk; omega)
  refine x_aload_n C dX11_droneIn_0 rfl rfl ?_
  refine x_aload_n C dX11_droneIn_1 rfl rfl ?_
  refine x_iload_n C dX11_droneIn_2 rfl rfl ?_
  refine x_iload_n C dX11_droneIn_3 rfl rfl ?_
  refine x_callV2 C dX11_droneIn_4 kX11_321 (c_X11_isPart hO hP0 hQ0 hk9 (hbF _ rfl) (hpF _ rfl) x_ov_bk hk) (x_ovg 0 rfl) rfl (by decide) ⟨Nat.zero_le _, Nat.zero_le _⟩ (Nat.le_of_ble_eq_true rfl) ?_
  rintro _ _ ⟨rfl, rfl⟩
  rw [hv]
  refine x_callV1 C dX11_droneIn_7 kX11_304 (c_X11_isKnown hO x_ov_bk) (x_ovg 0 rfl) rfl (by decide) ⟨Nat.zero_le _, Nat.zero_le _⟩ (Nat.le_of_ble_eq_true rfl) ?_
  rintro _ _ ⟨rfl, rfl⟩
  refine x_to (x_ov_ov rfl) ?_
  refine x_if_eq (tgt := 30) C dX11_droneIn_10 (by decide) (fun c10 => absurd c10 (show ¬ h_b true = 0 by decide)) (fun c10 => ?_)
  refine x_aload_n C dX11_droneIn_13 rfl rfl ?_
  refine x_getfield C dX11_droneIn_14 fX11_35 (x_ovg 0 rfl) rfl ?_
  refine x_getfield C dX11_droneIn_17 fX11_234 ((hpF _ rfl) 0 _ rfl) rfl ?_
  refine x_bipush (v := 6) C dX11_droneIn_20 (by decide) ?_
  refine x_iload_n C dX11_droneIn_22 rfl rfl ?_
  refine x_imul C dX11_droneIn_23 ?_
  refine x_iload_n C dX11_droneIn_24 rfl rfl ?_
  refine x_iadd C dX11_droneIn_25 ?_
  rw [slot_nI2]
  refine x_iaload C dX11_droneIn_26 ((hpF _ rfl) 3 _ rfl) (vp_in_nI (show 6 * k + j < 36 by omega) (by decide)) ?_
  rw [nI_clamp (show 6 * k + j < 2 ^ 31 by omega)]
  rw [(hq4 k j hk hj).1]
  refine x_goto (tgt := 31) C dX11_droneIn_27 (by decide) ?_
  refine x_iret C E dX11_droneIn_31 ?_
  exact ⟨rfl, rfl⟩
set_option maxHeartbeats 4000000 in
set_option maxRecDepth 100000 in
theorem c_X11_droneInN {l : Launch} {Y0 : x_Y} (hO : x_Ok Y0) {M : x_M} {m o q : Nat} {P : PL} {A : HS} {hx : Nat → Int32} {z : Int32} {G : HS} {th sz ea tk dp : Int32} {tp kd fr mn rl me rd t m2 : Nat} (hP : p_ok P) (hQ : g_is G P) (hk9 : h_ok P A) (hb : x_bk M m (stT m o P A hx z)) (hp : x_bk M q (pmT q G)) (ho : x_bk M o [.inr (11, mdF th sz ea tk dp tp kd fr mn rl me q rd t m m2)]) (hdo : o + 1 ≤ m ∨ m + 9 ≤ o) (hqo : q + 11 ≤ o ∨ o + 1 ≤ q) {x y : Int32} (hv : h_inR x (p_nk P) = false) : x_C l Y0 yX11_droneIn cX11_droneIn 3 (some .int) 4 0 0 [.ref o, .int x, .int y] M (fun u M1 => u = some (.int 0) ∧ M1 = x_ov M o [.inr (11, mdF 1 sz ea tk dp tp kd fr mn rl me q rd t m m2)]) := by
  refine x_start hO (by decide +kernel) (Nat.le_of_ble_eq_true rfl) (fun K C E => ?_)
  have hP0 := hP
  have hQ0 := hQ
  obtain ⟨h8, h6, h16, hnp, hwho, hvb, hts⟩ := hP
  obtain ⟨hq0, hq1, hq2, hq3, hq4, hq5, hq6⟩ := hQ
  have hbF : ∀ L : List x_E, L.length = 1 → x_bk (x_ov M o L) m (stT m o P A hx z) := fun L h => x_ov_far 1 hb h hdo.symm
  have hpF : ∀ L : List x_E, L.length = 1 → x_bk (x_ov M o L) q (pmT q G) := fun L h => x_ov_far 1 hp h hqo
  refine x_to (x_ov_self ho).symm ?_
  refine x_aload_n C dX11_droneIn_0 rfl rfl ?_
  refine x_aload_n C dX11_droneIn_1 rfl rfl ?_
  refine x_iload_n C dX11_droneIn_2 rfl rfl ?_
  refine x_iload_n C dX11_droneIn_3 rfl rfl ?_
  refine x_callV2 C dX11_droneIn_4 kX11_321 (c_X11_isPartN hO hP0 hQ0 hk9 (hbF _ rfl) (hpF _ rfl) x_ov_bk hv) (x_ovg 0 rfl) rfl (by decide) ⟨Nat.zero_le _, Nat.zero_le _⟩ (Nat.le_of_ble_eq_true rfl) ?_
  rintro _ _ ⟨rfl, rfl⟩
  refine x_topi (h_b false) rfl ?_
  refine x_callV1 C dX11_droneIn_7 kX11_304 (c_X11_isKnown hO x_ov_bk) (x_ovg 0 rfl) rfl (by decide) ⟨Nat.zero_le _, Nat.zero_le _⟩ (Nat.le_of_ble_eq_true rfl) ?_
  rintro _ _ ⟨rfl, rfl⟩
  refine x_to (x_ov_ov rfl) ?_
  refine x_if_eq (tgt := 30) C dX11_droneIn_10 (by decide) (fun c10 => ?_) (fun c10 => absurd (show h_b false = 0 by decide) c10)
  refine x_iconst (v := 0) C dX11_droneIn_30 (by decide) ?_
  refine x_iret C E dX11_droneIn_31 ?_
  exact ⟨rfl, rfl⟩
set_option maxHeartbeats 4000000 in
set_option maxRecDepth 100000 in
theorem c_X11_droneInM {l : Launch} {Y0 : x_Y} (hO : x_Ok Y0) {M : x_M} {m o q : Nat} {P : PL} {A : HS} {hx : Nat → Int32} {z : Int32} {G : HS} {th sz ea tk dp : Int32} {tp kd fr mn rl me rd t m2 : Nat} (hP : p_ok P) (hQ : g_is G P) (hk9 : h_ok P A) (hb : x_bk M m (stT m o P A hx z)) (hp : x_bk M q (pmT q G)) (ho : x_bk M o [.inr (11, mdF th sz ea tk dp tp kd fr mn rl me q rd t m m2)]) (hdo : o + 1 ≤ m ∨ m + 9 ≤ o) (hqo : q + 11 ≤ o ∨ o + 1 ≤ q) {k : Nat} (hk : k < p_nk P) {x : Int32} (hv : h_inR x (p_np P k) = false) : x_C l Y0 yX11_droneIn cX11_droneIn 3 (some .int) 4 0 0 [.ref o, .int (nI k), .int x] M (fun u M1 => u = some (.int 0) ∧ M1 = x_ov M o [.inr (11, mdF 1 sz ea tk dp tp kd fr mn rl me q rd t m m2)]) := by
  refine x_start hO (by decide +kernel) (Nat.le_of_ble_eq_true rfl) (fun K C E => ?_)
  have hP0 := hP
  have hQ0 := hQ
  obtain ⟨h8, h6, h16, hnp, hwho, hvb, hts⟩ := hP
  obtain ⟨hq0, hq1, hq2, hq3, hq4, hq5, hq6⟩ := hQ
  have hbF : ∀ L : List x_E, L.length = 1 → x_bk (x_ov M o L) m (stT m o P A hx z) := fun L h => x_ov_far 1 hb h hdo.symm
  have hpF : ∀ L : List x_E, L.length = 1 → x_bk (x_ov M o L) q (pmT q G) := fun L h => x_ov_far 1 hp h hqo
  refine x_to (x_ov_self ho).symm ?_
  refine x_aload_n C dX11_droneIn_0 rfl rfl ?_
  refine x_aload_n C dX11_droneIn_1 rfl rfl ?_
  refine x_iload_n C dX11_droneIn_2 rfl rfl ?_
  refine x_iload_n C dX11_droneIn_3 rfl rfl ?_
  refine x_callV2 C dX11_droneIn_4 kX11_321 (c_X11_isPart hO hP0 hQ0 hk9 (hbF _ rfl) (hpF _ rfl) x_ov_bk hk) (x_ovg 0 rfl) rfl (by decide) ⟨Nat.zero_le _, Nat.zero_le _⟩ (Nat.le_of_ble_eq_true rfl) ?_
  rintro _ _ ⟨rfl, rfl⟩
  rw [hv]
  refine x_callV1 C dX11_droneIn_7 kX11_304 (c_X11_isKnown hO x_ov_bk) (x_ovg 0 rfl) rfl (by decide) ⟨Nat.zero_le _, Nat.zero_le _⟩ (Nat.le_of_ble_eq_true rfl) ?_
  rintro _ _ ⟨rfl, rfl⟩
  refine x_to (x_ov_ov rfl) ?_
  refine x_if_eq (tgt := 30) C dX11_droneIn_10 (by decide) (fun c10 => ?_) (fun c10 => absurd (show h_b false = 0 by decide) c10)
  refine x_iconst (v := 0) C dX11_droneIn_30 (by decide) ?_
  refine x_iret C E dX11_droneIn_31 ?_
  exact ⟨rfl, rfl⟩
set_option maxHeartbeats 4000000 in
set_option maxRecDepth 100000 in
theorem c_X11_changeIn {l : Launch} {Y0 : x_Y} (hO : x_Ok Y0) {M : x_M} {m o q : Nat} {P : PL} {A : HS} {hx : Nat → Int32} {z : Int32} {G : HS} {th sz ea tk dp : Int32} {tp kd fr mn rl me rd t m2 : Nat} (hP : p_ok P) (hQ : g_is G P) (hk9 : h_ok P A) (hb : x_bk M m (stT m o P A hx z)) (hp : x_bk M q (pmT q G)) (ho : x_bk M o [.inr (11, mdF th sz ea tk dp tp kd fr mn rl me q rd t m m2)]) (hdo : o + 1 ≤ m ∨ m + 9 ≤ o) (hqo : q + 11 ≤ o ∨ o + 1 ≤ q) {k : Nat} (hk : k < p_nk P) {j : Nat} (hj : j < p_np P k) : x_C l Y0 yX11_changeIn cX11_changeIn 3 (some .int) 4 0 0 [.ref o, .int (nI k), .int (nI j)] M (fun u M1 => u = some (.int (p_mv P (6 * k + j))) ∧ M1 = x_ov M o [.inr (11, mdF 0 sz ea tk dp tp kd fr mn rl me q rd t m m2)]) := by
  refine x_start hO (by decide +kernel) (Nat.le_of_ble_eq_true rfl) (fun K C E => ?_)
  have hP0 := hP
  have hQ0 := hQ
  obtain ⟨h8, h6, h16, hnp, hwho, hvb, hts⟩ := hP
  obtain ⟨hq0, hq1, hq2, hq3, hq4, hq5, hq6⟩ := hQ
  have hbF : ∀ L : List x_E, L.length = 1 → x_bk (x_ov M o L) m (stT m o P A hx z) := fun L h => x_ov_far 1 hb h hdo.symm
  have hpF : ∀ L : List x_E, L.length = 1 → x_bk (x_ov M o L) q (pmT q G) := fun L h => x_ov_far 1 hp h hqo
  refine x_to (x_ov_self ho).symm ?_
  have hk1 := hnp k hk
  have hv := h_inR_t hj (by have := hnp k hk; omega)
  refine x_aload_n C dX11_changeIn_0 rfl rfl ?_
  refine x_aload_n C dX11_changeIn_1 rfl rfl ?_
  refine x_iload_n C dX11_changeIn_2 rfl rfl ?_
  refine x_iload_n C dX11_changeIn_3 rfl rfl ?_
  refine x_callV2 C dX11_changeIn_4 kX11_321 (c_X11_isPart hO hP0 hQ0 hk9 (hbF _ rfl) (hpF _ rfl) x_ov_bk hk) (x_ovg 0 rfl) rfl (by decide) ⟨Nat.zero_le _, Nat.zero_le _⟩ (Nat.le_of_ble_eq_true rfl) ?_
  rintro _ _ ⟨rfl, rfl⟩
  rw [hv]
  refine x_callV1 C dX11_changeIn_7 kX11_304 (c_X11_isKnown hO x_ov_bk) (x_ovg 0 rfl) rfl (by decide) ⟨Nat.zero_le _, Nat.zero_le _⟩ (Nat.le_of_ble_eq_true rfl) ?_
  rintro _ _ ⟨rfl, rfl⟩
  refine x_to (x_ov_ov rfl) ?_
  refine x_if_eq (tgt := 30) C dX11_changeIn_10 (by decide) (fun c10 => absurd c10 (show ¬ h_b true = 0 by decide)) (fun c10 => ?_)
  refine x_aload_n C dX11_changeIn_13 rfl rfl ?_
  refine x_getfield C dX11_changeIn_14 fX11_35 (x_ovg 0 rfl) rfl ?_
  refine x_getfield C dX11_changeIn_17 fX11_237 ((hpF _ rfl) 0 _ rfl) rfl ?_
  refine x_bipush (v := 6) C dX11_changeIn_20 (by decide) ?_
  refine x_iload_n C dX11_changeIn_22 rfl rfl ?_
  refine x_imul C dX11_changeIn_23 ?_
  refine x_iload_n C dX11_changeIn_24 rfl rfl ?_
  refine x_iadd C dX11_changeIn_25 ?_
  rw [slot_nI2]
  refine x_iaload C dX11_changeIn_26 ((hpF _ rfl) 4 _ rfl) (vp_in_nI (show 6 * k + j < 36 by omega) (by decide)) ?_
  rw [nI_clamp (show 6 * k + j < 2 ^ 31 by omega)]
  rw [(hq4 k j hk hj).2]
  refine x_goto (tgt := 31) C dX11_changeIn_27 (by decide) ?_
  refine x_iret C E dX11_changeIn_31 ?_
  exact ⟨rfl, rfl⟩
set_option maxHeartbeats 4000000 in
set_option maxRecDepth 100000 in
theorem c_X11_changeInN {l : Launch} {Y0 : x_Y} (hO : x_Ok Y0) {M : x_M} {m o q : Nat} {P : PL} {A : HS} {hx : Nat → Int32} {z : Int32} {G : HS} {th sz ea tk dp : Int32} {tp kd fr mn rl me rd t m2 : Nat} (hP : p_ok P) (hQ : g_is G P) (hk9 : h_ok P A) (hb : x_bk M m (stT m o P A hx z)) (hp : x_bk M q (pmT q G)) (ho : x_bk M o [.inr (11, mdF th sz ea tk dp tp kd fr mn rl me q rd t m m2)]) (hdo : o + 1 ≤ m ∨ m + 9 ≤ o) (hqo : q + 11 ≤ o ∨ o + 1 ≤ q) {x y : Int32} (hv : h_inR x (p_nk P) = false) : x_C l Y0 yX11_changeIn cX11_changeIn 3 (some .int) 4 0 0 [.ref o, .int x, .int y] M (fun u M1 => u = some (.int 0) ∧ M1 = x_ov M o [.inr (11, mdF 1 sz ea tk dp tp kd fr mn rl me q rd t m m2)]) := by
  refine x_start hO (by decide +kernel) (Nat.le_of_ble_eq_true rfl) (fun K C E => ?_)
  have hP0 := hP
  have hQ0 := hQ
  obtain ⟨h8, h6, h16, hnp, hwho, hvb, hts⟩ := hP
  obtain ⟨hq0, hq1, hq2, hq3, hq4, hq5, hq6⟩ := hQ
  have hbF : ∀ L : List x_E, L.length = 1 → x_bk (x_ov M o L) m (stT m o P A hx z) := fun L h => x_ov_far 1 hb h hdo.symm
  have hpF : ∀ L : List x_E, L.length = 1 → x_bk (x_ov M o L) q (pmT q G) := fun L h => x_ov_far 1 hp h hqo
  refine x_to (x_ov_self ho).symm ?_
  refine x_aload_n C dX11_changeIn_0 rfl rfl ?_
  refine x_aload_n C dX11_changeIn_1 rfl rfl ?_
  refine x_iload_n C dX11_changeIn_2 rfl rfl ?_
  refine x_iload_n C dX11_changeIn_3 rfl rfl ?_
  refine x_callV2 C dX11_changeIn_4 kX11_321 (c_X11_isPartN hO hP0 hQ0 hk9 (hbF _ rfl) (hpF _ rfl) x_ov_bk hv) (x_ovg 0 rfl) rfl (by decide) ⟨Nat.zero_le _, Nat.zero_le _⟩ (Nat.le_of_ble_eq_true rfl) ?_
  rintro _ _ ⟨rfl, rfl⟩
  refine x_topi (h_b false) rfl ?_
  refine x_callV1 C dX11_changeIn_7 kX11_304 (c_X11_isKnown hO x_ov_bk) (x_ovg 0 rfl) rfl (by decide) ⟨Nat.zero_le _, Nat.zero_le _⟩ (Nat.le_of_ble_eq_true rfl) ?_
  rintro _ _ ⟨rfl, rfl⟩
  refine x_to (x_ov_ov rfl) ?_
  refine x_if_eq (tgt := 30) C dX11_changeIn_10 (by decide) (fun c10 => ?_) (fun c10 => absurd (show h_b false = 0 by decide) c10)
  refine x_iconst (v := 0) C dX11_changeIn_30 (by decide) ?_
  refine x_iret C E dX11_changeIn_31 ?_
  exact ⟨rfl, rfl⟩
set_option maxHeartbeats 4000000 in
set_option maxRecDepth 100000 in
theorem c_X11_changeInM {l : Launch} {Y0 : x_Y} (hO : x_Ok Y0) {M : x_M} {m o q : Nat} {P : PL} {A : HS} {hx : Nat → Int32} {z : Int32} {G : HS} {th sz ea tk dp : Int32} {tp kd fr mn rl me rd t m2 : Nat} (hP : p_ok P) (hQ : g_is G P) (hk9 : h_ok P A) (hb : x_bk M m (stT m o P A hx z)) (hp : x_bk M q (pmT q G)) (ho : x_bk M o [.inr (11, mdF th sz ea tk dp tp kd fr mn rl me q rd t m m2)]) (hdo : o + 1 ≤ m ∨ m + 9 ≤ o) (hqo : q + 11 ≤ o ∨ o + 1 ≤ q) {k : Nat} (hk : k < p_nk P) {x : Int32} (hv : h_inR x (p_np P k) = false) : x_C l Y0 yX11_changeIn cX11_changeIn 3 (some .int) 4 0 0 [.ref o, .int (nI k), .int x] M (fun u M1 => u = some (.int 0) ∧ M1 = x_ov M o [.inr (11, mdF 1 sz ea tk dp tp kd fr mn rl me q rd t m m2)]) := by
  refine x_start hO (by decide +kernel) (Nat.le_of_ble_eq_true rfl) (fun K C E => ?_)
  have hP0 := hP
  have hQ0 := hQ
  obtain ⟨h8, h6, h16, hnp, hwho, hvb, hts⟩ := hP
  obtain ⟨hq0, hq1, hq2, hq3, hq4, hq5, hq6⟩ := hQ
  have hbF : ∀ L : List x_E, L.length = 1 → x_bk (x_ov M o L) m (stT m o P A hx z) := fun L h => x_ov_far 1 hb h hdo.symm
  have hpF : ∀ L : List x_E, L.length = 1 → x_bk (x_ov M o L) q (pmT q G) := fun L h => x_ov_far 1 hp h hqo
  refine x_to (x_ov_self ho).symm ?_
  refine x_aload_n C dX11_changeIn_0 rfl rfl ?_
  refine x_aload_n C dX11_changeIn_1 rfl rfl ?_
  refine x_iload_n C dX11_changeIn_2 rfl rfl ?_
  refine x_iload_n C dX11_changeIn_3 rfl rfl ?_
  refine x_callV2 C dX11_changeIn_4 kX11_321 (c_X11_isPart hO hP0 hQ0 hk9 (hbF _ rfl) (hpF _ rfl) x_ov_bk hk) (x_ovg 0 rfl) rfl (by decide) ⟨Nat.zero_le _, Nat.zero_le _⟩ (Nat.le_of_ble_eq_true rfl) ?_
  rintro _ _ ⟨rfl, rfl⟩
  rw [hv]
  refine x_callV1 C dX11_changeIn_7 kX11_304 (c_X11_isKnown hO x_ov_bk) (x_ovg 0 rfl) rfl (by decide) ⟨Nat.zero_le _, Nat.zero_le _⟩ (Nat.le_of_ble_eq_true rfl) ?_
  rintro _ _ ⟨rfl, rfl⟩
  refine x_to (x_ov_ov rfl) ?_
  refine x_if_eq (tgt := 30) C dX11_changeIn_10 (by decide) (fun c10 => ?_) (fun c10 => absurd (show h_b false = 0 by decide) c10)
  refine x_iconst (v := 0) C dX11_changeIn_30 (by decide) ?_
  refine x_iret C E dX11_changeIn_31 ?_
  exact ⟨rfl, rfl⟩
set_option maxHeartbeats 4000000 in
set_option maxRecDepth 100000 in
theorem c_X11_voteIn {l : Launch} {Y0 : x_Y} (hO : x_Ok Y0) {M : x_M} {m o q : Nat} {P : PL} {A : HS} {hx : Nat → Int32} {z : Int32} {G : HS} {th sz ea tk dp : Int32} {tp kd fr mn rl me rd t m2 : Nat} (hP : p_ok P) (hQ : g_is G P) (hk9 : h_ok P A) (hb : x_bk M m (stT m o P A hx z)) (hp : x_bk M q (pmT q G)) (ho : x_bk M o [.inr (11, mdF th sz ea tk dp tp kd fr mn rl me q rd t m m2)]) (hdo : o + 1 ≤ m ∨ m + 9 ≤ o) (hqo : q + 11 ≤ o ∨ o + 1 ≤ q) {k : Nat} (hk : k < p_nk P) {j : Nat} (hj : j < p_np P k) : x_C l Y0 yX11_voteIn cX11_voteIn 3 (some .int) 4 0 0 [.ref o, .int (nI k), .int (nI j)] M (fun u M1 => u = some (.int (A 6 (6 * k + j))) ∧ M1 = x_ov M o [.inr (11, mdF 0 sz ea tk dp tp kd fr mn rl me q rd t m m2)]) := by
  refine x_start hO (by decide +kernel) (Nat.le_of_ble_eq_true rfl) (fun K C E => ?_)
  have hP0 := hP
  have hQ0 := hQ
  obtain ⟨h8, h6, h16, hnp, hwho, hvb, hts⟩ := hP
  obtain ⟨hq0, hq1, hq2, hq3, hq4, hq5, hq6⟩ := hQ
  have hbF : ∀ L : List x_E, L.length = 1 → x_bk (x_ov M o L) m (stT m o P A hx z) := fun L h => x_ov_far 1 hb h hdo.symm
  have hpF : ∀ L : List x_E, L.length = 1 → x_bk (x_ov M o L) q (pmT q G) := fun L h => x_ov_far 1 hp h hqo
  refine x_to (x_ov_self ho).symm ?_
  have hk1 := hnp k hk
  have hv := h_inR_t hj (by have := hnp k hk; omega)
  refine x_aload_n C dX11_voteIn_0 rfl rfl ?_
  refine x_aload_n C dX11_voteIn_1 rfl rfl ?_
  refine x_iload_n C dX11_voteIn_2 rfl rfl ?_
  refine x_iload_n C dX11_voteIn_3 rfl rfl ?_
  refine x_callV2 C dX11_voteIn_4 kX11_321 (c_X11_isPart hO hP0 hQ0 hk9 (hbF _ rfl) (hpF _ rfl) x_ov_bk hk) (x_ovg 0 rfl) rfl (by decide) ⟨Nat.zero_le _, Nat.zero_le _⟩ (Nat.le_of_ble_eq_true rfl) ?_
  rintro _ _ ⟨rfl, rfl⟩
  rw [hv]
  refine x_callV1 C dX11_voteIn_7 kX11_304 (c_X11_isKnown hO x_ov_bk) (x_ovg 0 rfl) rfl (by decide) ⟨Nat.zero_le _, Nat.zero_le _⟩ (Nat.le_of_ble_eq_true rfl) ?_
  rintro _ _ ⟨rfl, rfl⟩
  refine x_to (x_ov_ov rfl) ?_
  refine x_if_eq (tgt := 30) C dX11_voteIn_10 (by decide) (fun c10 => absurd c10 (show ¬ h_b true = 0 by decide)) (fun c10 => ?_)
  refine x_aload_n C dX11_voteIn_13 rfl rfl ?_
  refine x_getfield C dX11_voteIn_14 fX11_50 (x_ovg 0 rfl) rfl ?_
  refine x_getfield C dX11_voteIn_17 fX11_324 ((hbF _ rfl) 0 _ rfl) rfl ?_
  refine x_bipush (v := 6) C dX11_voteIn_20 (by decide) ?_
  refine x_iload_n C dX11_voteIn_22 rfl rfl ?_
  refine x_imul C dX11_voteIn_23 ?_
  refine x_iload_n C dX11_voteIn_24 rfl rfl ?_
  refine x_iadd C dX11_voteIn_25 ?_
  rw [slot_nI2]
  refine x_iaload C dX11_voteIn_26 ((hbF _ rfl) 7 _ rfl) (vp_in_nI (show 6 * k + j < 36 by omega) (by decide)) ?_
  rw [nI_clamp (show 6 * k + j < 2 ^ 31 by omega)]
  refine x_goto (tgt := 31) C dX11_voteIn_27 (by decide) ?_
  refine x_iret C E dX11_voteIn_31 ?_
  exact ⟨rfl, rfl⟩
set_option maxHeartbeats 4000000 in
set_option maxRecDepth 100000 in
theorem c_X11_voteInN {l : Launch} {Y0 : x_Y} (hO : x_Ok Y0) {M : x_M} {m o q : Nat} {P : PL} {A : HS} {hx : Nat → Int32} {z : Int32} {G : HS} {th sz ea tk dp : Int32} {tp kd fr mn rl me rd t m2 : Nat} (hP : p_ok P) (hQ : g_is G P) (hk9 : h_ok P A) (hb : x_bk M m (stT m o P A hx z)) (hp : x_bk M q (pmT q G)) (ho : x_bk M o [.inr (11, mdF th sz ea tk dp tp kd fr mn rl me q rd t m m2)]) (hdo : o + 1 ≤ m ∨ m + 9 ≤ o) (hqo : q + 11 ≤ o ∨ o + 1 ≤ q) {x y : Int32} (hv : h_inR x (p_nk P) = false) : x_C l Y0 yX11_voteIn cX11_voteIn 3 (some .int) 4 0 0 [.ref o, .int x, .int y] M (fun u M1 => u = some (.int 0) ∧ M1 = x_ov M o [.inr (11, mdF 1 sz ea tk dp tp kd fr mn rl me q rd t m m2)]) := by
  refine x_start hO (by decide +kernel) (Nat.le_of_ble_eq_true rfl) (fun K C E => ?_)
  have hP0 := hP
  have hQ0 := hQ
  obtain ⟨h8, h6, h16, hnp, hwho, hvb, hts⟩ := hP
  obtain ⟨hq0, hq1, hq2, hq3, hq4, hq5, hq6⟩ := hQ
  have hbF : ∀ L : List x_E, L.length = 1 → x_bk (x_ov M o L) m (stT m o P A hx z) := fun L h => x_ov_far 1 hb h hdo.symm
  have hpF : ∀ L : List x_E, L.length = 1 → x_bk (x_ov M o L) q (pmT q G) := fun L h => x_ov_far 1 hp h hqo
  refine x_to (x_ov_self ho).symm ?_
  refine x_aload_n C dX11_voteIn_0 rfl rfl ?_
  refine x_aload_n C dX11_voteIn_1 rfl rfl ?_
  refine x_iload_n C dX11_voteIn_2 rfl rfl ?_
  refine x_iload_n C dX11_voteIn_3 rfl rfl ?_
  refine x_callV2 C dX11_voteIn_4 kX11_321 (c_X11_isPartN hO hP0 hQ0 hk9 (hbF _ rfl) (hpF _ rfl) x_ov_bk hv) (x_ovg 0 rfl) rfl (by decide) ⟨Nat.zero_le _, Nat.zero_le _⟩ (Nat.le_of_ble_eq_true rfl) ?_
  rintro _ _ ⟨rfl, rfl⟩
  refine x_topi (h_b false) rfl ?_
  refine x_callV1 C dX11_voteIn_7 kX11_304 (c_X11_isKnown hO x_ov_bk) (x_ovg 0 rfl) rfl (by decide) ⟨Nat.zero_le _, Nat.zero_le _⟩ (Nat.le_of_ble_eq_true rfl) ?_
  rintro _ _ ⟨rfl, rfl⟩
  refine x_to (x_ov_ov rfl) ?_
  refine x_if_eq (tgt := 30) C dX11_voteIn_10 (by decide) (fun c10 => ?_) (fun c10 => absurd (show h_b false = 0 by decide) c10)
  refine x_iconst (v := 0) C dX11_voteIn_30 (by decide) ?_
  refine x_iret C E dX11_voteIn_31 ?_
  exact ⟨rfl, rfl⟩
set_option maxHeartbeats 4000000 in
set_option maxRecDepth 100000 in
theorem c_X11_voteInM {l : Launch} {Y0 : x_Y} (hO : x_Ok Y0) {M : x_M} {m o q : Nat} {P : PL} {A : HS} {hx : Nat → Int32} {z : Int32} {G : HS} {th sz ea tk dp : Int32} {tp kd fr mn rl me rd t m2 : Nat} (hP : p_ok P) (hQ : g_is G P) (hk9 : h_ok P A) (hb : x_bk M m (stT m o P A hx z)) (hp : x_bk M q (pmT q G)) (ho : x_bk M o [.inr (11, mdF th sz ea tk dp tp kd fr mn rl me q rd t m m2)]) (hdo : o + 1 ≤ m ∨ m + 9 ≤ o) (hqo : q + 11 ≤ o ∨ o + 1 ≤ q) {k : Nat} (hk : k < p_nk P) {x : Int32} (hv : h_inR x (p_np P k) = false) : x_C l Y0 yX11_voteIn cX11_voteIn 3 (some .int) 4 0 0 [.ref o, .int (nI k), .int x] M (fun u M1 => u = some (.int 0) ∧ M1 = x_ov M o [.inr (11, mdF 1 sz ea tk dp tp kd fr mn rl me q rd t m m2)]) := by
  refine x_start hO (by decide +kernel) (Nat.le_of_ble_eq_true rfl) (fun K C E => ?_)
  have hP0 := hP
  have hQ0 := hQ
  obtain ⟨h8, h6, h16, hnp, hwho, hvb, hts⟩ := hP
  obtain ⟨hq0, hq1, hq2, hq3, hq4, hq5, hq6⟩ := hQ
  have hbF : ∀ L : List x_E, L.length = 1 → x_bk (x_ov M o L) m (stT m o P A hx z) := fun L h => x_ov_far 1 hb h hdo.symm
  have hpF : ∀ L : List x_E, L.length = 1 → x_bk (x_ov M o L) q (pmT q G) := fun L h => x_ov_far 1 hp h hqo
  refine x_to (x_ov_self ho).symm ?_
  refine x_aload_n C dX11_voteIn_0 rfl rfl ?_
  refine x_aload_n C dX11_voteIn_1 rfl rfl ?_
  refine x_iload_n C dX11_voteIn_2 rfl rfl ?_
  refine x_iload_n C dX11_voteIn_3 rfl rfl ?_
  refine x_callV2 C dX11_voteIn_4 kX11_321 (c_X11_isPart hO hP0 hQ0 hk9 (hbF _ rfl) (hpF _ rfl) x_ov_bk hk) (x_ovg 0 rfl) rfl (by decide) ⟨Nat.zero_le _, Nat.zero_le _⟩ (Nat.le_of_ble_eq_true rfl) ?_
  rintro _ _ ⟨rfl, rfl⟩
  rw [hv]
  refine x_callV1 C dX11_voteIn_7 kX11_304 (c_X11_isKnown hO x_ov_bk) (x_ovg 0 rfl) rfl (by decide) ⟨Nat.zero_le _, Nat.zero_le _⟩ (Nat.le_of_ble_eq_true rfl) ?_
  rintro _ _ ⟨rfl, rfl⟩
  refine x_to (x_ov_ov rfl) ?_
  refine x_if_eq (tgt := 30) C dX11_voteIn_10 (by decide) (fun c10 => ?_) (fun c10 => absurd (show h_b false = 0 by decide) c10)
  refine x_iconst (v := 0) C dX11_voteIn_30 (by decide) ?_
  refine x_iret C E dX11_voteIn_31 ?_
  exact ⟨rfl, rfl⟩
set_option maxHeartbeats 4000000 in
set_option maxRecDepth 100000 in
theorem c_X11_hasHeard {l : Launch} {Y0 : x_Y} (hO : x_Ok Y0) {M : x_M} {m o q : Nat} {P : PL} {A : HS} {hx : Nat → Int32} {z : Int32} {G : HS} {th sz ea tk dp : Int32} {tp kd fr mn rl me rd t m2 : Nat} (hP : p_ok P) (hQ : g_is G P) (hk9 : h_ok P A) (hb : x_bk M m (stT m o P A hx z)) (hp : x_bk M q (pmT q G)) (ho : x_bk M o [.inr (11, mdF th sz ea tk dp tp kd fr mn rl me q rd t m m2)]) (hdo : o + 1 ≤ m ∨ m + 9 ≤ o) (hqo : q + 11 ≤ o ∨ o + 1 ≤ q) {k : Nat} (hk : k < p_nk P) {j : Nat} (hj : j < p_np P k) : x_C l Y0 yX11_hasHeard cX11_hasHeard 3 (some .boolean) 4 0 0 [.ref o, .int (nI k), .int (nI j)] M (fun u M1 => u = some (.int (A 7 (6 * k + j))) ∧ M1 = x_ov M o [.inr (11, mdF 0 sz ea tk dp tp kd fr mn rl me q rd t m m2)]) := by
  refine x_start hO (by decide +kernel) (Nat.le_of_ble_eq_true rfl) (fun K C E => ?_)
  have hP0 := hP
  have hQ0 := hQ
  obtain ⟨h8, h6, h16, hnp, hwho, hvb, hts⟩ := hP
  obtain ⟨hq0, hq1, hq2, hq3, hq4, hq5, hq6⟩ := hQ
  have hbF : ∀ L : List x_E, L.length = 1 → x_bk (x_ov M o L) m (stT m o P A hx z) := fun L h => x_ov_far 1 hb h hdo.symm
  have hpF : ∀ L : List x_E, L.length = 1 → x_bk (x_ov M o L) q (pmT q G) := fun L h => x_ov_far 1 hp h hqo
  refine x_to (x_ov_self ho).symm ?_
  have hk1 := hnp k hk
  have hv := h_inR_t hj (by have := hnp k hk; omega)
  refine x_aload_n C dX11_hasHeard_0 rfl rfl ?_
  refine x_aload_n C dX11_hasHeard_1 rfl rfl ?_
  refine x_iload_n C dX11_hasHeard_2 rfl rfl ?_
  refine x_iload_n C dX11_hasHeard_3 rfl rfl ?_
  refine x_callV2 C dX11_hasHeard_4 kX11_321 (c_X11_isPart hO hP0 hQ0 hk9 (hbF _ rfl) (hpF _ rfl) x_ov_bk hk) (x_ovg 0 rfl) rfl (by decide) ⟨Nat.zero_le _, Nat.zero_le _⟩ (Nat.le_of_ble_eq_true rfl) ?_
  rintro _ _ ⟨rfl, rfl⟩
  rw [hv]
  refine x_callV1 C dX11_hasHeard_7 kX11_304 (c_X11_isKnown hO x_ov_bk) (x_ovg 0 rfl) rfl (by decide) ⟨Nat.zero_le _, Nat.zero_le _⟩ (Nat.le_of_ble_eq_true rfl) ?_
  rintro _ _ ⟨rfl, rfl⟩
  refine x_to (x_ov_ov rfl) ?_
  refine x_if_eq (tgt := 34) C dX11_hasHeard_10 (by decide) (fun c10 => absurd c10 (show ¬ h_b true = 0 by decide)) (fun c10 => ?_)
  refine x_aload_n C dX11_hasHeard_13 rfl rfl ?_
  refine x_getfield C dX11_hasHeard_14 fX11_50 (x_ovg 0 rfl) rfl ?_
  refine x_getfield C dX11_hasHeard_17 fX11_327 ((hbF _ rfl) 0 _ rfl) rfl ?_
  refine x_bipush (v := 6) C dX11_hasHeard_20 (by decide) ?_
  refine x_iload_n C dX11_hasHeard_22 rfl rfl ?_
  refine x_imul C dX11_hasHeard_23 ?_
  refine x_iload_n C dX11_hasHeard_24 rfl rfl ?_
  refine x_iadd C dX11_hasHeard_25 ?_
  rw [slot_nI2]
  refine x_baload C dX11_hasHeard_26 ((hbF _ rfl) 8 _ rfl) (vp_in_nI (show 6 * k + j < 36 by omega) (by decide)) ?_
  rw [nI_clamp (show 6 * k + j < 2 ^ 31 by omega)]
  refine x_if_eq (tgt := 34) C dX11_hasHeard_27 (by decide) (fun c27 => ?_) (fun c27 => ?_)
  · refine x_iconst (v := 0) C dX11_hasHeard_34 (by decide) ?_
    refine x_zret C E dX11_hasHeard_35 rfl ?_
    exact ⟨by rcases hk9.2.1 (6 * k + j) with q9 | q9 <;> first | (rw [q9]; done) | (rw [q9] at c27; exact absurd rfl c27) | (rw [q9] at c27; exact absurd c27 (by decide)) | fail, rfl⟩
  · refine x_iconst (v := 1) C dX11_hasHeard_30 (by decide) ?_
    refine x_goto (tgt := 35) C dX11_hasHeard_31 (by decide) ?_
    refine x_zret C E dX11_hasHeard_35 rfl ?_
    exact ⟨by rcases hk9.2.1 (6 * k + j) with q9 | q9 <;> first | (rw [q9]; done) | (rw [q9] at c27; exact absurd rfl c27) | (rw [q9] at c27; exact absurd c27 (by decide)) | fail, rfl⟩
set_option maxHeartbeats 4000000 in
set_option maxRecDepth 100000 in
theorem c_X11_hasHeardN {l : Launch} {Y0 : x_Y} (hO : x_Ok Y0) {M : x_M} {m o q : Nat} {P : PL} {A : HS} {hx : Nat → Int32} {z : Int32} {G : HS} {th sz ea tk dp : Int32} {tp kd fr mn rl me rd t m2 : Nat} (hP : p_ok P) (hQ : g_is G P) (hk9 : h_ok P A) (hb : x_bk M m (stT m o P A hx z)) (hp : x_bk M q (pmT q G)) (ho : x_bk M o [.inr (11, mdF th sz ea tk dp tp kd fr mn rl me q rd t m m2)]) (hdo : o + 1 ≤ m ∨ m + 9 ≤ o) (hqo : q + 11 ≤ o ∨ o + 1 ≤ q) {x y : Int32} (hv : h_inR x (p_nk P) = false) : x_C l Y0 yX11_hasHeard cX11_hasHeard 3 (some .boolean) 4 0 0 [.ref o, .int x, .int y] M (fun u M1 => u = some (.int 0) ∧ M1 = x_ov M o [.inr (11, mdF 1 sz ea tk dp tp kd fr mn rl me q rd t m m2)]) := by
  refine x_start hO (by decide +kernel) (Nat.le_of_ble_eq_true rfl) (fun K C E => ?_)
  have hP0 := hP
  have hQ0 := hQ
  obtain ⟨h8, h6, h16, hnp, hwho, hvb, hts⟩ := hP
  obtain ⟨hq0, hq1, hq2, hq3, hq4, hq5, hq6⟩ := hQ
  have hbF : ∀ L : List x_E, L.length = 1 → x_bk (x_ov M o L) m (stT m o P A hx z) := fun L h => x_ov_far 1 hb h hdo.symm
  have hpF : ∀ L : List x_E, L.length = 1 → x_bk (x_ov M o L) q (pmT q G) := fun L h => x_ov_far 1 hp h hqo
  refine x_to (x_ov_self ho).symm ?_
  refine x_aload_n C dX11_hasHeard_0 rfl rfl ?_
  refine x_aload_n C dX11_hasHeard_1 rfl rfl ?_
  refine x_iload_n C dX11_hasHeard_2 rfl rfl ?_
  refine x_iload_n C dX11_hasHeard_3 rfl rfl ?_
  refine x_callV2 C dX11_hasHeard_4 kX11_321 (c_X11_isPartN hO hP0 hQ0 hk9 (hbF _ rfl) (hpF _ rfl) x_ov_bk hv) (x_ovg 0 rfl) rfl (by decide) ⟨Nat.zero_le _, Nat.zero_le _⟩ (Nat.le_of_ble_eq_true rfl) ?_
  rintro _ _ ⟨rfl, rfl⟩
  refine x_topi (h_b false) rfl ?_
  refine x_callV1 C dX11_hasHeard_7 kX11_304 (c_X11_isKnown hO x_ov_bk) (x_ovg 0 rfl) rfl (by decide) ⟨Nat.zero_le _, Nat.zero_le _⟩ (Nat.le_of_ble_eq_true rfl) ?_
  rintro _ _ ⟨rfl, rfl⟩
  refine x_to (x_ov_ov rfl) ?_
  refine x_if_eq (tgt := 34) C dX11_hasHeard_10 (by decide) (fun c10 => ?_) (fun c10 => absurd (show h_b false = 0 by decide) c10)
  refine x_iconst (v := 0) C dX11_hasHeard_34 (by decide) ?_
  refine x_zret C E dX11_hasHeard_35 rfl ?_
  exact ⟨rfl, rfl⟩
set_option maxHeartbeats 4000000 in
set_option maxRecDepth 100000 in
theorem c_X11_hasHeardM {l : Launch} {Y0 : x_Y} (hO : x_Ok Y0) {M : x_M} {m o q : Nat} {P : PL} {A : HS} {hx : Nat → Int32} {z : Int32} {G : HS} {th sz ea tk dp : Int32} {tp kd fr mn rl me rd t m2 : Nat} (hP : p_ok P) (hQ : g_is G P) (hk9 : h_ok P A) (hb : x_bk M m (stT m o P A hx z)) (hp : x_bk M q (pmT q G)) (ho : x_bk M o [.inr (11, mdF th sz ea tk dp tp kd fr mn rl me q rd t m m2)]) (hdo : o + 1 ≤ m ∨ m + 9 ≤ o) (hqo : q + 11 ≤ o ∨ o + 1 ≤ q) {k : Nat} (hk : k < p_nk P) {x : Int32} (hv : h_inR x (p_np P k) = false) : x_C l Y0 yX11_hasHeard cX11_hasHeard 3 (some .boolean) 4 0 0 [.ref o, .int (nI k), .int x] M (fun u M1 => u = some (.int 0) ∧ M1 = x_ov M o [.inr (11, mdF 1 sz ea tk dp tp kd fr mn rl me q rd t m m2)]) := by
  refine x_start hO (by decide +kernel) (Nat.le_of_ble_eq_true rfl) (fun K C E => ?_)
  have hP0 := hP
  have hQ0 := hQ
  obtain ⟨h8, h6, h16, hnp, hwho, hvb, hts⟩ := hP
  obtain ⟨hq0, hq1, hq2, hq3, hq4, hq5, hq6⟩ := hQ
  have hbF : ∀ L : List x_E, L.length = 1 → x_bk (x_ov M o L) m (stT m o P A hx z) := fun L h => x_ov_far 1 hb h hdo.symm
  have hpF : ∀ L : List x_E, L.length = 1 → x_bk (x_ov M o L) q (pmT q G) := fun L h => x_ov_far 1 hp h hqo
  refine x_to (x_ov_self ho).symm ?_
  refine x_aload_n C dX11_hasHeard_0 rfl rfl ?_
  refine x_aload_n C dX11_hasHeard_1 rfl rfl ?_
  refine x_iload_n C dX11_hasHeard_2 rfl rfl ?_
  refine x_iload_n C dX11_hasHeard_3 rfl rfl ?_
  refine x_callV2 C dX11_hasHeard_4 kX11_321 (c_X11_isPart hO hP0 hQ0 hk9 (hbF _ rfl) (hpF _ rfl) x_ov_bk hk) (x_ovg 0 rfl) rfl (by decide) ⟨Nat.zero_le _, Nat.zero_le _⟩ (Nat.le_of_ble_eq_true rfl) ?_
  rintro _ _ ⟨rfl, rfl⟩
  rw [hv]
  refine x_callV1 C dX11_hasHeard_7 kX11_304 (c_X11_isKnown hO x_ov_bk) (x_ovg 0 rfl) rfl (by decide) ⟨Nat.zero_le _, Nat.zero_le _⟩ (Nat.le_of_ble_eq_true rfl) ?_
  rintro _ _ ⟨rfl, rfl⟩
  refine x_to (x_ov_ov rfl) ?_
  refine x_if_eq (tgt := 34) C dX11_hasHeard_10 (by decide) (fun c10 => ?_) (fun c10 => absurd (show h_b false = 0 by decide) c10)
  refine x_iconst (v := 0) C dX11_hasHeard_34 (by decide) ?_
  refine x_zret C E dX11_hasHeard_35 rfl ?_
  exact ⟨rfl, rfl⟩
set_option maxHeartbeats 4000000 in
set_option maxRecDepth 100000 in
theorem c_X11_votesFor {l : Launch} {Y0 : x_Y} (hO : x_Ok Y0) {M : x_M} {m o q : Nat} {P : PL} {A : HS} {hx : Nat → Int32} {z : Int32} {G : HS} {th sz ea tk dp : Int32} {tp kd fr mn rl me rd t m2 : Nat} (hP : p_ok P) (hQ : g_is G P) (hk9 : h_ok P A) (hb : x_bk M m (stT m o P A hx z)) (hp : x_bk M q (pmT q G)) (ho : x_bk M o [.inr (11, mdF th sz ea tk dp tp kd fr mn rl me q rd t m m2)]) (hdo : o + 1 ≤ m ∨ m + 9 ≤ o) (hqo : q + 11 ≤ o ∨ o + 1 ≤ q) {k : Nat} (hk : k < p_nk P) : x_C l Y0 yX11_votesFor cX11_votesFor 2 (some .int) 3 0 0 [.ref o, .int (nI k)] M (fun u M1 => u = some (.int (h_votes P A k 1)) ∧ M1 = x_ov M o [.inr (11, mdF 0 sz ea tk dp tp kd fr mn rl me q rd t m m2)]) := by
  refine x_start hO (by decide +kernel) (Nat.le_of_ble_eq_true rfl) (fun K C E => ?_)
  have hP0 := hP
  have hQ0 := hQ
  obtain ⟨h8, h6, h16, hnp, hwho, hvb, hts⟩ := hP
  obtain ⟨hq0, hq1, hq2, hq3, hq4, hq5, hq6⟩ := hQ
  have hbF : ∀ L : List x_E, L.length = 1 → x_bk (x_ov M o L) m (stT m o P A hx z) := fun L h => x_ov_far 1 hb h hdo.symm
  have hpF : ∀ L : List x_E, L.length = 1 → x_bk (x_ov M o L) q (pmT q G) := fun L h => x_ov_far 1 hp h hqo
  refine x_to (x_ov_self ho).symm ?_
  have hk1 := hnp k hk
  have hv := h_inR_t hk (by omega)
  refine x_aload_n C dX11_votesFor_0 rfl rfl ?_
  refine x_aload_n C dX11_votesFor_1 rfl rfl ?_
  refine x_iload_n C dX11_votesFor_2 rfl rfl ?_
  refine x_callV1 C dX11_votesFor_3 kX11_73 (c_X11_isDeal hO hP0 hQ0 hk9 (hbF _ rfl) (hpF _ rfl) x_ov_bk) (x_ovg 0 rfl) rfl (by decide) ⟨Nat.zero_le _, Nat.zero_le _⟩ (Nat.le_of_ble_eq_true rfl) ?_
  rintro _ _ ⟨rfl, rfl⟩
  rw [hv]
  refine x_callV1 C dX11_votesFor_6 kX11_304 (c_X11_isKnown hO x_ov_bk) (x_ovg 0 rfl) rfl (by decide) ⟨Nat.zero_le _, Nat.zero_le _⟩ (Nat.le_of_ble_eq_true rfl) ?_
  rintro _ _ ⟨rfl, rfl⟩
  refine x_to (x_ov_ov rfl) ?_
  refine x_if_eq (tgt := 24) C dX11_votesFor_9 (by decide) (fun c9 => absurd c9 (show ¬ h_b true = 0 by decide)) (fun c9 => ?_)
  refine x_aload_n C dX11_votesFor_12 rfl rfl ?_
  refine x_getfield C dX11_votesFor_13 fX11_50 (x_ovg 0 rfl) rfl ?_
  refine x_iload_n C dX11_votesFor_16 rfl rfl ?_
  refine x_iconst (v := 1) C dX11_votesFor_17 (by decide) ?_
  refine x_callV2 C dX11_votesFor_18 kX11_330 (c_X10_votes hO hP0 hQ0 hk9 (hbF _ rfl) (hpF _ rfl) x_ov_bk rfl hk) ((hbF _ rfl) 0 _ rfl) rfl (by decide) ⟨Nat.zero_le _, Nat.zero_le _⟩ (Nat.le_of_ble_eq_true rfl) ?_
  rintro _ _ ⟨rfl, rfl⟩
  refine x_goto (tgt := 25) C dX11_votesFor_21 (by decide) ?_
  refine x_iret C E dX11_votesFor_25 ?_
  exact ⟨rfl, rfl⟩
set_option maxHeartbeats 4000000 in
set_option maxRecDepth 100000 in
theorem c_X11_votesForN {l : Launch} {Y0 : x_Y} (hO : x_Ok Y0) {M : x_M} {m o q : Nat} {P : PL} {A : HS} {hx : Nat → Int32} {z : Int32} {G : HS} {th sz ea tk dp : Int32} {tp kd fr mn rl me rd t m2 : Nat} (hP : p_ok P) (hQ : g_is G P) (hk9 : h_ok P A) (hb : x_bk M m (stT m o P A hx z)) (hp : x_bk M q (pmT q G)) (ho : x_bk M o [.inr (11, mdF th sz ea tk dp tp kd fr mn rl me q rd t m m2)]) (hdo : o + 1 ≤ m ∨ m + 9 ≤ o) (hqo : q + 11 ≤ o ∨ o + 1 ≤ q) {x : Int32} (hv : h_inR x (p_nk P) = false) : x_C l Y0 yX11_votesFor cX11_votesFor 2 (some .int) 3 0 0 [.ref o, .int x] M (fun u M1 => u = some (.int 0) ∧ M1 = x_ov M o [.inr (11, mdF 1 sz ea tk dp tp kd fr mn rl me q rd t m m2)]) := by
  refine x_start hO (by decide +kernel) (Nat.le_of_ble_eq_true rfl) (fun K C E => ?_)
  have hP0 := hP
  have hQ0 := hQ
  obtain ⟨h8, h6, h16, hnp, hwho, hvb, hts⟩ := hP
  obtain ⟨hq0, hq1, hq2, hq3, hq4, hq5, hq6⟩ := hQ
  have hbF : ∀ L : List x_E, L.length = 1 → x_bk (x_ov M o L) m (stT m o P A hx z) := fun L h => x_ov_far 1 hb h hdo.symm
  have hpF : ∀ L : List x_E, L.length = 1 → x_bk (x_ov M o L) q (pmT q G) := fun L h => x_ov_far 1 hp h hqo
  refine x_to (x_ov_self ho).symm ?_
  refine x_aload_n C dX11_votesFor_0 rfl rfl ?_
  refine x_aload_n C dX11_votesFor_1 rfl rfl ?_
  refine x_iload_n C dX11_votesFor_2 rfl rfl ?_
  refine x_callV1 C dX11_votesFor_3 kX11_73 (c_X11_isDeal hO hP0 hQ0 hk9 (hbF _ rfl) (hpF _ rfl) x_ov_bk) (x_ovg 0 rfl) rfl (by decide) ⟨Nat.zero_le _, Nat.zero_le _⟩ (Nat.le_of_ble_eq_true rfl) ?_
  rintro _ _ ⟨rfl, rfl⟩
  rw [hv]
  refine x_callV1 C dX11_votesFor_6 kX11_304 (c_X11_isKnown hO x_ov_bk) (x_ovg 0 rfl) rfl (by decide) ⟨Nat.zero_le _, Nat.zero_le _⟩ (Nat.le_of_ble_eq_true rfl) ?_
  rintro _ _ ⟨rfl, rfl⟩
  refine x_to (x_ov_ov rfl) ?_
  refine x_if_eq (tgt := 24) C dX11_votesFor_9 (by decide) (fun c9 => ?_) (fun c9 => absurd (show h_b false = 0 by decide) c9)
  refine x_iconst (v := 0) C dX11_votesFor_24 (by decide) ?_
  refine x_iret C E dX11_votesFor_25 ?_
  exact ⟨rfl, rfl⟩
set_option maxHeartbeats 4000000 in
set_option maxRecDepth 100000 in
theorem c_X11_wouldAgree {l : Launch} {Y0 : x_Y} (hO : x_Ok Y0) {M : x_M} {m o q : Nat} {P : PL} {A : HS} {hx : Nat → Int32} {z : Int32} {G : HS} {th sz ea tk dp : Int32} {tp kd fr mn rl me rd t m2 : Nat} (hP : p_ok P) (hQ : g_is G P) (hk9 : h_ok P A) (hb : x_bk M m (stT m o P A hx z)) (hp : x_bk M q (pmT q G)) (ho : x_bk M o [.inr (11, mdF th sz ea tk dp tp kd fr mn rl me q rd t m m2)]) (hdo : o + 1 ≤ m ∨ m + 9 ≤ o) (hqo : q + 11 ≤ o ∨ o + 1 ≤ q) {k : Nat} (hk : k < p_nk P) : x_C l Y0 yX11_wouldAgree cX11_wouldAgree 2 (some .boolean) 4 0 0 [.ref o, .int (nI k)] M (fun u M1 => u = some (.int (h_b (h_agrAll P A k))) ∧ M1 = x_ov M o [.inr (11, mdF 0 sz ea tk dp tp kd fr mn rl me q rd t m m2)]) := by
  refine x_start hO (by decide +kernel) (Nat.le_of_ble_eq_true rfl) (fun K C E => ?_)
  have hP0 := hP
  have hQ0 := hQ
  obtain ⟨h8, h6, h16, hnp, hwho, hvb, hts⟩ := hP
  obtain ⟨hq0, hq1, hq2, hq3, hq4, hq5, hq6⟩ := hQ
  have hbF : ∀ L : List x_E, L.length = 1 → x_bk (x_ov M o L) m (stT m o P A hx z) := fun L h => x_ov_far 1 hb h hdo.symm
  have hpF : ∀ L : List x_E, L.length = 1 → x_bk (x_ov M o L) q (pmT q G) := fun L h => x_ov_far 1 hp h hqo
  refine x_to (x_ov_self ho).symm ?_
  have hk1 := hnp k hk
  have hv := h_inR_t hk (by omega)
  refine x_aload_n C dX11_wouldAgree_0 rfl rfl ?_
  refine x_aload_n C dX11_wouldAgree_1 rfl rfl ?_
  refine x_iload_n C dX11_wouldAgree_2 rfl rfl ?_
  refine x_callV1 C dX11_wouldAgree_3 kX11_73 (c_X11_isDeal hO hP0 hQ0 hk9 (hbF _ rfl) (hpF _ rfl) x_ov_bk) (x_ovg 0 rfl) rfl (by decide) ⟨Nat.zero_le _, Nat.zero_le _⟩ (Nat.le_of_ble_eq_true rfl) ?_
  rintro _ _ ⟨rfl, rfl⟩
  rw [hv]
  refine x_callV1 C dX11_wouldAgree_6 kX11_304 (c_X11_isKnown hO x_ov_bk) (x_ovg 0 rfl) rfl (by decide) ⟨Nat.zero_le _, Nat.zero_le _⟩ (Nat.le_of_ble_eq_true rfl) ?_
  rintro _ _ ⟨rfl, rfl⟩
  refine x_to (x_ov_ov rfl) ?_
  refine x_if_eq (tgt := 27) C dX11_wouldAgree_9 (by decide) (fun c9 => absurd c9 (show ¬ h_b true = 0 by decide)) (fun c9 => ?_)
  refine x_aload_n C dX11_wouldAgree_12 rfl rfl ?_
  refine x_getfield C dX11_wouldAgree_13 fX11_50 (x_ovg 0 rfl) rfl ?_
  refine x_iload_n C dX11_wouldAgree_16 rfl rfl ?_
  refine x_callV1 C dX11_wouldAgree_17 kX11_333 (c_X10_allAgree hO hP0 hQ0 hk9 (hbF _ rfl) (hpF _ rfl) x_ov_bk rfl hk) ((hbF _ rfl) 0 _ rfl) rfl (by decide) ⟨Nat.zero_le _, Nat.zero_le _⟩ (Nat.le_of_ble_eq_true rfl) ?_
  rintro _ _ ⟨rfl, rfl⟩
  refine x_if_eq (tgt := 27) C dX11_wouldAgree_20 (by decide) (fun c20 => ?_) (fun c20 => ?_)
  · refine x_iconst (v := 0) C dX11_wouldAgree_27 (by decide) ?_
    refine x_zret C E dX11_wouldAgree_28 rfl ?_
    refine ⟨?_, rfl⟩
    cases q9 : h_agrAll P A k
    · first | (rw [q9] at c20; exact absurd rfl c20) | rfl | fail
    · first | (rw [q9] at c20; exact absurd c20 (by decide)) | rfl | fail
  · refine x_iconst (v := 1) C dX11_wouldAgree_23 (by decide) ?_
    refine x_goto (tgt := 28) C dX11_wouldAgree_24 (by decide) ?_
    refine x_zret C E dX11_wouldAgree_28 rfl ?_
    refine ⟨?_, rfl⟩
    cases q9 : h_agrAll P A k
    · first | (rw [q9] at c20; exact absurd rfl c20) | rfl | fail
    · first | (rw [q9] at c20; exact absurd c20 (by decide)) | rfl | fail
set_option maxHeartbeats 4000000 in
set_option maxRecDepth 100000 in
theorem c_X11_wouldAgreeN {l : Launch} {Y0 : x_Y} (hO : x_Ok Y0) {M : x_M} {m o q : Nat} {P : PL} {A : HS} {hx : Nat → Int32} {z : Int32} {G : HS} {th sz ea tk dp : Int32} {tp kd fr mn rl me rd t m2 : Nat} (hP : p_ok P) (hQ : g_is G P) (hk9 : h_ok P A) (hb : x_bk M m (stT m o P A hx z)) (hp : x_bk M q (pmT q G)) (ho : x_bk M o [.inr (11, mdF th sz ea tk dp tp kd fr mn rl me q rd t m m2)]) (hdo : o + 1 ≤ m ∨ m + 9 ≤ o) (hqo : q + 11 ≤ o ∨ o + 1 ≤ q) {x : Int32} (hv : h_inR x (p_nk P) = false) : x_C l Y0 yX11_wouldAgree cX11_wouldAgree 2 (some .boolean) 4 0 0 [.ref o, .int x] M (fun u M1 => u = some (.int 0) ∧ M1 = x_ov M o [.inr (11, mdF 1 sz ea tk dp tp kd fr mn rl me q rd t m m2)]) := by
  refine x_start hO (by decide +kernel) (Nat.le_of_ble_eq_true rfl) (fun K C E => ?_)
  have hP0 := hP
  have hQ0 := hQ
  obtain ⟨h8, h6, h16, hnp, hwho, hvb, hts⟩ := hP
  obtain ⟨hq0, hq1, hq2, hq3, hq4, hq5, hq6⟩ := hQ
  have hbF : ∀ L : List x_E, L.length = 1 → x_bk (x_ov M o L) m (stT m o P A hx z) := fun L h => x_ov_far 1 hb h hdo.symm
  have hpF : ∀ L : List x_E, L.length = 1 → x_bk (x_ov M o L) q (pmT q G) := fun L h => x_ov_far 1 hp h hqo
  refine x_to (x_ov_self ho).symm ?_
  refine x_aload_n C dX11_wouldAgree_0 rfl rfl ?_
  refine x_aload_n C dX11_wouldAgree_1 rfl rfl ?_
  refine x_iload_n C dX11_wouldAgree_2 rfl rfl ?_
  refine x_callV1 C dX11_wouldAgree_3 kX11_73 (c_X11_isDeal hO hP0 hQ0 hk9 (hbF _ rfl) (hpF _ rfl) x_ov_bk) (x_ovg 0 rfl) rfl (by decide) ⟨Nat.zero_le _, Nat.zero_le _⟩ (Nat.le_of_ble_eq_true rfl) ?_
  rintro _ _ ⟨rfl, rfl⟩
  rw [hv]
  refine x_callV1 C dX11_wouldAgree_6 kX11_304 (c_X11_isKnown hO x_ov_bk) (x_ovg 0 rfl) rfl (by decide) ⟨Nat.zero_le _, Nat.zero_le _⟩ (Nat.le_of_ble_eq_true rfl) ?_
  rintro _ _ ⟨rfl, rfl⟩
  refine x_to (x_ov_ov rfl) ?_
  refine x_if_eq (tgt := 27) C dX11_wouldAgree_9 (by decide) (fun c9 => ?_) (fun c9 => absurd (show h_b false = 0 by decide) c9)
  refine x_iconst (v := 0) C dX11_wouldAgree_27 (by decide) ?_
  refine x_zret C E dX11_wouldAgree_28 rfl ?_
  exact ⟨rfl, rfl⟩
