/-- what the model object's fields are -/
def mdF (th sz ea tk dp : Int32) (tp kd fr mn rl me q rd t m m2 : Nat) : List Value := [.int th, .ref tp, .int sz, .int ea, .ref kd, .ref fr, .ref mn, .ref rl, .ref me, .int tk, .int dp, .ref q, .ref rd, .ref t, .ref m, .ref m2]
/-- x is one of the numbers below n -/
def h_inR (x : Int32) (n : Nat) : Bool := !decide (x < 0) && !decide (nI n ≤ x)
theorem h_inR_t {d n : Nat} (h : d < n) (hn : n < 2 ^ 31) : h_inR (nI d) n = true := by
  unfold h_inR
  rw [decide_eq_false (nI_pos (show d < 2 ^ 31 by omega)), decide_eq_false (nI_ge h (by omega))]
  rfl
theorem h_inR_of {x : Int32} {n : Nat} (hn : n < 2 ^ 31) (h : h_inR x n = true) : ∃ d, d < n ∧ x = nI d := by
  unfold h_inR at h
  have h1 : ¬ x < 0 := fun q => by rw [decide_eq_true q] at h; cases h
  obtain ⟨d, hd, rfl⟩ := nI_of h1
  refine ⟨d, ?_, rfl⟩
  rcases Nat.lt_or_ge d n with q | q
  · exact q
  · rw [decide_eq_true (nI_le q hd)] at h
    simp at h
theorem h_inR_isIn {x : Int32} {n : Nat} (hn : n < 2 ^ 31) : (!decide (x < 0) && !decide (nI n - 1 < x)) = h_inR x n := by
  unfold h_inR
  by_cases h : x < 0
  · rw [decide_eq_true h]; rfl
  · obtain ⟨d, hd, rfl⟩ := nI_of h
    refine congrArg (fun b => !decide (nI d < 0) && !b) ?_
    refine decide_eq_decide.mpr ?_
    have hd1 : (nI d).toInt = d := nI_toInt hd
    have hn1 : (nI n).toInt = n := nI_toInt hn
    rw [Int32.lt_iff_toInt_lt, Int32.le_iff_toInt_le, hd1, hn1]
    cases n with
    | zero =>
      have e : (nI 0 - 1 : Int32).toInt = -1 := by decide
      rw [e]
      omega
    | succ k =>
      have e : (nI (k + 1) - 1 : Int32) = nI k := by rw [← nI_1 k]; simp
      rw [e, nI_toInt (show k < 2 ^ 31 by omega)]
      omega
set_option maxHeartbeats 4000000 in
set_option maxRecDepth 100000 in
theorem c_X11_isDrone {l : Launch} {Y0 : x_Y} (hO : x_Ok Y0) {M : x_M} {m o q : Nat} {P : PL} {A : HS} {hx : Nat → Int32} {z : Int32} {G : HS} {th sz ea tk dp : Int32} {tp kd fr mn rl me rd t m2 : Nat} (hP : p_ok P) (hQ : g_is G P) (hk9 : h_ok P A) (hb : x_bk M m (stT m o P A hx z)) (hp : x_bk M q (pmT q G)) (ho : x_bk M o [.inr (11, mdF th sz ea tk dp tp kd fr mn rl me q rd t m m2)]) {x : Int32} : x_C l Y0 yX11_isDrone cX11_isDrone 2 (some .boolean) 2 0 0 [.ref o, .int x] M (fun u M1 => u = some (.int (h_b (h_inR x (p_nd P)))) ∧ M1 = M) := by
  refine x_start hO (by decide +kernel) (Nat.le_of_ble_eq_true rfl) (fun K C E => ?_)
  have hP0 := hP
  have hQ0 := hQ
  obtain ⟨h8, h6, h16, hnp, hwho, hvb, hts⟩ := hP
  obtain ⟨hq0, hq1, hq2, hq3, hq4, hq5, hq6⟩ := hQ
  refine x_iload_n C dX11_isDrone_0 rfl rfl ?_
  refine x_iconst (v := 0) C dX11_isDrone_1 (by decide) ?_
  refine x_aload_n C dX11_isDrone_2 rfl rfl ?_
  refine x_getfield C dX11_isDrone_3 fX11_35 (ho 0 _ rfl) rfl ?_
  refine x_getfield C dX11_isDrone_6 fX11_63 (hp 0 _ rfl) rfl ?_
  rw [hq0]
  refine x_iconst (v := 1) C dX11_isDrone_9 (by decide) ?_
  refine x_isub C dX11_isDrone_10 ?_
  refine x_callS3 C dX11_isDrone_11 kX11_66 (c_X11_isIn hO) (by decide) ⟨Nat.zero_le _, Nat.zero_le _⟩ (Nat.le_of_ble_eq_true rfl) ?_
  rintro _ _ ⟨rfl, rfl⟩
  rw [h_inR_isIn (show (p_nd P) < 2 ^ 31 by omega)]
  refine x_zret C E dX11_isDrone_14 (by unfold h_b; split <;> rfl) ?_
  exact ⟨rfl, rfl⟩
set_option maxHeartbeats 4000000 in
set_option maxRecDepth 100000 in
theorem c_X11_isDeal {l : Launch} {Y0 : x_Y} (hO : x_Ok Y0) {M : x_M} {m o q : Nat} {P : PL} {A : HS} {hx : Nat → Int32} {z : Int32} {G : HS} {th sz ea tk dp : Int32} {tp kd fr mn rl me rd t m2 : Nat} (hP : p_ok P) (hQ : g_is G P) (hk9 : h_ok P A) (hb : x_bk M m (stT m o P A hx z)) (hp : x_bk M q (pmT q G)) (ho : x_bk M o [.inr (11, mdF th sz ea tk dp tp kd fr mn rl me q rd t m m2)]) {x : Int32} : x_C l Y0 yX11_isDeal cX11_isDeal 2 (some .boolean) 2 0 0 [.ref o, .int x] M (fun u M1 => u = some (.int (h_b (h_inR x (p_nk P)))) ∧ M1 = M) := by
  refine x_start hO (by decide +kernel) (Nat.le_of_ble_eq_true rfl) (fun K C E => ?_)
  have hP0 := hP
  have hQ0 := hQ
  obtain ⟨h8, h6, h16, hnp, hwho, hvb, hts⟩ := hP
  obtain ⟨hq0, hq1, hq2, hq3, hq4, hq5, hq6⟩ := hQ
  refine x_iload_n C dX11_isDeal_0 rfl rfl ?_
  refine x_iconst (v := 0) C dX11_isDeal_1 (by decide) ?_
  refine x_aload_n C dX11_isDeal_2 rfl rfl ?_
  refine x_getfield C dX11_isDeal_3 fX11_35 (ho 0 _ rfl) rfl ?_
  refine x_getfield C dX11_isDeal_6 fX11_70 (hp 0 _ rfl) rfl ?_
  rw [hq1]
  refine x_iconst (v := 1) C dX11_isDeal_9 (by decide) ?_
  refine x_isub C dX11_isDeal_10 ?_
  refine x_callS3 C dX11_isDeal_11 kX11_66 (c_X11_isIn hO) (by decide) ⟨Nat.zero_le _, Nat.zero_le _⟩ (Nat.le_of_ble_eq_true rfl) ?_
  rintro _ _ ⟨rfl, rfl⟩
  rw [h_inR_isIn (show (p_nk P) < 2 ^ 31 by omega)]
  refine x_zret C E dX11_isDeal_14 (by unfold h_b; split <;> rfl) ?_
  exact ⟨rfl, rfl⟩
set_option maxHeartbeats 4000000 in
set_option maxRecDepth 100000 in
theorem c_X11_isPart {l : Launch} {Y0 : x_Y} (hO : x_Ok Y0) {M : x_M} {m o q : Nat} {P : PL} {A : HS} {hx : Nat → Int32} {z : Int32} {G : HS} {th sz ea tk dp : Int32} {tp kd fr mn rl me rd t m2 : Nat} (hP : p_ok P) (hQ : g_is G P) (hk9 : h_ok P A) (hb : x_bk M m (stT m o P A hx z)) (hp : x_bk M q (pmT q G)) (ho : x_bk M o [.inr (11, mdF th sz ea tk dp tp kd fr mn rl me q rd t m m2)]) {k : Nat} (hk : k < p_nk P) {x : Int32} : x_C l Y0 yX11_isPart cX11_isPart 3 (some .boolean) 3 0 0 [.ref o, .int (nI k), .int x] M (fun u M1 => u = some (.int (h_b (h_inR x (p_np P k)))) ∧ M1 = M) := by
  refine x_start hO (by decide +kernel) (Nat.le_of_ble_eq_true rfl) (fun K C E => ?_)
  have hP0 := hP
  have hQ0 := hQ
  obtain ⟨h8, h6, h16, hnp, hwho, hvb, hts⟩ := hP
  obtain ⟨hq0, hq1, hq2, hq3, hq4, hq5, hq6⟩ := hQ
  have hk1 := hnp k hk
  refine x_aload_n C dX11_isPart_0 rfl rfl ?_
  refine x_iload_n C dX11_isPart_1 rfl rfl ?_
  refine x_callV1 C dX11_isPart_2 kX11_73 (c_X11_isDeal hO hP0 hQ0 hk9 hb hp ho) (ho 0 _ rfl) rfl (by decide) ⟨Nat.zero_le _, Nat.zero_le _⟩ (Nat.le_of_ble_eq_true rfl) ?_
  rintro _ _ ⟨rfl, rfl⟩
  rw [h_inR_t hk (by omega)]
  refine x_if_eq (tgt := 31) C dX11_isPart_5 (by decide) (fun c5 => absurd c5 (by decide)) (fun c5 => ?_)
  refine x_iload_n C dX11_isPart_8 rfl rfl ?_
  refine x_iconst (v := 0) C dX11_isPart_9 (by decide) ?_
  refine x_aload_n C dX11_isPart_10 rfl rfl ?_
  refine x_getfield C dX11_isPart_11 fX11_35 (ho 0 _ rfl) rfl ?_
  refine x_getfield C dX11_isPart_14 fX11_77 (hp 0 _ rfl) rfl ?_
  refine x_iload_n C dX11_isPart_17 rfl rfl ?_
  refine x_iaload C dX11_isPart_18 (hp 2 _ rfl) (vp_in_nI (show k < 6 by omega) (by decide)) ?_
  rw [nI_clamp (show k < 2 ^ 31 by omega)]
  rw [hq3 k hk]
  refine x_iconst (v := 1) C dX11_isPart_19 (by decide) ?_
  refine x_isub C dX11_isPart_20 ?_
  refine x_callS3 C dX11_isPart_21 kX11_66 (c_X11_isIn hO) (by decide) ⟨Nat.zero_le _, Nat.zero_le _⟩ (Nat.le_of_ble_eq_true rfl) ?_
  rintro _ _ ⟨rfl, rfl⟩
  rw [h_inR_isIn (show p_np P k < 2 ^ 31 by omega)]
  refine x_if_eq (tgt := 31) C dX11_isPart_24 (by decide) (fun c24 => ?_) (fun c24 => ?_)
  · refine x_iconst (v := 0) C dX11_isPart_31 (by decide) ?_
    refine x_zret C E dX11_isPart_32 rfl ?_
    refine ⟨?_, rfl⟩
    cases hv9 : h_inR x (p_np P k)
    · first | (rw [hv9] at c24; exact absurd rfl c24) | rfl | fail
    · first | (rw [hv9] at c24; exact absurd c24 (by decide)) | rfl | fail
  · refine x_iconst (v := 1) C dX11_isPart_27 (by decide) ?_
    refine x_goto (tgt := 32) C dX11_isPart_28 (by decide) ?_
    refine x_zret C E dX11_isPart_32 rfl ?_
    refine ⟨?_, rfl⟩
    cases hv9 : h_inR x (p_np P k)
    · first | (rw [hv9] at c24; exact absurd rfl c24) | rfl | fail
    · first | (rw [hv9] at c24; exact absurd c24 (by decide)) | rfl | fail
set_option maxHeartbeats 4000000 in
set_option maxRecDepth 100000 in
theorem c_X11_isPartN {l : Launch} {Y0 : x_Y} (hO : x_Ok Y0) {M : x_M} {m o q : Nat} {P : PL} {A : HS} {hx : Nat → Int32} {z : Int32} {G : HS} {th sz ea tk dp : Int32} {tp kd fr mn rl me rd t m2 : Nat} (hP : p_ok P) (hQ : g_is G P) (hk9 : h_ok P A) (hb : x_bk M m (stT m o P A hx z)) (hp : x_bk M q (pmT q G)) (ho : x_bk M o [.inr (11, mdF th sz ea tk dp tp kd fr mn rl me q rd t m m2)]) {x y : Int32} (hv : h_inR x (p_nk P) = false) : x_C l Y0 yX11_isPart cX11_isPart 3 (some .boolean) 3 0 0 [.ref o, .int x, .int y] M (fun u M1 => u = some (.int 0) ∧ M1 = M) := by
  refine x_start hO (by decide +kernel) (Nat.le_of_ble_eq_true rfl) (fun K C E => ?_)
  have hP0 := hP
  have hQ0 := hQ
  obtain ⟨h8, h6, h16, hnp, hwho, hvb, hts⟩ := hP
  obtain ⟨hq0, hq1, hq2, hq3, hq4, hq5, hq6⟩ := hQ
  refine x_aload_n C dX11_isPart_0 rfl rfl ?_
  refine x_iload_n C dX11_isPart_1 rfl rfl ?_
  refine x_callV1 C dX11_isPart_2 kX11_73 (c_X11_isDeal hO hP0 hQ0 hk9 hb hp ho) (ho 0 _ rfl) rfl (by decide) ⟨Nat.zero_le _, Nat.zero_le _⟩ (Nat.le_of_ble_eq_true rfl) ?_
  rintro _ _ ⟨rfl, rfl⟩
  rw [hv]
  refine x_if_eq (tgt := 31) C dX11_isPart_5 (by decide) (fun c5 => ?_) (fun c5 => absurd (show h_b false = 0 by decide) c5)
  refine x_iconst (v := 0) C dX11_isPart_31 (by decide) ?_
  refine x_zret C E dX11_isPart_32 rfl ?_
  exact ⟨rfl, rfl⟩
set_option maxHeartbeats 4000000 in
set_option maxRecDepth 100000 in
theorem c_X11_isKnown {l : Launch} {Y0 : x_Y} (hO : x_Ok Y0) {M : x_M} {o q : Nat} {th sz ea tk dp : Int32} {tp kd fr mn rl me rd t m m2 : Nat} (ho : x_bk M o [.inr (11, mdF th sz ea tk dp tp kd fr mn rl me q rd t m m2)]) {b : Bool} : x_C l Y0 yX11_isKnown cX11_isKnown 2 (some .boolean) 1 0 0 [.ref o, .int (h_b b)] M (fun u M1 => u = some (.int (h_b b)) ∧ M1 = x_ov M o [.inr (11, mdF (h_b (!b)) sz ea tk dp tp kd fr mn rl me q rd t m m2)]) := by
  refine x_start hO (by decide +kernel) (Nat.le_of_ble_eq_true rfl) (fun K C E => ?_)
  refine x_to (x_ov_self ho).symm ?_
  refine x_aload_n C dX11_isKnown_0 rfl rfl ?_
  refine x_iload_n C dX11_isKnown_1 rfl rfl ?_
  refine x_if_eq (tgt := 9) C dX11_isKnown_2 (by decide) (fun c2 => ?_) (fun c2 => ?_)
  · refine x_iconst (v := 1) C dX11_isKnown_9 (by decide) ?_
    refine x_putfield C dX11_isKnown_10 fX11_60 (x_ovg 0 rfl) rfl rfl (Nat.le_of_ble_eq_true rfl) ?_
    refine x_to (x_st_ov 0 (Nat.le_of_ble_eq_true rfl)) ?_
    refine x_iload_n C dX11_isKnown_13 rfl rfl ?_
    refine x_zret C E dX11_isKnown_14 (by unfold h_b; split <;> rfl) ?_
    refine ⟨rfl, ?_⟩
    cases b
    · first | rfl | exact absurd rfl c2 | fail
    · first | rfl | exact absurd c2 (by decide) | fail
  · refine x_iconst (v := 0) C dX11_isKnown_5 (by decide) ?_
    refine x_goto (tgt := 10) C dX11_isKnown_6 (by decide) ?_
    refine x_putfield C dX11_isKnown_10 fX11_60 (x_ovg 0 rfl) rfl rfl (Nat.le_of_ble_eq_true rfl) ?_
    refine x_to (x_st_ov 0 (Nat.le_of_ble_eq_true rfl)) ?_
    refine x_iload_n C dX11_isKnown_13 rfl rfl ?_
    refine x_zret C E dX11_isKnown_14 (by unfold h_b; split <;> rfl) ?_
    refine ⟨rfl, ?_⟩
    cases b
    · first | rfl | exact absurd rfl c2 | fail
    · first | rfl | exact absurd c2 (by decide) | fail
set_option maxHeartbeats 4000000 in
set_option maxRecDepth 100000 in
theorem c_X11_no {l : Launch} {Y0 : x_Y} (hO : x_Ok Y0) {M : x_M} {o q : Nat} {th sz ea tk dp : Int32} {tp kd fr mn rl me rd t m m2 : Nat} (ho : x_bk M o [.inr (11, mdF th sz ea tk dp tp kd fr mn rl me q rd t m m2)]) {x : Int32} : x_C l Y0 yX11_no cX11_no 2 (some .int) 1 0 0 [.ref o, .int x] M (fun u M1 => u = some (.int 0) ∧ M1 = x_ov M o [.inr (11, mdF x sz ea tk dp tp kd fr mn rl me q rd t m m2)]) := by
  refine x_start hO (by decide +kernel) (Nat.le_of_ble_eq_true rfl) (fun K C E => ?_)
  refine x_to (x_ov_self ho).symm ?_
  refine x_aload_n C dX11_no_0 rfl rfl ?_
  refine x_iload_n C dX11_no_1 rfl rfl ?_
  refine x_putfield C dX11_no_2 fX11_60 (x_ovg 0 rfl) rfl rfl (Nat.le_of_ble_eq_true rfl) ?_
  refine x_to (x_st_ov 0 (Nat.le_of_ble_eq_true rfl)) ?_
  refine x_iconst (v := 0) C dX11_no_5 (by decide) ?_
  refine x_iret C E dX11_no_6 ?_
  exact ⟨rfl, rfl⟩
set_option maxHeartbeats 4000000 in
set_option maxRecDepth 100000 in
theorem c_X11_ok {l : Launch} {Y0 : x_Y} (hO : x_Ok Y0) {M : x_M} {o q : Nat} {th sz ea tk dp : Int32} {tp kd fr mn rl me rd t m m2 : Nat} (ho : x_bk M o [.inr (11, mdF th sz ea tk dp tp kd fr mn rl me q rd t m m2)]) {x : Int32} : x_C l Y0 yX11_ok cX11_ok 2 (some .int) 1 0 0 [.ref o, .int x] M (fun u M1 => u = some (.int x) ∧ M1 = x_ov M o [.inr (11, mdF 0 sz ea tk dp tp kd fr mn rl me q rd t m m2)]) := by
  refine x_start hO (by decide +kernel) (Nat.le_of_ble_eq_true rfl) (fun K C E => ?_)
  refine x_to (x_ov_self ho).symm ?_
  refine x_aload_n C dX11_ok_0 rfl rfl ?_
  refine x_iconst (v := 0) C dX11_ok_1 (by decide) ?_
  refine x_putfield C dX11_ok_2 fX11_60 (x_ovg 0 rfl) rfl rfl (Nat.le_of_ble_eq_true rfl) ?_
  refine x_to (x_st_ov 0 (Nat.le_of_ble_eq_true rfl)) ?_
  refine x_iload_n C dX11_ok_5 rfl rfl ?_
  refine x_iret C E dX11_ok_6 ?_
  exact ⟨rfl, rfl⟩
set_option maxHeartbeats 4000000 in
set_option maxRecDepth 100000 in
theorem c_X11_thrown {l : Launch} {Y0 : x_Y} (hO : x_Ok Y0) {M : x_M} {o q : Nat} {th sz ea tk dp : Int32} {tp kd fr mn rl me rd t m m2 : Nat} (ho : x_bk M o [.inr (11, mdF th sz ea tk dp tp kd fr mn rl me q rd t m m2)]) : x_C l Y0 yX11_thrown cX11_thrown 1 (some .int) 1 0 0 [.ref o] M (fun u M1 => u = some (.int th) ∧ M1 = M) := by
  refine x_start hO (by decide +kernel) (Nat.le_of_ble_eq_true rfl) (fun K C E => ?_)
  refine x_aload_n C dX11_thrown_0 rfl rfl ?_
  refine x_getfield C dX11_thrown_1 fX11_60 (ho 0 _ rfl) rfl ?_
  refine x_iret C E dX11_thrown_4 ?_
  exact ⟨rfl, rfl⟩
set_option maxHeartbeats 4000000 in
set_option maxRecDepth 100000 in
theorem c_X11_areDays {l : Launch} {Y0 : x_Y} (hO : x_Ok Y0) {M : x_M} {x : Int32} : x_C l Y0 yX11_areDays cX11_areDays 1 (some .boolean) 2 0 0 [.int x] M (fun u M1 => u = some (.int (h_b (!decide (x < 1) && !decide (30 < x)))) ∧ M1 = M) := by
  refine x_start hO (by decide +kernel) (Nat.le_of_ble_eq_true rfl) (fun K C E => ?_)
  refine x_iload_n C dX11_areDays_0 rfl rfl ?_
  refine x_iconst (v := 1) C dX11_areDays_1 (by decide) ?_
  refine x_bipush (v := 30) C dX11_areDays_2 (by decide) ?_
  refine x_callS3 C dX11_areDays_4 kX11_66 (c_X11_isIn hO) (by decide) ⟨Nat.zero_le _, Nat.zero_le _⟩ (Nat.le_of_ble_eq_true rfl) ?_
  rintro _ _ ⟨rfl, rfl⟩
  refine x_zret C E dX11_areDays_7 (by unfold h_b; split <;> rfl) ?_
  exact ⟨rfl, rfl⟩
set_option maxHeartbeats 4000000 in
set_option maxRecDepth 100000 in
theorem c_X11_drones {l : Launch} {Y0 : x_Y} (hO : x_Ok Y0) {M : x_M} {m o q : Nat} {P : PL} {A : HS} {hx : Nat → Int32} {z : Int32} {G : HS} {th sz ea tk dp : Int32} {tp kd fr mn rl me rd t m2 : Nat} (hP : p_ok P) (hQ : g_is G P) (hk9 : h_ok P A) (hb : x_bk M m (stT m o P A hx z)) (hp : x_bk M q (pmT q G)) (ho : x_bk M o [.inr (11, mdF th sz ea tk dp tp kd fr mn rl me q rd t m m2)]) (hdo : o + 1 ≤ m ∨ m + 9 ≤ o) (hqo : q + 11 ≤ o ∨ o + 1 ≤ q) : x_C l Y0 yX11_drones cX11_drones 1 (some .int) 2 0 0 [.ref o] M (fun u M1 => u = some (.int (nI (p_nd P))) ∧ M1 = x_ov M o [.inr (11, mdF 0 sz ea tk dp tp kd fr mn rl me q rd t m m2)]) := by
  refine x_start hO (by decide +kernel) (Nat.le_of_ble_eq_true rfl) (fun K C E => ?_)
  have hP0 := hP
  have hQ0 := hQ
  obtain ⟨h8, h6, h16, hnp, hwho, hvb, hts⟩ := hP
  obtain ⟨hq0, hq1, hq2, hq3, hq4, hq5, hq6⟩ := hQ
  have hbF : ∀ L : List x_E, L.length = 1 → x_bk (x_ov M o L) m (stT m o P A hx z) := fun L h => x_ov_far 1 hb h hdo.symm
  have hpF : ∀ L : List x_E, L.length = 1 → x_bk (x_ov M o L) q (pmT q G) := fun L h => x_ov_far 1 hp h hqo
  refine x_to (x_ov_self ho).symm ?_
  refine x_aload_n C dX11_drones_0 rfl rfl ?_
  refine x_aload_n C dX11_drones_1 rfl rfl ?_
  refine x_getfield C dX11_drones_2 fX11_35 (x_ovg 0 rfl) rfl ?_
  refine x_getfield C dX11_drones_5 fX11_63 ((hpF _ rfl) 0 _ rfl) rfl ?_
  rw [hq0]
  refine x_callV1 C dX11_drones_8 kX11_282 (c_X11_ok hO x_ov_bk) (x_ovg 0 rfl) rfl (by decide) ⟨Nat.zero_le _, Nat.zero_le _⟩ (Nat.le_of_ble_eq_true rfl) ?_
  rintro _ _ ⟨rfl, rfl⟩
  refine x_to (x_ov_ov rfl) ?_
  refine x_iret C E dX11_drones_11 ?_
  exact ⟨rfl, rfl⟩
set_option maxHeartbeats 4000000 in
set_option maxRecDepth 100000 in
theorem c_X11_deals {l : Launch} {Y0 : x_Y} (hO : x_Ok Y0) {M : x_M} {m o q : Nat} {P : PL} {A : HS} {hx : Nat → Int32} {z : Int32} {G : HS} {th sz ea tk dp : Int32} {tp kd fr mn rl me rd t m2 : Nat} (hP : p_ok P) (hQ : g_is G P) (hk9 : h_ok P A) (hb : x_bk M m (stT m o P A hx z)) (hp : x_bk M q (pmT q G)) (ho : x_bk M o [.inr (11, mdF th sz ea tk dp tp kd fr mn rl me q rd t m m2)]) (hdo : o + 1 ≤ m ∨ m + 9 ≤ o) (hqo : q + 11 ≤ o ∨ o + 1 ≤ q) : x_C l Y0 yX11_deals cX11_deals 1 (some .int) 2 0 0 [.ref o] M (fun u M1 => u = some (.int (nI (p_nk P))) ∧ M1 = x_ov M o [.inr (11, mdF 0 sz ea tk dp tp kd fr mn rl me q rd t m m2)]) := by
  refine x_start hO (by decide +kernel) (Nat.le_of_ble_eq_true rfl) (fun K C E => ?_)
  have hP0 := hP
  have hQ0 := hQ
  obtain ⟨h8, h6, h16, hnp, hwho, hvb, hts⟩ := hP
  obtain ⟨hq0, hq1, hq2, hq3, hq4, hq5, hq6⟩ := hQ
  have hbF : ∀ L : List x_E, L.length = 1 → x_bk (x_ov M o L) m (stT m o P A hx z) := fun L h => x_ov_far 1 hb h hdo.symm
  have hpF : ∀ L : List x_E, L.length = 1 → x_bk (x_ov M o L) q (pmT q G) := fun L h => x_ov_far 1 hp h hqo
  refine x_to (x_ov_self ho).symm ?_
  refine x_aload_n C dX11_deals_0 rfl rfl ?_
  refine x_aload_n C dX11_deals_1 rfl rfl ?_
  refine x_getfield C dX11_deals_2 fX11_35 (x_ovg 0 rfl) rfl ?_
  refine x_getfield C dX11_deals_5 fX11_70 ((hpF _ rfl) 0 _ rfl) rfl ?_
  rw [hq1]
  refine x_callV1 C dX11_deals_8 kX11_282 (c_X11_ok hO x_ov_bk) (x_ovg 0 rfl) rfl (by decide) ⟨Nat.zero_le _, Nat.zero_le _⟩ (Nat.le_of_ble_eq_true rfl) ?_
  rintro _ _ ⟨rfl, rfl⟩
  refine x_to (x_ov_ov rfl) ?_
  refine x_iret C E dX11_deals_11 ?_
  exact ⟨rfl, rfl⟩
set_option maxHeartbeats 4000000 in
set_option maxRecDepth 100000 in
theorem c_X11_day {l : Launch} {Y0 : x_Y} (hO : x_Ok Y0) {M : x_M} {m o q : Nat} {P : PL} {A : HS} {hx : Nat → Int32} {z : Int32} {G : HS} {th sz ea tk dp : Int32} {tp kd fr mn rl me rd t m2 : Nat} (hP : p_ok P) (hQ : g_is G P) (hk9 : h_ok P A) (hb : x_bk M m (stT m o P A hx z)) (hp : x_bk M q (pmT q G)) (ho : x_bk M o [.inr (11, mdF th sz ea tk dp tp kd fr mn rl me q rd t m m2)]) (hdo : o + 1 ≤ m ∨ m + 9 ≤ o) (hqo : q + 11 ≤ o ∨ o + 1 ≤ q) : x_C l Y0 yX11_day cX11_day 1 (some .int) 2 0 0 [.ref o] M (fun u M1 => u = some (.int (A 8 0)) ∧ M1 = x_ov M o [.inr (11, mdF 0 sz ea tk dp tp kd fr mn rl me q rd t m m2)]) := by
  refine x_start hO (by decide +kernel) (Nat.le_of_ble_eq_true rfl) (fun K C E => ?_)
  have hP0 := hP
  have hQ0 := hQ
  obtain ⟨h8, h6, h16, hnp, hwho, hvb, hts⟩ := hP
  obtain ⟨hq0, hq1, hq2, hq3, hq4, hq5, hq6⟩ := hQ
  have hbF : ∀ L : List x_E, L.length = 1 → x_bk (x_ov M o L) m (stT m o P A hx z) := fun L h => x_ov_far 1 hb h hdo.symm
  have hpF : ∀ L : List x_E, L.length = 1 → x_bk (x_ov M o L) q (pmT q G) := fun L h => x_ov_far 1 hp h hqo
  refine x_to (x_ov_self ho).symm ?_
  refine x_aload_n C dX11_day_0 rfl rfl ?_
  refine x_aload_n C dX11_day_1 rfl rfl ?_
  refine x_getfield C dX11_day_2 fX11_50 (x_ovg 0 rfl) rfl ?_
  refine x_getfield C dX11_day_5 fX11_285 ((hbF _ rfl) 0 _ rfl) rfl ?_
  refine x_callV1 C dX11_day_8 kX11_282 (c_X11_ok hO x_ov_bk) (x_ovg 0 rfl) rfl (by decide) ⟨Nat.zero_le _, Nat.zero_le _⟩ (Nat.le_of_ble_eq_true rfl) ?_
  rintro _ _ ⟨rfl, rfl⟩
  refine x_to (x_ov_ov rfl) ?_
  refine x_iret C E dX11_day_11 ?_
  exact ⟨rfl, rfl⟩
set_option maxHeartbeats 4000000 in
set_option maxRecDepth 100000 in
theorem c_X11_ordersCarriedOut {l : Launch} {Y0 : x_Y} (hO : x_Ok Y0) {M : x_M} {m o q : Nat} {P : PL} {A : HS} {hx : Nat → Int32} {z : Int32} {G : HS} {th sz ea tk dp : Int32} {tp kd fr mn rl me rd t m2 : Nat} (hP : p_ok P) (hQ : g_is G P) (hk9 : h_ok P A) (hb : x_bk M m (stT m o P A hx z)) (hp : x_bk M q (pmT q G)) (ho : x_bk M o [.inr (11, mdF th sz ea tk dp tp kd fr mn rl me q rd t m m2)]) (hdo : o + 1 ≤ m ∨ m + 9 ≤ o) (hqo : q + 11 ≤ o ∨ o + 1 ≤ q) : x_C l Y0 yX11_ordersCarriedOut cX11_ordersCarriedOut 1 (some .int) 2 0 0 [.ref o] M (fun u M1 => u = some (.int (A 8 1)) ∧ M1 = x_ov M o [.inr (11, mdF 0 sz ea tk dp tp kd fr mn rl me q rd t m m2)]) := by
  refine x_start hO (by decide +kernel) (Nat.le_of_ble_eq_true rfl) (fun K C E => ?_)
  have hP0 := hP
  have hQ0 := hQ
  obtain ⟨h8, h6, h16, hnp, hwho, hvb, hts⟩ := hP
  obtain ⟨hq0, hq1, hq2, hq3, hq4, hq5, hq6⟩ := hQ
  have hbF : ∀ L : List x_E, L.length = 1 → x_bk (x_ov M o L) m (stT m o P A hx z) := fun L h => x_ov_far 1 hb h hdo.symm
  have hpF : ∀ L : List x_E, L.length = 1 → x_bk (x_ov M o L) q (pmT q G) := fun L h => x_ov_far 1 hp h hqo
  refine x_to (x_ov_self ho).symm ?_
  refine x_aload_n C dX11_ordersCarriedOut_0 rfl rfl ?_
  refine x_aload_n C dX11_ordersCarriedOut_1 rfl rfl ?_
  refine x_getfield C dX11_ordersCarriedOut_2 fX11_50 (x_ovg 0 rfl) rfl ?_
  refine x_getfield C dX11_ordersCarriedOut_5 fX11_288 ((hbF _ rfl) 0 _ rfl) rfl ?_
  refine x_callV1 C dX11_ordersCarriedOut_8 kX11_282 (c_X11_ok hO x_ov_bk) (x_ovg 0 rfl) rfl (by decide) ⟨Nat.zero_le _, Nat.zero_le _⟩ (Nat.le_of_ble_eq_true rfl) ?_
  rintro _ _ ⟨rfl, rfl⟩
  refine x_to (x_ov_ov rfl) ?_
  refine x_iret C E dX11_ordersCarriedOut_11 ?_
  exact ⟨rfl, rfl⟩
set_option maxHeartbeats 4000000 in
set_option maxRecDepth 100000 in
theorem c_X11_blocked {l : Launch} {Y0 : x_Y} (hO : x_Ok Y0) {M : x_M} {m o q : Nat} {P : PL} {A : HS} {hx : Nat → Int32} {z : Int32} {G : HS} {th sz ea tk dp : Int32} {tp kd fr mn rl me rd t m2 : Nat} (hP : p_ok P) (hQ : g_is G P) (hk9 : h_ok P A) (hb : x_bk M m (stT m o P A hx z)) (hp : x_bk M q (pmT q G)) (ho : x_bk M o [.inr (11, mdF th sz ea tk dp tp kd fr mn rl me q rd t m m2)]) (hdo : o + 1 ≤ m ∨ m + 9 ≤ o) (hqo : q + 11 ≤ o ∨ o + 1 ≤ q) : x_C l Y0 yX11_blocked cX11_blocked 1 (some .int) 3 0 0 [.ref o] M (fun u M1 => u = some (.int (h_blocked P A)) ∧ M1 = x_ov M o [.inr (11, mdF 0 sz ea tk dp tp kd fr mn rl me q rd t m m2)]) := by
  refine x_start hO (by decide +kernel) (Nat.le_of_ble_eq_true rfl) (fun K C E => ?_)
  have hP0 := hP
  have hQ0 := hQ
  obtain ⟨h8, h6, h16, hnp, hwho, hvb, hts⟩ := hP
  obtain ⟨hq0, hq1, hq2, hq3, hq4, hq5, hq6⟩ := hQ
  have hbF : ∀ L : List x_E, L.length = 1 → x_bk (x_ov M o L) m (stT m o P A hx z) := fun L h => x_ov_far 1 hb h hdo.symm
  have hpF : ∀ L : List x_E, L.length = 1 → x_bk (x_ov M o L) q (pmT q G) := fun L h => x_ov_far 1 hp h hqo
  refine x_to (x_ov_self ho).symm ?_
  refine x_aload_n C dX11_blocked_0 rfl rfl ?_
  refine x_aload_n C dX11_blocked_1 rfl rfl ?_
  refine x_getfield C dX11_blocked_2 fX11_50 (x_ovg 0 rfl) rfl ?_
  refine x_callV0 C dX11_blocked_5 kX11_291 (c_X10_manyBlocked hO hP0 hQ0 hk9 (hbF _ rfl) (hpF _ rfl) x_ov_bk rfl) ((hbF _ rfl) 0 _ rfl) rfl (by decide) ⟨Nat.zero_le _, Nat.zero_le _⟩ (Nat.le_of_ble_eq_true rfl) ?_
  rintro _ _ ⟨rfl, rfl⟩
  refine x_callV1 C dX11_blocked_8 kX11_282 (c_X11_ok hO x_ov_bk) (x_ovg 0 rfl) rfl (by decide) ⟨Nat.zero_le _, Nat.zero_le _⟩ (Nat.le_of_ble_eq_true rfl) ?_
  rintro _ _ ⟨rfl, rfl⟩
  refine x_to (x_ov_ov rfl) ?_
  refine x_iret C E dX11_blocked_11 ?_
  exact ⟨rfl, rfl⟩
set_option maxHeartbeats 4000000 in
set_option maxRecDepth 100000 in
theorem c_X11_honey {l : Launch} {Y0 : x_Y} (hO : x_Ok Y0) {M : x_M} {m o q : Nat} {P : PL} {A : HS} {hx : Nat → Int32} {z : Int32} {G : HS} {th sz ea tk dp : Int32} {tp kd fr mn rl me rd t m2 : Nat} (hP : p_ok P) (hQ : g_is G P) (hk9 : h_ok P A) (hb : x_bk M m (stT m o P A hx z)) (hp : x_bk M q (pmT q G)) (ho : x_bk M o [.inr (11, mdF th sz ea tk dp tp kd fr mn rl me q rd t m m2)]) (hdo : o + 1 ≤ m ∨ m + 9 ≤ o) (hqo : q + 11 ≤ o ∨ o + 1 ≤ q) : x_C l Y0 yX11_honey cX11_honey 1 (some .int) 3 0 0 [.ref o] M (fun u M1 => u = some (.int (h_honey P A)) ∧ M1 = x_ov M o [.inr (11, mdF 0 sz ea tk dp tp kd fr mn rl me q rd t m m2)]) := by
  refine x_start hO (by decide +kernel) (Nat.le_of_ble_eq_true rfl) (fun K C E => ?_)
  have hP0 := hP
  have hQ0 := hQ
  obtain ⟨h8, h6, h16, hnp, hwho, hvb, hts⟩ := hP
  obtain ⟨hq0, hq1, hq2, hq3, hq4, hq5, hq6⟩ := hQ
  have hbF : ∀ L : List x_E, L.length = 1 → x_bk (x_ov M o L) m (stT m o P A hx z) := fun L h => x_ov_far 1 hb h hdo.symm
  have hpF : ∀ L : List x_E, L.length = 1 → x_bk (x_ov M o L) q (pmT q G) := fun L h => x_ov_far 1 hp h hqo
  refine x_to (x_ov_self ho).symm ?_
  refine x_aload_n C dX11_honey_0 rfl rfl ?_
  refine x_aload_n C dX11_honey_1 rfl rfl ?_
  refine x_getfield C dX11_honey_2 fX11_50 (x_ovg 0 rfl) rfl ?_
  refine x_callV0 C dX11_honey_5 kX11_294 (c_X10_allHoney hO hP0 hQ0 hk9 (hbF _ rfl) (hpF _ rfl) x_ov_bk rfl) ((hbF _ rfl) 0 _ rfl) rfl (by decide) ⟨Nat.zero_le _, Nat.zero_le _⟩ (Nat.le_of_ble_eq_true rfl) ?_
  rintro _ _ ⟨rfl, rfl⟩
  refine x_callV1 C dX11_honey_8 kX11_282 (c_X11_ok hO x_ov_bk) (x_ovg 0 rfl) rfl (by decide) ⟨Nat.zero_le _, Nat.zero_le _⟩ (Nat.le_of_ble_eq_true rfl) ?_
  rintro _ _ ⟨rfl, rfl⟩
  refine x_to (x_ov_ov rfl) ?_
  refine x_iret C E dX11_honey_11 ?_
  exact ⟨rfl, rfl⟩
set_option maxHeartbeats 4000000 in
set_option maxRecDepth 100000 in
theorem c_X11_errorAt {l : Launch} {Y0 : x_Y} (hO : x_Ok Y0) {M : x_M} {m o q : Nat} {P : PL} {A : HS} {hx : Nat → Int32} {z : Int32} {G : HS} {th sz ea tk dp : Int32} {tp kd fr mn rl me rd t m2 : Nat} (hP : p_ok P) (hQ : g_is G P) (hk9 : h_ok P A) (hb : x_bk M m (stT m o P A hx z)) (hp : x_bk M q (pmT q G)) (ho : x_bk M o [.inr (11, mdF th sz ea tk dp tp kd fr mn rl me q rd t m m2)]) (hdo : o + 1 ≤ m ∨ m + 9 ≤ o) (hqo : q + 11 ≤ o ∨ o + 1 ≤ q) : x_C l Y0 yX11_errorAt cX11_errorAt 1 (some .int) 2 0 0 [.ref o] M (fun u M1 => u = some (.int (ea)) ∧ M1 = x_ov M o [.inr (11, mdF 0 sz ea tk dp tp kd fr mn rl me q rd t m m2)]) := by
  refine x_start hO (by decide +kernel) (Nat.le_of_ble_eq_true rfl) (fun K C E => ?_)
  have hP0 := hP
  have hQ0 := hQ
  obtain ⟨h8, h6, h16, hnp, hwho, hvb, hts⟩ := hP
  obtain ⟨hq0, hq1, hq2, hq3, hq4, hq5, hq6⟩ := hQ
  have hbF : ∀ L : List x_E, L.length = 1 → x_bk (x_ov M o L) m (stT m o P A hx z) := fun L h => x_ov_far 1 hb h hdo.symm
  have hpF : ∀ L : List x_E, L.length = 1 → x_bk (x_ov M o L) q (pmT q G) := fun L h => x_ov_far 1 hp h hqo
  refine x_to (x_ov_self ho).symm ?_
  refine x_aload_n C dX11_errorAt_0 rfl rfl ?_
  refine x_aload_n C dX11_errorAt_1 rfl rfl ?_
  refine x_getfield C dX11_errorAt_2 fX11_13 (x_ovg 0 rfl) rfl ?_
  refine x_callV1 C dX11_errorAt_5 kX11_282 (c_X11_ok hO x_ov_bk) (x_ovg 0 rfl) rfl (by decide) ⟨Nat.zero_le _, Nat.zero_le _⟩ (Nat.le_of_ble_eq_true rfl) ?_
  rintro _ _ ⟨rfl, rfl⟩
  refine x_to (x_ov_ov rfl) ?_
  refine x_iret C E dX11_errorAt_8 ?_
  exact ⟨rfl, rfl⟩
set_option maxHeartbeats 4000000 in
set_option maxRecDepth 100000 in
theorem c_X11_isQueenAwake {l : Launch} {Y0 : x_Y} (hO : x_Ok Y0) {M : x_M} {m o q : Nat} {P : PL} {A : HS} {hx : Nat → Int32} {z : Int32} {G : HS} {th sz ea tk dp : Int32} {tp kd fr mn rl me rd t m2 : Nat} (hP : p_ok P) (hQ : g_is G P) (hk9 : h_ok P A) (hb : x_bk M m (stT m o P A hx z)) (hp : x_bk M q (pmT q G)) (ho : x_bk M o [.inr (11, mdF th sz ea tk dp tp kd fr mn rl me q rd t m m2)]) (hdo : o + 1 ≤ m ∨ m + 9 ≤ o) (hqo : q + 11 ≤ o ∨ o + 1 ≤ q) : x_C l Y0 yX11_isQueenAwake cX11_isQueenAwake 1 (some .boolean) 2 0 0 [.ref o] M (fun u M1 => u = some (.int (1 - A 1 8)) ∧ M1 = x_ov M o [.inr (11, mdF 0 sz ea tk dp tp kd fr mn rl me q rd t m m2)]) := by
  refine x_start hO (by decide +kernel) (Nat.le_of_ble_eq_true rfl) (fun K C E => ?_)
  have hP0 := hP
  have hQ0 := hQ
  obtain ⟨h8, h6, h16, hnp, hwho, hvb, hts⟩ := hP
  obtain ⟨hq0, hq1, hq2, hq3, hq4, hq5, hq6⟩ := hQ
  have hbF : ∀ L : List x_E, L.length = 1 → x_bk (x_ov M o L) m (stT m o P A hx z) := fun L h => x_ov_far 1 hb h hdo.symm
  have hpF : ∀ L : List x_E, L.length = 1 → x_bk (x_ov M o L) q (pmT q G) := fun L h => x_ov_far 1 hp h hqo
  refine x_to (x_ov_self ho).symm ?_
  refine x_aload_n C dX11_isQueenAwake_0 rfl rfl ?_
  refine x_iconst (v := 0) C dX11_isQueenAwake_1 (by decide) ?_
  refine x_putfield C dX11_isQueenAwake_2 fX11_60 (x_ovg 0 rfl) rfl rfl (Nat.le_of_ble_eq_true rfl) ?_
  refine x_to (x_st_ov 0 (Nat.le_of_ble_eq_true rfl)) ?_
  refine x_aload_n C dX11_isQueenAwake_5 rfl rfl ?_
  refine x_getfield C dX11_isQueenAwake_6 fX11_50 (x_ovg 0 rfl) rfl ?_
  refine x_getfield C dX11_isQueenAwake_9 fX11_297 ((hbF _ rfl) 0 _ rfl) rfl ?_
  refine x_bipush (v := 8) C dX11_isQueenAwake_12 (by decide) ?_
  refine x_baload C dX11_isQueenAwake_14 ((hbF _ rfl) 4 _ rfl) (vp_in_nI (show 8 < 9 by decide) (by decide)) ?_
  rw [show (8 : Int32).toNatClampNeg = 8 from rfl]
  refine x_if_ne (tgt := 22) C dX11_isQueenAwake_15 (by decide) (fun c15 => ?_) (fun c15 => ?_)
  · refine x_iconst (v := 0) C dX11_isQueenAwake_22 (by decide) ?_
    refine x_zret C E dX11_isQueenAwake_23 rfl ?_
    exact ⟨by rcases hk9.1 8 with q9 | q9 <;> first | (rw [q9]; rfl) | (rw [q9] at c15; exact absurd rfl c15) | (rw [q9] at c15; exact absurd c15 (by decide)) | fail, rfl⟩
  · refine x_iconst (v := 1) C dX11_isQueenAwake_18 (by decide) ?_
    refine x_goto (tgt := 23) C dX11_isQueenAwake_19 (by decide) ?_
    refine x_zret C E dX11_isQueenAwake_23 rfl ?_
    exact ⟨by rcases hk9.1 8 with q9 | q9 <;> first | (rw [q9]; rfl) | (rw [q9] at c15; exact absurd rfl c15) | (rw [q9] at c15; exact absurd c15 (by decide)) | fail, rfl⟩
