theorem h_awk {f : Nat → Int32} (hf : ∀ d, f d = 0 ∨ f d = 1) : ∀ n, h_cnt (fun d => f d == 0) n + s_sum f n = nI n := by
  intro n
  induction n with
  | zero => rfl
  | succ n ih =>
    have e : h_cnt (fun d => f d == 0) (n + 1) + s_sum f (n + 1) = (h_cnt (fun d => f d == 0) n + s_sum f n) + ((if (f n == 0) = true then 1 else 0) + f n) := by
      show (h_cnt (fun d => f d == 0) n + (if (f n == 0) = true then 1 else 0)) + (s_sum f n + f n) = _
      generalize (if (f n == 0) = true then (1 : Int32) else 0) = y
      ac_rfl
    rw [e, ih, ← nI_1 n]
    rcases hf n with h | h <;> rw [h] <;> rfl
theorem h_awake_eq {P : PL} {A : HS} (h : h_ok P A) : h_cnt (fun d => A 1 d == 0) (p_nd P) = h_awake P A := by
  unfold h_awake
  rw [← h_awk h.1 (p_nd P), Int32.add_sub_cancel]
set_option maxHeartbeats 4000000 in
set_option maxRecDepth 100000 in
theorem c_X11_begin {l : Launch} {Y0 : x_Y} (hO : x_Ok Y0) {M : x_M} {m o q : Nat} {P : PL} {A : HS} {hx : Nat → Int32} {z : Int32} {G : HS} {th sz ea tk dp : Int32} {tp kd fr mn rl me rd t m2 : Nat} (hP : p_ok P) (hQ : g_is G P) (hk9 : h_ok P A) (hb : x_bk M m (stT m o P A hx z)) (hp : x_bk M q (pmT q G)) (ho : x_bk M o [.inr (11, mdF th sz ea tk dp tp kd fr mn rl me q rd t m m2)]) (hdo : o + 1 ≤ m ∨ m + 9 ≤ o) (hqo : q + 11 ≤ o ∨ o + 1 ≤ q) (hd : q + 11 ≤ m ∨ m + 9 ≤ q) {k : Nat} (hk : k < p_nk P) (hcan : h_can P A k = true) : x_C l Y0 yX11_begin cX11_begin 2 (some .int) 4 0 0 [.ref o, .int (nI k)] M (fun u M1 => u = some (.int (h_begun P (h_begin P A k))) ∧ M1 = x_ov (x_ov M o [.inr (11, mdF 0 sz ea tk dp tp kd fr mn rl me q rd t m m2)]) m (stT m o P (h_begin P A k) hx z)) := by
  refine x_start hO (by decide +kernel) (Nat.le_of_ble_eq_true rfl) (fun K C E => ?_)
  have hP0 := hP
  have hQ0 := hQ
  obtain ⟨h8, h6, h16, hnp, hwho, hvb, hts⟩ := hP
  obtain ⟨hq0, hq1, hq2, hq3, hq4, hq5, hq6⟩ := hQ
  have hbF : ∀ L : List x_E, L.length = 1 → x_bk (x_ov M o L) m (stT m o P A hx z) := fun L h => x_ov_far 1 hb h hdo.symm
  have hpF : ∀ L : List x_E, L.length = 1 → x_bk (x_ov M o L) q (pmT q G) := fun L h => x_ov_far 1 hp h hqo
  have hoG : ∀ Lo L2 : List x_E, Lo.length = 1 → L2.length = 9 → x_bk (x_ov (x_ov M o Lo) m L2) o Lo := fun Lo L2 h1 h2 => x_ov_far 9 x_ov_bk h2 (by rw [h1]; exact hdo)
  have hpG : ∀ Lo L2 : List x_E, Lo.length = 1 → L2.length = 9 → x_bk (x_ov (x_ov M o Lo) m L2) q (pmT q G) := fun Lo L2 h1 h2 => x_ov_far 9 (x_ov_far 1 hp h1 hqo) h2 hd
  refine x_to (x_ov_self ho).symm ?_
  have hk1 := hnp k hk
  have hv := h_inR_t hk (by omega)
  have hkB := h_ok_begin hk1.2 hk9
  refine x_aload_n C dX11_begin_0 rfl rfl ?_
  refine x_aload_n C dX11_begin_1 rfl rfl ?_
  refine x_iload_n C dX11_begin_2 rfl rfl ?_
  refine x_callV1 C dX11_begin_3 kX11_73 (c_X11_isDeal hO hP0 hQ0 hk9 (hbF _ rfl) (hpF _ rfl) x_ov_bk) (x_ovg 0 rfl) rfl (by decide) ⟨Nat.zero_le _, Nat.zero_le _⟩ (Nat.le_of_ble_eq_true rfl) ?_
  rintro _ _ ⟨rfl, rfl⟩
  rw [hv]
  refine x_callV1 C dX11_begin_6 kX11_304 (c_X11_isKnown hO x_ov_bk) (x_ovg 0 rfl) rfl (by decide) ⟨Nat.zero_le _, Nat.zero_le _⟩ (Nat.le_of_ble_eq_true rfl) ?_
  rintro _ _ ⟨rfl, rfl⟩
  refine x_to (x_ov_ov rfl) ?_
  refine x_if_ne (tgt := 14) C dX11_begin_9 (by decide) (fun c9 => ?_) (fun c9 => absurd c9 (show ¬ h_b true = 0 by decide))
  refine x_aload_n C dX11_begin_14 rfl rfl ?_
  refine x_getfield C dX11_begin_15 fX11_50 (x_ovg 0 rfl) rfl ?_
  refine x_iload_n C dX11_begin_18 rfl rfl ?_
  refine x_callV1 C dX11_begin_19 kX11_336 (c_X10_canBegin hO hP0 hQ0 hk9 (hbF _ rfl) (hpF _ rfl) x_ov_bk rfl hk) ((hbF _ rfl) 0 _ rfl) rfl (by decide) ⟨Nat.zero_le _, Nat.zero_le _⟩ (Nat.le_of_ble_eq_true rfl) ?_
  rintro _ _ ⟨rfl, rfl⟩
  rw [hcan]
  refine x_if_ne (tgt := 31) C dX11_begin_22 (by decide) (fun c22 => ?_) (fun c22 => absurd c22 (show ¬ h_b true = 0 by decide))
  refine x_aload_n C dX11_begin_31 rfl rfl ?_
  refine x_getfield C dX11_begin_32 fX11_50 (x_ovg 0 rfl) rfl ?_
  refine x_iload_n C dX11_begin_35 rfl rfl ?_
  refine x_callV1 C dX11_begin_36 kX11_339 (c_X10_beginDeal hO hP0 hQ0 hk9 (hbF _ rfl) (hpF _ rfl) x_ov_bk rfl hd hdo hk) ((hbF _ rfl) 0 _ rfl) rfl (by decide) ⟨Nat.zero_le _, Nat.zero_le _⟩ (Nat.le_of_ble_eq_true rfl) ?_
  rintro _ _ ⟨rfl, rfl⟩
  refine x_aload_n C dX11_begin_39 rfl rfl ?_
  refine x_getfield C dX11_begin_40 fX11_50 ((hoG _ _ rfl rfl) 0 _ rfl) rfl ?_
  refine x_callV0 C dX11_begin_43 kX11_342 (c_X10_manyBegun hO hP0 hQ0 hkB x_ov_bk (hpG _ _ rfl rfl) (hoG _ _ rfl rfl) rfl) (x_ovg 0 rfl) rfl (by decide) ⟨Nat.zero_le _, Nat.zero_le _⟩ (Nat.le_of_ble_eq_true rfl) ?_
  rintro _ _ ⟨rfl, rfl⟩
  refine x_iret C E dX11_begin_46 ?_
  exact ⟨rfl, rfl⟩
set_option maxHeartbeats 4000000 in
set_option maxRecDepth 100000 in
theorem c_X11_beginE {l : Launch} {Y0 : x_Y} (hO : x_Ok Y0) {M : x_M} {m o q : Nat} {P : PL} {A : HS} {hx : Nat → Int32} {z : Int32} {G : HS} {th sz ea tk dp : Int32} {tp kd fr mn rl me rd t m2 : Nat} (hP : p_ok P) (hQ : g_is G P) (hk9 : h_ok P A) (hb : x_bk M m (stT m o P A hx z)) (hp : x_bk M q (pmT q G)) (ho : x_bk M o [.inr (11, mdF th sz ea tk dp tp kd fr mn rl me q rd t m m2)]) (hdo : o + 1 ≤ m ∨ m + 9 ≤ o) (hqo : q + 11 ≤ o ∨ o + 1 ≤ q) (hd : q + 11 ≤ m ∨ m + 9 ≤ q) {k : Nat} (hk : k < p_nk P) (hcan : h_can P A k = false) : x_C l Y0 yX11_begin cX11_begin 2 (some .int) 4 0 0 [.ref o, .int (nI k)] M (fun u M1 => u = some (.int 0) ∧ M1 = x_ov M o [.inr (11, mdF 2 sz ea tk dp tp kd fr mn rl me q rd t m m2)]) := by
  refine x_start hO (by decide +kernel) (Nat.le_of_ble_eq_true rfl) (fun K C E => ?_)
  have hP0 := hP
  have hQ0 := hQ
  obtain ⟨h8, h6, h16, hnp, hwho, hvb, hts⟩ := hP
  obtain ⟨hq0, hq1, hq2, hq3, hq4, hq5, hq6⟩ := hQ
  have hbF : ∀ L : List x_E, L.length = 1 → x_bk (x_ov M o L) m (stT m o P A hx z) := fun L h => x_ov_far 1 hb h hdo.symm
  have hpF : ∀ L : List x_E, L.length = 1 → x_bk (x_ov M o L) q (pmT q G) := fun L h => x_ov_far 1 hp h hqo
  have hoG : ∀ Lo L2 : List x_E, Lo.length = 1 → L2.length = 9 → x_bk (x_ov (x_ov M o Lo) m L2) o Lo := fun Lo L2 h1 h2 => x_ov_far 9 x_ov_bk h2 (by rw [h1]; exact hdo)
  have hpG : ∀ Lo L2 : List x_E, Lo.length = 1 → L2.length = 9 → x_bk (x_ov (x_ov M o Lo) m L2) q (pmT q G) := fun Lo L2 h1 h2 => x_ov_far 9 (x_ov_far 1 hp h1 hqo) h2 hd
  refine x_to (x_ov_self ho).symm ?_
  have hk1 := hnp k hk
  have hv := h_inR_t hk (by omega)
  refine x_aload_n C dX11_begin_0 rfl rfl ?_
  refine x_aload_n C dX11_begin_1 rfl rfl ?_
  refine x_iload_n C dX11_begin_2 rfl rfl ?_
  refine x_callV1 C dX11_begin_3 kX11_73 (c_X11_isDeal hO hP0 hQ0 hk9 (hbF _ rfl) (hpF _ rfl) x_ov_bk) (x_ovg 0 rfl) rfl (by decide) ⟨Nat.zero_le _, Nat.zero_le _⟩ (Nat.le_of_ble_eq_true rfl) ?_
  rintro _ _ ⟨rfl, rfl⟩
  rw [hv]
  refine x_callV1 C dX11_begin_6 kX11_304 (c_X11_isKnown hO x_ov_bk) (x_ovg 0 rfl) rfl (by decide) ⟨Nat.zero_le _, Nat.zero_le _⟩ (Nat.le_of_ble_eq_true rfl) ?_
  rintro _ _ ⟨rfl, rfl⟩
  refine x_to (x_ov_ov rfl) ?_
  refine x_if_ne (tgt := 14) C dX11_begin_9 (by decide) (fun c9 => ?_) (fun c9 => absurd c9 (show ¬ h_b true = 0 by decide))
  refine x_aload_n C dX11_begin_14 rfl rfl ?_
  refine x_getfield C dX11_begin_15 fX11_50 (x_ovg 0 rfl) rfl ?_
  refine x_iload_n C dX11_begin_18 rfl rfl ?_
  refine x_callV1 C dX11_begin_19 kX11_336 (c_X10_canBegin hO hP0 hQ0 hk9 (hbF _ rfl) (hpF _ rfl) x_ov_bk rfl hk) ((hbF _ rfl) 0 _ rfl) rfl (by decide) ⟨Nat.zero_le _, Nat.zero_le _⟩ (Nat.le_of_ble_eq_true rfl) ?_
  rintro _ _ ⟨rfl, rfl⟩
  rw [hcan]
  refine x_if_ne (tgt := 31) C dX11_begin_22 (by decide) (fun c22 => absurd c22 (show ¬ ¬ h_b false = 0 by decide)) (fun c22 => ?_)
  refine x_aload_n C dX11_begin_25 rfl rfl ?_
  refine x_iconst (v := 2) C dX11_begin_26 (by decide) ?_
  refine x_callV1 C dX11_begin_27 kX11_276 (c_X11_no hO x_ov_bk) (x_ovg 0 rfl) rfl (by decide) ⟨Nat.zero_le _, Nat.zero_le _⟩ (Nat.le_of_ble_eq_true rfl) ?_
  rintro _ _ ⟨rfl, rfl⟩
  refine x_to (x_ov_ov rfl) ?_
  refine x_iret C E dX11_begin_30 ?_
  exact ⟨rfl, rfl⟩
set_option maxHeartbeats 4000000 in
set_option maxRecDepth 100000 in
theorem c_X11_beginN {l : Launch} {Y0 : x_Y} (hO : x_Ok Y0) {M : x_M} {m o q : Nat} {P : PL} {A : HS} {hx : Nat → Int32} {z : Int32} {G : HS} {th sz ea tk dp : Int32} {tp kd fr mn rl me rd t m2 : Nat} (hP : p_ok P) (hQ : g_is G P) (hk9 : h_ok P A) (hb : x_bk M m (stT m o P A hx z)) (hp : x_bk M q (pmT q G)) (ho : x_bk M o [.inr (11, mdF th sz ea tk dp tp kd fr mn rl me q rd t m m2)]) (hdo : o + 1 ≤ m ∨ m + 9 ≤ o) (hqo : q + 11 ≤ o ∨ o + 1 ≤ q) (hd : q + 11 ≤ m ∨ m + 9 ≤ q) {x : Int32} (hv : h_inR x (p_nk P) = false) : x_C l Y0 yX11_begin cX11_begin 2 (some .int) 4 0 0 [.ref o, .int x] M (fun u M1 => u = some (.int 0) ∧ M1 = x_ov M o [.inr (11, mdF 1 sz ea tk dp tp kd fr mn rl me q rd t m m2)]) := by
  refine x_start hO (by decide +kernel) (Nat.le_of_ble_eq_true rfl) (fun K C E => ?_)
  have hP0 := hP
  have hQ0 := hQ
  obtain ⟨h8, h6, h16, hnp, hwho, hvb, hts⟩ := hP
  obtain ⟨hq0, hq1, hq2, hq3, hq4, hq5, hq6⟩ := hQ
  have hbF : ∀ L : List x_E, L.length = 1 → x_bk (x_ov M o L) m (stT m o P A hx z) := fun L h => x_ov_far 1 hb h hdo.symm
  have hpF : ∀ L : List x_E, L.length = 1 → x_bk (x_ov M o L) q (pmT q G) := fun L h => x_ov_far 1 hp h hqo
  have hoG : ∀ Lo L2 : List x_E, Lo.length = 1 → L2.length = 9 → x_bk (x_ov (x_ov M o Lo) m L2) o Lo := fun Lo L2 h1 h2 => x_ov_far 9 x_ov_bk h2 (by rw [h1]; exact hdo)
  have hpG : ∀ Lo L2 : List x_E, Lo.length = 1 → L2.length = 9 → x_bk (x_ov (x_ov M o Lo) m L2) q (pmT q G) := fun Lo L2 h1 h2 => x_ov_far 9 (x_ov_far 1 hp h1 hqo) h2 hd
  refine x_to (x_ov_self ho).symm ?_
  refine x_aload_n C dX11_begin_0 rfl rfl ?_
  refine x_aload_n C dX11_begin_1 rfl rfl ?_
  refine x_iload_n C dX11_begin_2 rfl rfl ?_
  refine x_callV1 C dX11_begin_3 kX11_73 (c_X11_isDeal hO hP0 hQ0 hk9 (hbF _ rfl) (hpF _ rfl) x_ov_bk) (x_ovg 0 rfl) rfl (by decide) ⟨Nat.zero_le _, Nat.zero_le _⟩ (Nat.le_of_ble_eq_true rfl) ?_
  rintro _ _ ⟨rfl, rfl⟩
  rw [hv]
  refine x_callV1 C dX11_begin_6 kX11_304 (c_X11_isKnown hO x_ov_bk) (x_ovg 0 rfl) rfl (by decide) ⟨Nat.zero_le _, Nat.zero_le _⟩ (Nat.le_of_ble_eq_true rfl) ?_
  rintro _ _ ⟨rfl, rfl⟩
  refine x_to (x_ov_ov rfl) ?_
  refine x_if_ne (tgt := 14) C dX11_begin_9 (by decide) (fun c9 => absurd c9 (show ¬ ¬ h_b false = 0 by decide)) (fun c9 => ?_)
  refine x_iconst (v := 0) C dX11_begin_12 (by decide) ?_
  refine x_iret C E dX11_begin_13 ?_
  exact ⟨rfl, rfl⟩
set_option maxHeartbeats 4000000 in
set_option maxRecDepth 100000 in
theorem c_X11_turn {l : Launch} {Y0 : x_Y} (hO : x_Ok Y0) {M : x_M} {m o q : Nat} {P : PL} {A : HS} {hx : Nat → Int32} {z : Int32} {G : HS} {th sz ea tk dp : Int32} {tp kd fr mn rl me rd t m2 : Nat} (hP : p_ok P) (hQ : g_is G P) (hk9 : h_ok P A) (hb : x_bk M m (stT m o P A hx z)) (hp : x_bk M q (pmT q G)) (ho : x_bk M o [.inr (11, mdF th sz ea tk dp tp kd fr mn rl me q rd t m m2)]) (hdo : o + 1 ≤ m ∨ m + 9 ≤ o) (hqo : q + 11 ≤ o ∨ o + 1 ≤ q) (hd : q + 11 ≤ m ∨ m + 9 ≤ q) {d : Nat} (hd9 : d < p_nd P) {w : Int32} (hw : A 1 d = w) : x_C l Y0 yX11_turn cX11_turn 3 (some .int) 4 0 0 [.ref o, .int (nI d), .int w] M (fun u M1 => u = some (.int (h_awake P (if A 1 d = 0 then h_u A 1 d 1 else h_wake P A d))) ∧ M1 = x_ov (x_ov M o [.inr (11, mdF 0 sz ea tk dp tp kd fr mn rl me q rd t m m2)]) m (stT m o P ((if A 1 d = 0 then h_u A 1 d 1 else h_wake P A d)) hx z)) := by
  refine x_start hO (by decide +kernel) (Nat.le_of_ble_eq_true rfl) (fun K C E => ?_)
  have hP0 := hP
  have hQ0 := hQ
  obtain ⟨h8, h6, h16, hnp, hwho, hvb, hts⟩ := hP
  obtain ⟨hq0, hq1, hq2, hq3, hq4, hq5, hq6⟩ := hQ
  have hbF : ∀ L : List x_E, L.length = 1 → x_bk (x_ov M o L) m (stT m o P A hx z) := fun L h => x_ov_far 1 hb h hdo.symm
  have hpF : ∀ L : List x_E, L.length = 1 → x_bk (x_ov M o L) q (pmT q G) := fun L h => x_ov_far 1 hp h hqo
  have hoG : ∀ Lo L2 : List x_E, Lo.length = 1 → L2.length = 9 → x_bk (x_ov (x_ov M o Lo) m L2) o Lo := fun Lo L2 h1 h2 => x_ov_far 9 x_ov_bk h2 (by rw [h1]; exact hdo)
  have hpG : ∀ Lo L2 : List x_E, Lo.length = 1 → L2.length = 9 → x_bk (x_ov (x_ov M o Lo) m L2) q (pmT q G) := fun Lo L2 h1 h2 => x_ov_far 9 (x_ov_far 1 hp h1 hqo) h2 hd
  refine x_to (x_ov_self ho).symm ?_
  have hv := h_inR_t hd9 (by omega)
  have hkB : h_ok P (if A 1 d = 0 then h_u A 1 d 1 else h_wake P A d) := by
    split
    · exact h_ok_1 hk9 (Or.inr rfl)
    · exact h_ok_wake hk9
  refine x_aload_n C dX11_turn_0 rfl rfl ?_
  refine x_aload_n C dX11_turn_1 rfl rfl ?_
  refine x_iload_n C dX11_turn_2 rfl rfl ?_
  refine x_callV1 C dX11_turn_3 kX11_301 (c_X11_isDrone hO hP0 hQ0 hk9 (hbF _ rfl) (hpF _ rfl) x_ov_bk) (x_ovg 0 rfl) rfl (by decide) ⟨Nat.zero_le _, Nat.zero_le _⟩ (Nat.le_of_ble_eq_true rfl) ?_
  rintro _ _ ⟨rfl, rfl⟩
  rw [hv]
  refine x_callV1 C dX11_turn_6 kX11_304 (c_X11_isKnown hO x_ov_bk) (x_ovg 0 rfl) rfl (by decide) ⟨Nat.zero_le _, Nat.zero_le _⟩ (Nat.le_of_ble_eq_true rfl) ?_
  rintro _ _ ⟨rfl, rfl⟩
  refine x_to (x_ov_ov rfl) ?_
  refine x_if_ne (tgt := 14) C dX11_turn_9 (by decide) (fun c9 => ?_) (fun c9 => absurd c9 (show ¬ h_b true = 0 by decide))
  refine x_aload_n C dX11_turn_14 rfl rfl ?_
  refine x_getfield C dX11_turn_15 fX11_50 (x_ovg 0 rfl) rfl ?_
  refine x_getfield C dX11_turn_18 fX11_297 ((hbF _ rfl) 0 _ rfl) rfl ?_
  refine x_iload_n C dX11_turn_21 rfl rfl ?_
  refine x_baload C dX11_turn_22 ((hbF _ rfl) 4 _ rfl) (vp_in_nI (show d < 9 by omega) (by decide)) ?_
  rw [nI_clamp (show d < 2 ^ 31 by omega)]
  refine x_iload_n C dX11_turn_23 rfl rfl ?_
  refine x_icmp_eq (tgt := 33) C dX11_turn_24 (by decide) (fun c24 => ?_) (fun c24 => absurd hw c24)
  refine x_aload_n C dX11_turn_33 rfl rfl ?_
  refine x_getfield C dX11_turn_34 fX11_50 (x_ovg 0 rfl) rfl ?_
  refine x_iload_n C dX11_turn_37 rfl rfl ?_
  refine x_callV1 C dX11_turn_38 kX11_345 (c_X10_turn hO hP0 hQ0 hk9 (hbF _ rfl) (hpF _ rfl) x_ov_bk rfl hd hdo (Or.inl (show d < 8 by omega))) ((hbF _ rfl) 0 _ rfl) rfl (by decide) ⟨Nat.zero_le _, Nat.zero_le _⟩ (Nat.le_of_ble_eq_true rfl) ?_
  rintro _ _ ⟨rfl, rfl⟩
  refine x_pop C dX11_turn_41 rfl ?_
  refine x_aload_n C dX11_turn_42 rfl rfl ?_
  refine x_getfield C dX11_turn_43 fX11_50 ((hoG _ _ rfl rfl) 0 _ rfl) rfl ?_
  refine x_callV0 C dX11_turn_46 kX11_348 (c_X10_manyAwake hO hP0 hQ0 hkB x_ov_bk (hpG _ _ rfl rfl) (hoG _ _ rfl rfl) rfl) (x_ovg 0 rfl) rfl (by decide) ⟨Nat.zero_le _, Nat.zero_le _⟩ (Nat.le_of_ble_eq_true rfl) ?_
  rintro _ _ ⟨rfl, rfl⟩
  refine x_iret C E dX11_turn_49 ?_
  exact ⟨by rw [h_awake_eq hkB], rfl⟩
set_option maxHeartbeats 4000000 in
set_option maxRecDepth 100000 in
theorem c_X11_turnE {l : Launch} {Y0 : x_Y} (hO : x_Ok Y0) {M : x_M} {m o q : Nat} {P : PL} {A : HS} {hx : Nat → Int32} {z : Int32} {G : HS} {th sz ea tk dp : Int32} {tp kd fr mn rl me rd t m2 : Nat} (hP : p_ok P) (hQ : g_is G P) (hk9 : h_ok P A) (hb : x_bk M m (stT m o P A hx z)) (hp : x_bk M q (pmT q G)) (ho : x_bk M o [.inr (11, mdF th sz ea tk dp tp kd fr mn rl me q rd t m m2)]) (hdo : o + 1 ≤ m ∨ m + 9 ≤ o) (hqo : q + 11 ≤ o ∨ o + 1 ≤ q) (hd : q + 11 ≤ m ∨ m + 9 ≤ q) {d : Nat} (hd9 : d < p_nd P) {w : Int32} (hw : ¬ A 1 d = w) : x_C l Y0 yX11_turn cX11_turn 3 (some .int) 4 0 0 [.ref o, .int (nI d), .int w] M (fun u M1 => u = some (.int 0) ∧ M1 = x_ov M o [.inr (11, mdF 2 sz ea tk dp tp kd fr mn rl me q rd t m m2)]) := by
  refine x_start hO (by decide +kernel) (Nat.le_of_ble_eq_true rfl) (fun K C E => ?_)
  have hP0 := hP
  have hQ0 := hQ
  obtain ⟨h8, h6, h16, hnp, hwho, hvb, hts⟩ := hP
  obtain ⟨hq0, hq1, hq2, hq3, hq4, hq5, hq6⟩ := hQ
  have hbF : ∀ L : List x_E, L.length = 1 → x_bk (x_ov M o L) m (stT m o P A hx z) := fun L h => x_ov_far 1 hb h hdo.symm
  have hpF : ∀ L : List x_E, L.length = 1 → x_bk (x_ov M o L) q (pmT q G) := fun L h => x_ov_far 1 hp h hqo
  have hoG : ∀ Lo L2 : List x_E, Lo.length = 1 → L2.length = 9 → x_bk (x_ov (x_ov M o Lo) m L2) o Lo := fun Lo L2 h1 h2 => x_ov_far 9 x_ov_bk h2 (by rw [h1]; exact hdo)
  have hpG : ∀ Lo L2 : List x_E, Lo.length = 1 → L2.length = 9 → x_bk (x_ov (x_ov M o Lo) m L2) q (pmT q G) := fun Lo L2 h1 h2 => x_ov_far 9 (x_ov_far 1 hp h1 hqo) h2 hd
  refine x_to (x_ov_self ho).symm ?_
  have hv := h_inR_t hd9 (by omega)
  refine x_aload_n C dX11_turn_0 rfl rfl ?_
  refine x_aload_n C dX11_turn_1 rfl rfl ?_
  refine x_iload_n C dX11_turn_2 rfl rfl ?_
  refine x_callV1 C dX11_turn_3 kX11_301 (c_X11_isDrone hO hP0 hQ0 hk9 (hbF _ rfl) (hpF _ rfl) x_ov_bk) (x_ovg 0 rfl) rfl (by decide) ⟨Nat.zero_le _, Nat.zero_le _⟩ (Nat.le_of_ble_eq_true rfl) ?_
  rintro _ _ ⟨rfl, rfl⟩
  rw [hv]
  refine x_callV1 C dX11_turn_6 kX11_304 (c_X11_isKnown hO x_ov_bk) (x_ovg 0 rfl) rfl (by decide) ⟨Nat.zero_le _, Nat.zero_le _⟩ (Nat.le_of_ble_eq_true rfl) ?_
  rintro _ _ ⟨rfl, rfl⟩
  refine x_to (x_ov_ov rfl) ?_
  refine x_if_ne (tgt := 14) C dX11_turn_9 (by decide) (fun c9 => ?_) (fun c9 => absurd c9 (show ¬ h_b true = 0 by decide))
  refine x_aload_n C dX11_turn_14 rfl rfl ?_
  refine x_getfield C dX11_turn_15 fX11_50 (x_ovg 0 rfl) rfl ?_
  refine x_getfield C dX11_turn_18 fX11_297 ((hbF _ rfl) 0 _ rfl) rfl ?_
  refine x_iload_n C dX11_turn_21 rfl rfl ?_
  refine x_baload C dX11_turn_22 ((hbF _ rfl) 4 _ rfl) (vp_in_nI (show d < 9 by omega) (by decide)) ?_
  rw [nI_clamp (show d < 2 ^ 31 by omega)]
  refine x_iload_n C dX11_turn_23 rfl rfl ?_
  refine x_icmp_eq (tgt := 33) C dX11_turn_24 (by decide) (fun c24 => absurd c24 hw) (fun c24 => ?_)
  refine x_aload_n C dX11_turn_27 rfl rfl ?_
  refine x_iconst (v := 2) C dX11_turn_28 (by decide) ?_
  refine x_callV1 C dX11_turn_29 kX11_276 (c_X11_no hO x_ov_bk) (x_ovg 0 rfl) rfl (by decide) ⟨Nat.zero_le _, Nat.zero_le _⟩ (Nat.le_of_ble_eq_true rfl) ?_
  rintro _ _ ⟨rfl, rfl⟩
  refine x_to (x_ov_ov rfl) ?_
  refine x_iret C E dX11_turn_32 ?_
  exact ⟨rfl, rfl⟩
set_option maxHeartbeats 4000000 in
set_option maxRecDepth 100000 in
theorem c_X11_turnN {l : Launch} {Y0 : x_Y} (hO : x_Ok Y0) {M : x_M} {m o q : Nat} {P : PL} {A : HS} {hx : Nat → Int32} {z : Int32} {G : HS} {th sz ea tk dp : Int32} {tp kd fr mn rl me rd t m2 : Nat} (hP : p_ok P) (hQ : g_is G P) (hk9 : h_ok P A) (hb : x_bk M m (stT m o P A hx z)) (hp : x_bk M q (pmT q G)) (ho : x_bk M o [.inr (11, mdF th sz ea tk dp tp kd fr mn rl me q rd t m m2)]) (hdo : o + 1 ≤ m ∨ m + 9 ≤ o) (hqo : q + 11 ≤ o ∨ o + 1 ≤ q) (hd : q + 11 ≤ m ∨ m + 9 ≤ q) {x w : Int32} (hv : h_inR x (p_nd P) = false) : x_C l Y0 yX11_turn cX11_turn 3 (some .int) 4 0 0 [.ref o, .int x, .int w] M (fun u M1 => u = some (.int 0) ∧ M1 = x_ov M o [.inr (11, mdF 1 sz ea tk dp tp kd fr mn rl me q rd t m m2)]) := by
  refine x_start hO (by decide +kernel) (Nat.le_of_ble_eq_true rfl) (fun K C E => ?_)
  have hP0 := hP
  have hQ0 := hQ
  obtain ⟨h8, h6, h16, hnp, hwho, hvb, hts⟩ := hP
  obtain ⟨hq0, hq1, hq2, hq3, hq4, hq5, hq6⟩ := hQ
  have hbF : ∀ L : List x_E, L.length = 1 → x_bk (x_ov M o L) m (stT m o P A hx z) := fun L h => x_ov_far 1 hb h hdo.symm
  have hpF : ∀ L : List x_E, L.length = 1 → x_bk (x_ov M o L) q (pmT q G) := fun L h => x_ov_far 1 hp h hqo
  have hoG : ∀ Lo L2 : List x_E, Lo.length = 1 → L2.length = 9 → x_bk (x_ov (x_ov M o Lo) m L2) o Lo := fun Lo L2 h1 h2 => x_ov_far 9 x_ov_bk h2 (by rw [h1]; exact hdo)
  have hpG : ∀ Lo L2 : List x_E, Lo.length = 1 → L2.length = 9 → x_bk (x_ov (x_ov M o Lo) m L2) q (pmT q G) := fun Lo L2 h1 h2 => x_ov_far 9 (x_ov_far 1 hp h1 hqo) h2 hd
  refine x_to (x_ov_self ho).symm ?_
  refine x_aload_n C dX11_turn_0 rfl rfl ?_
  refine x_aload_n C dX11_turn_1 rfl rfl ?_
  refine x_iload_n C dX11_turn_2 rfl rfl ?_
  refine x_callV1 C dX11_turn_3 kX11_301 (c_X11_isDrone hO hP0 hQ0 hk9 (hbF _ rfl) (hpF _ rfl) x_ov_bk) (x_ovg 0 rfl) rfl (by decide) ⟨Nat.zero_le _, Nat.zero_le _⟩ (Nat.le_of_ble_eq_true rfl) ?_
  rintro _ _ ⟨rfl, rfl⟩
  rw [hv]
  refine x_callV1 C dX11_turn_6 kX11_304 (c_X11_isKnown hO x_ov_bk) (x_ovg 0 rfl) rfl (by decide) ⟨Nat.zero_le _, Nat.zero_le _⟩ (Nat.le_of_ble_eq_true rfl) ?_
  rintro _ _ ⟨rfl, rfl⟩
  refine x_to (x_ov_ov rfl) ?_
  refine x_if_ne (tgt := 14) C dX11_turn_9 (by decide) (fun c9 => absurd c9 (show ¬ ¬ h_b false = 0 by decide)) (fun c9 => ?_)
  refine x_iconst (v := 0) C dX11_turn_12 (by decide) ?_
  refine x_iret C E dX11_turn_13 ?_
  exact ⟨rfl, rfl⟩
set_option maxHeartbeats 4000000 in
set_option maxRecDepth 100000 in
theorem c_X11_crash {l : Launch} {Y0 : x_Y} (hO : x_Ok Y0) {M : x_M} {m o q : Nat} {P : PL} {A : HS} {hx : Nat → Int32} {z : Int32} {G : HS} {th sz ea tk dp : Int32} {tp kd fr mn rl me rd t m2 : Nat} (hP : p_ok P) (hQ : g_is G P) (hk9 : h_ok P A) (hb : x_bk M m (stT m o P A hx z)) (hp : x_bk M q (pmT q G)) (ho : x_bk M o [.inr (11, mdF th sz ea tk dp tp kd fr mn rl me q rd t m m2)]) (hdo : o + 1 ≤ m ∨ m + 9 ≤ o) (hqo : q + 11 ≤ o ∨ o + 1 ≤ q) (hd : q + 11 ≤ m ∨ m + 9 ≤ q) {d : Nat} (hd9 : d < p_nd P) (hw : A 1 d = 0) : x_C l Y0 yX11_crash cX11_crash 2 (some .int) 5 0 0 [.ref o, .int (nI d)] M (fun u M1 => u = some (.int (h_awake P (if A 1 d = 0 then h_u A 1 d 1 else h_wake P A d))) ∧ M1 = x_ov (x_ov M o [.inr (11, mdF 0 sz ea tk dp tp kd fr mn rl me q rd t m m2)]) m (stT m o P ((if A 1 d = 0 then h_u A 1 d 1 else h_wake P A d)) hx z)) := by
  refine x_start hO (by decide +kernel) (Nat.le_of_ble_eq_true rfl) (fun K C E => ?_)
  refine x_aload_n C dX11_crash_0 rfl rfl ?_
  refine x_iload_n C dX11_crash_1 rfl rfl ?_
  refine x_iconst (v := 0) C dX11_crash_2 (by decide) ?_
  refine x_callV2 C dX11_crash_3 kX11_351 (c_X11_turn hO hP hQ hk9 hb hp ho hdo hqo hd hd9 hw) (ho 0 _ rfl) rfl (by decide) ⟨Nat.zero_le _, Nat.zero_le _⟩ (Nat.le_of_ble_eq_true rfl) ?_
  rintro _ _ ⟨rfl, rfl⟩
  refine x_iret C E dX11_crash_6 ?_
  exact ⟨rfl, rfl⟩
set_option maxHeartbeats 4000000 in
set_option maxRecDepth 100000 in
theorem c_X11_crashE {l : Launch} {Y0 : x_Y} (hO : x_Ok Y0) {M : x_M} {m o q : Nat} {P : PL} {A : HS} {hx : Nat → Int32} {z : Int32} {G : HS} {th sz ea tk dp : Int32} {tp kd fr mn rl me rd t m2 : Nat} (hP : p_ok P) (hQ : g_is G P) (hk9 : h_ok P A) (hb : x_bk M m (stT m o P A hx z)) (hp : x_bk M q (pmT q G)) (ho : x_bk M o [.inr (11, mdF th sz ea tk dp tp kd fr mn rl me q rd t m m2)]) (hdo : o + 1 ≤ m ∨ m + 9 ≤ o) (hqo : q + 11 ≤ o ∨ o + 1 ≤ q) (hd : q + 11 ≤ m ∨ m + 9 ≤ q) {d : Nat} (hd9 : d < p_nd P) (hw : ¬ A 1 d = 0) : x_C l Y0 yX11_crash cX11_crash 2 (some .int) 5 0 0 [.ref o, .int (nI d)] M (fun u M1 => u = some (.int 0) ∧ M1 = x_ov M o [.inr (11, mdF 2 sz ea tk dp tp kd fr mn rl me q rd t m m2)]) := by
  refine x_start hO (by decide +kernel) (Nat.le_of_ble_eq_true rfl) (fun K C E => ?_)
  refine x_aload_n C dX11_crash_0 rfl rfl ?_
  refine x_iload_n C dX11_crash_1 rfl rfl ?_
  refine x_iconst (v := 0) C dX11_crash_2 (by decide) ?_
  refine x_callV2 C dX11_crash_3 kX11_351 (c_X11_turnE hO hP hQ hk9 hb hp ho hdo hqo hd hd9 hw) (ho 0 _ rfl) rfl (by decide) ⟨Nat.zero_le _, Nat.zero_le _⟩ (Nat.le_of_ble_eq_true rfl) ?_
  rintro _ _ ⟨rfl, rfl⟩
  refine x_iret C E dX11_crash_6 ?_
  exact ⟨rfl, rfl⟩
set_option maxHeartbeats 4000000 in
set_option maxRecDepth 100000 in
theorem c_X11_crashN {l : Launch} {Y0 : x_Y} (hO : x_Ok Y0) {M : x_M} {m o q : Nat} {P : PL} {A : HS} {hx : Nat → Int32} {z : Int32} {G : HS} {th sz ea tk dp : Int32} {tp kd fr mn rl me rd t m2 : Nat} (hP : p_ok P) (hQ : g_is G P) (hk9 : h_ok P A) (hb : x_bk M m (stT m o P A hx z)) (hp : x_bk M q (pmT q G)) (ho : x_bk M o [.inr (11, mdF th sz ea tk dp tp kd fr mn rl me q rd t m m2)]) (hdo : o + 1 ≤ m ∨ m + 9 ≤ o) (hqo : q + 11 ≤ o ∨ o + 1 ≤ q) (hd : q + 11 ≤ m ∨ m + 9 ≤ q) {x : Int32} (hv : h_inR x (p_nd P) = false) : x_C l Y0 yX11_crash cX11_crash 2 (some .int) 5 0 0 [.ref o, .int x] M (fun u M1 => u = some (.int 0) ∧ M1 = x_ov M o [.inr (11, mdF 1 sz ea tk dp tp kd fr mn rl me q rd t m m2)]) := by
  refine x_start hO (by decide +kernel) (Nat.le_of_ble_eq_true rfl) (fun K C E => ?_)
  refine x_aload_n C dX11_crash_0 rfl rfl ?_
  refine x_iload_n C dX11_crash_1 rfl rfl ?_
  refine x_iconst (v := 0) C dX11_crash_2 (by decide) ?_
  refine x_callV2 C dX11_crash_3 kX11_351 (c_X11_turnN hO hP hQ hk9 hb hp ho hdo hqo hd hv) (ho 0 _ rfl) rfl (by decide) ⟨Nat.zero_le _, Nat.zero_le _⟩ (Nat.le_of_ble_eq_true rfl) ?_
  rintro _ _ ⟨rfl, rfl⟩
  refine x_iret C E dX11_crash_6 ?_
  exact ⟨rfl, rfl⟩
set_option maxHeartbeats 4000000 in
set_option maxRecDepth 100000 in
theorem c_X11_wake {l : Launch} {Y0 : x_Y} (hO : x_Ok Y0) {M : x_M} {m o q : Nat} {P : PL} {A : HS} {hx : Nat → Int32} {z : Int32} {G : HS} {th sz ea tk dp : Int32} {tp kd fr mn rl me rd t m2 : Nat} (hP : p_ok P) (hQ : g_is G P) (hk9 : h_ok P A) (hb : x_bk M m (stT m o P A hx z)) (hp : x_bk M q (pmT q G)) (ho : x_bk M o [.inr (11, mdF th sz ea tk dp tp kd fr mn rl me q rd t m m2)]) (hdo : o + 1 ≤ m ∨ m + 9 ≤ o) (hqo : q + 11 ≤ o ∨ o + 1 ≤ q) (hd : q + 11 ≤ m ∨ m + 9 ≤ q) {d : Nat} (hd9 : d < p_nd P) (hw : A 1 d = 1) : x_C l Y0 yX11_wake cX11_wake 2 (some .int) 5 0 0 [.ref o, .int (nI d)] M (fun u M1 => u = some (.int (h_awake P (if A 1 d = 0 then h_u A 1 d 1 else h_wake P A d))) ∧ M1 = x_ov (x_ov M o [.inr (11, mdF 0 sz ea tk dp tp kd fr mn rl me q rd t m m2)]) m (stT m o P ((if A 1 d = 0 then h_u A 1 d 1 else h_wake P A d)) hx z)) := by
  refine x_start hO (by decide +kernel) (Nat.le_of_ble_eq_true rfl) (fun K C E => ?_)
  refine x_aload_n C dX11_wake_0 rfl rfl ?_
  refine x_iload_n C dX11_wake_1 rfl rfl ?_
  refine x_iconst (v := 1) C dX11_wake_2 (by decide) ?_
  refine x_callV2 C dX11_wake_3 kX11_351 (c_X11_turn hO hP hQ hk9 hb hp ho hdo hqo hd hd9 hw) (ho 0 _ rfl) rfl (by decide) ⟨Nat.zero_le _, Nat.zero_le _⟩ (Nat.le_of_ble_eq_true rfl) ?_
  rintro _ _ ⟨rfl, rfl⟩
  refine x_iret C E dX11_wake_6 ?_
  exact ⟨rfl, rfl⟩
set_option maxHeartbeats 4000000 in
set_option maxRecDepth 100000 in
theorem c_X11_wakeE {l : Launch} {Y0 : x_Y} (hO : x_Ok Y0) {M : x_M} {m o q : Nat} {P : PL} {A : HS} {hx : Nat → Int32} {z : Int32} {G : HS} {th sz ea tk dp : Int32} {tp kd fr mn rl me rd t m2 : Nat} (hP : p_ok P) (hQ : g_is G P) (hk9 : h_ok P A) (hb : x_bk M m (stT m o P A hx z)) (hp : x_bk M q (pmT q G)) (ho : x_bk M o [.inr (11, mdF th sz ea tk dp tp kd fr mn rl me q rd t m m2)]) (hdo : o + 1 ≤ m ∨ m + 9 ≤ o) (hqo : q + 11 ≤ o ∨ o + 1 ≤ q) (hd : q + 11 ≤ m ∨ m + 9 ≤ q) {d : Nat} (hd9 : d < p_nd P) (hw : ¬ A 1 d = 1) : x_C l Y0 yX11_wake cX11_wake 2 (some .int) 5 0 0 [.ref o, .int (nI d)] M (fun u M1 => u = some (.int 0) ∧ M1 = x_ov M o [.inr (11, mdF 2 sz ea tk dp tp kd fr mn rl me q rd t m m2)]) := by
  refine x_start hO (by decide +kernel) (Nat.le_of_ble_eq_true rfl) (fun K C E => ?_)
  refine x_aload_n C dX11_wake_0 rfl rfl ?_
  refine x_iload_n C dX11_wake_1 rfl rfl ?_
  refine x_iconst (v := 1) C dX11_wake_2 (by decide) ?_
  refine x_callV2 C dX11_wake_3 kX11_351 (c_X11_turnE hO hP hQ hk9 hb hp ho hdo hqo hd hd9 hw) (ho 0 _ rfl) rfl (by decide) ⟨Nat.zero_le _, Nat.zero_le _⟩ (Nat.le_of_ble_eq_true rfl) ?_
  rintro _ _ ⟨rfl, rfl⟩
  refine x_iret C E dX11_wake_6 ?_
  exact ⟨rfl, rfl⟩
set_option maxHeartbeats 4000000 in
set_option maxRecDepth 100000 in
theorem c_X11_wakeN {l : Launch} {Y0 : x_Y} (hO : x_Ok Y0) {M : x_M} {m o q : Nat} {P : PL} {A : HS} {hx : Nat → Int32} {z : Int32} {G : HS} {th sz ea tk dp : Int32} {tp kd fr mn rl me rd t m2 : Nat} (hP : p_ok P) (hQ : g_is G P) (hk9 : h_ok P A) (hb : x_bk M m (stT m o P A hx z)) (hp : x_bk M q (pmT q G)) (ho : x_bk M o [.inr (11, mdF th sz ea tk dp tp kd fr mn rl me q rd t m m2)]) (hdo : o + 1 ≤ m ∨ m + 9 ≤ o) (hqo : q + 11 ≤ o ∨ o + 1 ≤ q) (hd : q + 11 ≤ m ∨ m + 9 ≤ q) {x : Int32} (hv : h_inR x (p_nd P) = false) : x_C l Y0 yX11_wake cX11_wake 2 (some .int) 5 0 0 [.ref o, .int x] M (fun u M1 => u = some (.int 0) ∧ M1 = x_ov M o [.inr (11, mdF 1 sz ea tk dp tp kd fr mn rl me q rd t m m2)]) := by
  refine x_start hO (by decide +kernel) (Nat.le_of_ble_eq_true rfl) (fun K C E => ?_)
  refine x_aload_n C dX11_wake_0 rfl rfl ?_
  refine x_iload_n C dX11_wake_1 rfl rfl ?_
  refine x_iconst (v := 1) C dX11_wake_2 (by decide) ?_
  refine x_callV2 C dX11_wake_3 kX11_351 (c_X11_turnN hO hP hQ hk9 hb hp ho hdo hqo hd hv) (ho 0 _ rfl) rfl (by decide) ⟨Nat.zero_le _, Nat.zero_le _⟩ (Nat.le_of_ble_eq_true rfl) ?_
  rintro _ _ ⟨rfl, rfl⟩
  refine x_iret C E dX11_wake_6 ?_
  exact ⟨rfl, rfl⟩
set_option maxHeartbeats 4000000 in
set_option maxRecDepth 100000 in
theorem c_X11_crashQueen {l : Launch} {Y0 : x_Y} (hO : x_Ok Y0) {M : x_M} {m o q : Nat} {P : PL} {A : HS} {hx : Nat → Int32} {z : Int32} {G : HS} {th sz ea tk dp : Int32} {tp kd fr mn rl me rd t m2 : Nat} (hP : p_ok P) (hQ : g_is G P) (hk9 : h_ok P A) (hb : x_bk M m (stT m o P A hx z)) (hp : x_bk M q (pmT q G)) (ho : x_bk M o [.inr (11, mdF th sz ea tk dp tp kd fr mn rl me q rd t m m2)]) (hdo : o + 1 ≤ m ∨ m + 9 ≤ o) (hqo : q + 11 ≤ o ∨ o + 1 ≤ q) (hd : q + 11 ≤ m ∨ m + 9 ≤ q) (hw : A 1 8 = 0) : x_C l Y0 yX11_crashQueen cX11_crashQueen 1 (some .int) 4 0 0 [.ref o] M (fun u M1 => u = some (.int (h_begun P (h_u A 1 8 1))) ∧ M1 = x_ov (x_ov M o [.inr (11, mdF 0 sz ea tk dp tp kd fr mn rl me q rd t m m2)]) m (stT m o P (h_u A 1 8 1) hx z)) := by
  refine x_start hO (by decide +kernel) (Nat.le_of_ble_eq_true rfl) (fun K C E => ?_)
  have hP0 := hP
  have hQ0 := hQ
  obtain ⟨h8, h6, h16, hnp, hwho, hvb, hts⟩ := hP
  obtain ⟨hq0, hq1, hq2, hq3, hq4, hq5, hq6⟩ := hQ
  have hbF : ∀ L : List x_E, L.length = 1 → x_bk (x_ov M o L) m (stT m o P A hx z) := fun L h => x_ov_far 1 hb h hdo.symm
  have hpF : ∀ L : List x_E, L.length = 1 → x_bk (x_ov M o L) q (pmT q G) := fun L h => x_ov_far 1 hp h hqo
  have hoG : ∀ Lo L2 : List x_E, Lo.length = 1 → L2.length = 9 → x_bk (x_ov (x_ov M o Lo) m L2) o Lo := fun Lo L2 h1 h2 => x_ov_far 9 x_ov_bk h2 (by rw [h1]; exact hdo)
  have hpG : ∀ Lo L2 : List x_E, Lo.length = 1 → L2.length = 9 → x_bk (x_ov (x_ov M o Lo) m L2) q (pmT q G) := fun Lo L2 h1 h2 => x_ov_far 9 (x_ov_far 1 hp h1 hqo) h2 hd
  refine x_to (x_ov_self ho).symm ?_
  have hkB : h_ok P (h_u A 1 8 1) := h_ok_1 hk9 (Or.inr rfl)
  refine x_aload_n C dX11_crashQueen_0 rfl rfl ?_
  refine x_iconst (v := 0) C dX11_crashQueen_1 (by decide) ?_
  refine x_putfield C dX11_crashQueen_2 fX11_60 (x_ovg 0 rfl) rfl rfl (Nat.le_of_ble_eq_true rfl) ?_
  refine x_to (x_st_ov 0 (Nat.le_of_ble_eq_true rfl)) ?_
  refine x_aload_n C dX11_crashQueen_5 rfl rfl ?_
  refine x_getfield C dX11_crashQueen_6 fX11_50 (x_ovg 0 rfl) rfl ?_
  refine x_getfield C dX11_crashQueen_9 fX11_297 ((hbF _ rfl) 0 _ rfl) rfl ?_
  refine x_bipush (v := 8) C dX11_crashQueen_12 (by decide) ?_
  refine x_baload C dX11_crashQueen_14 ((hbF _ rfl) 4 _ rfl) (vp_in_nI (show 8 < 9 by decide) (by decide)) ?_
  rw [show (8 : Int32).toNatClampNeg = 8 from rfl]
  refine x_if_eq (tgt := 24) C dX11_crashQueen_15 (by decide) (fun c15 => ?_) (fun c15 => absurd hw c15)
  refine x_aload_n C dX11_crashQueen_24 rfl rfl ?_
  refine x_getfield C dX11_crashQueen_25 fX11_50 (x_ovg 0 rfl) rfl ?_
  refine x_bipush (v := 8) C dX11_crashQueen_28 (by decide) ?_
  refine x_callV1 C dX11_crashQueen_30 kX11_345 (c_X10_turn (d := 8) hO hP0 hQ0 hk9 (hbF _ rfl) (hpF _ rfl) x_ov_bk rfl hd hdo (Or.inr rfl)) ((hbF _ rfl) 0 _ rfl) rfl (by decide) ⟨Nat.zero_le _, Nat.zero_le _⟩ (Nat.le_of_ble_eq_true rfl) ?_
  rintro _ _ ⟨rfl, rfl⟩
  rw [if_pos hw, if_pos hw]
  refine x_pop C dX11_crashQueen_33 rfl ?_
  refine x_aload_n C dX11_crashQueen_34 rfl rfl ?_
  refine x_getfield C dX11_crashQueen_35 fX11_50 ((hoG _ _ rfl rfl) 0 _ rfl) rfl ?_
  refine x_callV0 C dX11_crashQueen_38 kX11_342 (c_X10_manyBegun hO hP0 hQ0 hkB x_ov_bk (hpG _ _ rfl rfl) (hoG _ _ rfl rfl) rfl) (x_ovg 0 rfl) rfl (by decide) ⟨Nat.zero_le _, Nat.zero_le _⟩ (Nat.le_of_ble_eq_true rfl) ?_
  rintro _ _ ⟨rfl, rfl⟩
  refine x_iret C E dX11_crashQueen_41 ?_
  exact ⟨rfl, rfl⟩
set_option maxHeartbeats 4000000 in
set_option maxRecDepth 100000 in
theorem c_X11_crashQueenE {l : Launch} {Y0 : x_Y} (hO : x_Ok Y0) {M : x_M} {m o q : Nat} {P : PL} {A : HS} {hx : Nat → Int32} {z : Int32} {G : HS} {th sz ea tk dp : Int32} {tp kd fr mn rl me rd t m2 : Nat} (hP : p_ok P) (hQ : g_is G P) (hk9 : h_ok P A) (hb : x_bk M m (stT m o P A hx z)) (hp : x_bk M q (pmT q G)) (ho : x_bk M o [.inr (11, mdF th sz ea tk dp tp kd fr mn rl me q rd t m m2)]) (hdo : o + 1 ≤ m ∨ m + 9 ≤ o) (hqo : q + 11 ≤ o ∨ o + 1 ≤ q) (hd : q + 11 ≤ m ∨ m + 9 ≤ q) (hw : ¬ A 1 8 = 0) : x_C l Y0 yX11_crashQueen cX11_crashQueen 1 (some .int) 4 0 0 [.ref o] M (fun u M1 => u = some (.int 0) ∧ M1 = x_ov M o [.inr (11, mdF 1 sz ea tk dp tp kd fr mn rl me q rd t m m2)]) := by
  refine x_start hO (by decide +kernel) (Nat.le_of_ble_eq_true rfl) (fun K C E => ?_)
  have hP0 := hP
  have hQ0 := hQ
  obtain ⟨h8, h6, h16, hnp, hwho, hvb, hts⟩ := hP
  obtain ⟨hq0, hq1, hq2, hq3, hq4, hq5, hq6⟩ := hQ
  have hbF : ∀ L : List x_E, L.length = 1 → x_bk (x_ov M o L) m (stT m o P A hx z) := fun L h => x_ov_far 1 hb h hdo.symm
  have hpF : ∀ L : List x_E, L.length = 1 → x_bk (x_ov M o L) q (pmT q G) := fun L h => x_ov_far 1 hp h hqo
  have hoG : ∀ Lo L2 : List x_E, Lo.length = 1 → L2.length = 9 → x_bk (x_ov (x_ov M o Lo) m L2) o Lo := fun Lo L2 h1 h2 => x_ov_far 9 x_ov_bk h2 (by rw [h1]; exact hdo)
  have hpG : ∀ Lo L2 : List x_E, Lo.length = 1 → L2.length = 9 → x_bk (x_ov (x_ov M o Lo) m L2) q (pmT q G) := fun Lo L2 h1 h2 => x_ov_far 9 (x_ov_far 1 hp h1 hqo) h2 hd
  refine x_to (x_ov_self ho).symm ?_
  refine x_aload_n C dX11_crashQueen_0 rfl rfl ?_
  refine x_iconst (v := 0) C dX11_crashQueen_1 (by decide) ?_
  refine x_putfield C dX11_crashQueen_2 fX11_60 (x_ovg 0 rfl) rfl rfl (Nat.le_of_ble_eq_true rfl) ?_
  refine x_to (x_st_ov 0 (Nat.le_of_ble_eq_true rfl)) ?_
  refine x_aload_n C dX11_crashQueen_5 rfl rfl ?_
  refine x_getfield C dX11_crashQueen_6 fX11_50 (x_ovg 0 rfl) rfl ?_
  refine x_getfield C dX11_crashQueen_9 fX11_297 ((hbF _ rfl) 0 _ rfl) rfl ?_
  refine x_bipush (v := 8) C dX11_crashQueen_12 (by decide) ?_
  refine x_baload C dX11_crashQueen_14 ((hbF _ rfl) 4 _ rfl) (vp_in_nI (show 8 < 9 by decide) (by decide)) ?_
  rw [show (8 : Int32).toNatClampNeg = 8 from rfl]
  refine x_if_eq (tgt := 24) C dX11_crashQueen_15 (by decide) (fun c15 => absurd c15 hw) (fun c15 => ?_)
  refine x_aload_n C dX11_crashQueen_18 rfl rfl ?_
  refine x_iconst (v := 1) C dX11_crashQueen_19 (by decide) ?_
  refine x_callV1 C dX11_crashQueen_20 kX11_276 (c_X11_no hO x_ov_bk) (x_ovg 0 rfl) rfl (by decide) ⟨Nat.zero_le _, Nat.zero_le _⟩ (Nat.le_of_ble_eq_true rfl) ?_
  rintro _ _ ⟨rfl, rfl⟩
  refine x_to (x_ov_ov rfl) ?_
  refine x_iret C E dX11_crashQueen_23 ?_
  exact ⟨rfl, rfl⟩
set_option maxHeartbeats 4000000 in
set_option maxRecDepth 100000 in
theorem c_X11_wakeQueen {l : Launch} {Y0 : x_Y} (hO : x_Ok Y0) {M : x_M} {m o q : Nat} {P : PL} {A : HS} {hx : Nat → Int32} {z : Int32} {G : HS} {th sz ea tk dp : Int32} {tp kd fr mn rl me rd t m2 : Nat} (hP : p_ok P) (hQ : g_is G P) (hk9 : h_ok P A) (hb : x_bk M m (stT m o P A hx z)) (hp : x_bk M q (pmT q G)) (ho : x_bk M o [.inr (11, mdF th sz ea tk dp tp kd fr mn rl me q rd t m m2)]) (hdo : o + 1 ≤ m ∨ m + 9 ≤ o) (hqo : q + 11 ≤ o ∨ o + 1 ≤ q) (hd : q + 11 ≤ m ∨ m + 9 ≤ q) (hw : ¬ A 1 8 = 0) : x_C l Y0 yX11_wakeQueen cX11_wakeQueen 1 (some .int) 4 0 0 [.ref o] M (fun u M1 => u = some (.int (h_begun P A)) ∧ M1 = x_ov (x_ov M o [.inr (11, mdF 0 sz ea tk dp tp kd fr mn rl me q rd t m m2)]) m (stT m o P (h_refuse P (h_u A 1 8 0)) hx z)) := by
  refine x_start hO (by decide +kernel) (Nat.le_of_ble_eq_true rfl) (fun K C E => ?_)
  have hP0 := hP
  have hQ0 := hQ
  obtain ⟨h8, h6, h16, hnp, hwho, hvb, hts⟩ := hP
  obtain ⟨hq0, hq1, hq2, hq3, hq4, hq5, hq6⟩ := hQ
  have hbF : ∀ L : List x_E, L.length = 1 → x_bk (x_ov M o L) m (stT m o P A hx z) := fun L h => x_ov_far 1 hb h hdo.symm
  have hpF : ∀ L : List x_E, L.length = 1 → x_bk (x_ov M o L) q (pmT q G) := fun L h => x_ov_far 1 hp h hqo
  have hoG : ∀ Lo L2 : List x_E, Lo.length = 1 → L2.length = 9 → x_bk (x_ov (x_ov M o Lo) m L2) o Lo := fun Lo L2 h1 h2 => x_ov_far 9 x_ov_bk h2 (by rw [h1]; exact hdo)
  have hpG : ∀ Lo L2 : List x_E, Lo.length = 1 → L2.length = 9 → x_bk (x_ov (x_ov M o Lo) m L2) q (pmT q G) := fun Lo L2 h1 h2 => x_ov_far 9 (x_ov_far 1 hp h1 hqo) h2 hd
  refine x_to (x_ov_self ho).symm ?_
  refine x_aload_n C dX11_wakeQueen_0 rfl rfl ?_
  refine x_iconst (v := 0) C dX11_wakeQueen_1 (by decide) ?_
  refine x_putfield C dX11_wakeQueen_2 fX11_60 (x_ovg 0 rfl) rfl rfl (Nat.le_of_ble_eq_true rfl) ?_
  refine x_to (x_st_ov 0 (Nat.le_of_ble_eq_true rfl)) ?_
  refine x_aload_n C dX11_wakeQueen_5 rfl rfl ?_
  refine x_getfield C dX11_wakeQueen_6 fX11_50 (x_ovg 0 rfl) rfl ?_
  refine x_getfield C dX11_wakeQueen_9 fX11_297 ((hbF _ rfl) 0 _ rfl) rfl ?_
  refine x_bipush (v := 8) C dX11_wakeQueen_12 (by decide) ?_
  refine x_baload C dX11_wakeQueen_14 ((hbF _ rfl) 4 _ rfl) (vp_in_nI (show 8 < 9 by decide) (by decide)) ?_
  rw [show (8 : Int32).toNatClampNeg = 8 from rfl]
  refine x_if_eq (tgt := 30) C dX11_wakeQueen_15 (by decide) (fun c15 => absurd c15 hw) (fun c15 => ?_)
  refine x_aload_n C dX11_wakeQueen_18 rfl rfl ?_
  refine x_getfield C dX11_wakeQueen_19 fX11_50 (x_ovg 0 rfl) rfl ?_
  refine x_bipush (v := 8) C dX11_wakeQueen_22 (by decide) ?_
  refine x_callV1 C dX11_wakeQueen_24 kX11_345 (c_X10_turn (d := 8) hO hP0 hQ0 hk9 (hbF _ rfl) (hpF _ rfl) x_ov_bk rfl hd hdo (Or.inr rfl)) ((hbF _ rfl) 0 _ rfl) rfl (by decide) ⟨Nat.zero_le _, Nat.zero_le _⟩ (Nat.le_of_ble_eq_true rfl) ?_
  rintro _ _ ⟨rfl, rfl⟩
  rw [if_neg hw, if_neg hw, if_pos rfl]
  refine x_goto (tgt := 35) C dX11_wakeQueen_27 (by decide) ?_
  refine x_iret C E dX11_wakeQueen_35 ?_
  exact ⟨rfl, rfl⟩
set_option maxHeartbeats 4000000 in
set_option maxRecDepth 100000 in
theorem c_X11_wakeQueenE {l : Launch} {Y0 : x_Y} (hO : x_Ok Y0) {M : x_M} {m o q : Nat} {P : PL} {A : HS} {hx : Nat → Int32} {z : Int32} {G : HS} {th sz ea tk dp : Int32} {tp kd fr mn rl me rd t m2 : Nat} (hP : p_ok P) (hQ : g_is G P) (hk9 : h_ok P A) (hb : x_bk M m (stT m o P A hx z)) (hp : x_bk M q (pmT q G)) (ho : x_bk M o [.inr (11, mdF th sz ea tk dp tp kd fr mn rl me q rd t m m2)]) (hdo : o + 1 ≤ m ∨ m + 9 ≤ o) (hqo : q + 11 ≤ o ∨ o + 1 ≤ q) (hd : q + 11 ≤ m ∨ m + 9 ≤ q) (hw : A 1 8 = 0) : x_C l Y0 yX11_wakeQueen cX11_wakeQueen 1 (some .int) 4 0 0 [.ref o] M (fun u M1 => u = some (.int 0) ∧ M1 = x_ov M o [.inr (11, mdF 1 sz ea tk dp tp kd fr mn rl me q rd t m m2)]) := by
  refine x_start hO (by decide +kernel) (Nat.le_of_ble_eq_true rfl) (fun K C E => ?_)
  have hP0 := hP
  have hQ0 := hQ
  obtain ⟨h8, h6, h16, hnp, hwho, hvb, hts⟩ := hP
  obtain ⟨hq0, hq1, hq2, hq3, hq4, hq5, hq6⟩ := hQ
  have hbF : ∀ L : List x_E, L.length = 1 → x_bk (x_ov M o L) m (stT m o P A hx z) := fun L h => x_ov_far 1 hb h hdo.symm
  have hpF : ∀ L : List x_E, L.length = 1 → x_bk (x_ov M o L) q (pmT q G) := fun L h => x_ov_far 1 hp h hqo
  have hoG : ∀ Lo L2 : List x_E, Lo.length = 1 → L2.length = 9 → x_bk (x_ov (x_ov M o Lo) m L2) o Lo := fun Lo L2 h1 h2 => x_ov_far 9 x_ov_bk h2 (by rw [h1]; exact hdo)
  have hpG : ∀ Lo L2 : List x_E, Lo.length = 1 → L2.length = 9 → x_bk (x_ov (x_ov M o Lo) m L2) q (pmT q G) := fun Lo L2 h1 h2 => x_ov_far 9 (x_ov_far 1 hp h1 hqo) h2 hd
  refine x_to (x_ov_self ho).symm ?_
  refine x_aload_n C dX11_wakeQueen_0 rfl rfl ?_
  refine x_iconst (v := 0) C dX11_wakeQueen_1 (by decide) ?_
  refine x_putfield C dX11_wakeQueen_2 fX11_60 (x_ovg 0 rfl) rfl rfl (Nat.le_of_ble_eq_true rfl) ?_
  refine x_to (x_st_ov 0 (Nat.le_of_ble_eq_true rfl)) ?_
  refine x_aload_n C dX11_wakeQueen_5 rfl rfl ?_
  refine x_getfield C dX11_wakeQueen_6 fX11_50 (x_ovg 0 rfl) rfl ?_
  refine x_getfield C dX11_wakeQueen_9 fX11_297 ((hbF _ rfl) 0 _ rfl) rfl ?_
  refine x_bipush (v := 8) C dX11_wakeQueen_12 (by decide) ?_
  refine x_baload C dX11_wakeQueen_14 ((hbF _ rfl) 4 _ rfl) (vp_in_nI (show 8 < 9 by decide) (by decide)) ?_
  rw [show (8 : Int32).toNatClampNeg = 8 from rfl]
  refine x_if_eq (tgt := 30) C dX11_wakeQueen_15 (by decide) (fun c15 => ?_) (fun c15 => absurd hw c15)
  refine x_aload_n C dX11_wakeQueen_30 rfl rfl ?_
  refine x_iconst (v := 1) C dX11_wakeQueen_31 (by decide) ?_
  refine x_callV1 C dX11_wakeQueen_32 kX11_276 (c_X11_no hO x_ov_bk) (x_ovg 0 rfl) rfl (by decide) ⟨Nat.zero_le _, Nat.zero_le _⟩ (Nat.le_of_ble_eq_true rfl) ?_
  rintro _ _ ⟨rfl, rfl⟩
  refine x_to (x_ov_ov rfl) ?_
  refine x_iret C E dX11_wakeQueen_35 ?_
  exact ⟨rfl, rfl⟩
