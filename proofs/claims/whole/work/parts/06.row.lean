/-- a Row at address r: n numbers f -/
def rowL (r n : Nat) (f : Nat → Int32) : List x_E := [.inr (4, [.ref (r + 1)]), .inl (0, n, .inl f)]
theorem rw_lt {i : Int32} {n : Nat} (hn : n < 2 ^ 31) (h0 : ¬ i < 0) (h1 : ¬ Int32.ofNat n ≤ i) : vp_in i n := fun h => h.elim h0 (fun h => h1 ((x_ge_len hn h0).mpr h))
theorem rg_in {n : Nat} {f : Nat → Int32} {i : Int32} (hn : n < 2 ^ 31) (h0 : ¬ i < 0) (h1 : ¬ Int32.ofNat n ≤ i) : rg n f i = f i.toNatClampNeg := by
  unfold rg
  rw [if_neg (rw_lt hn h0 h1)]
theorem rg_neg {n : Nat} {f : Nat → Int32} {i : Int32} (h0 : i < 0) : rg n f i = 0 := by
  unfold rg
  rw [if_pos (Or.inl h0)]
theorem rg_big {n : Nat} {f : Nat → Int32} {i : Int32} (hn : n < 2 ^ 31) (h0 : ¬ i < 0) (h1 : Int32.ofNat n ≤ i) : rg n f i = 0 := by
  unfold rg
  rw [if_pos (Or.inr ((x_ge_len hn h0).mp h1))]
theorem rs_in {n : Nat} {f : Nat → Int32} {i x : Int32} (hn : n < 2 ^ 31) (h0 : ¬ i < 0) (h1 : ¬ Int32.ofNat n ≤ i) : rs n f i x = upd f i.toNatClampNeg x := by
  unfold rs
  rw [if_neg (rw_lt hn h0 h1)]
theorem rs_neg {n : Nat} {f : Nat → Int32} {i x : Int32} (h0 : i < 0) : rs n f i x = f := by
  unfold rs
  rw [if_pos (Or.inl h0)]
theorem rs_big {n : Nat} {f : Nat → Int32} {i x : Int32} (hn : n < 2 ^ 31) (h0 : ¬ i < 0) (h1 : Int32.ofNat n ≤ i) : rs n f i x = f := by
  unfold rs
  rw [if_pos (Or.inr ((x_ge_len hn h0).mp h1))]
set_option maxHeartbeats 4000000 in
set_option maxRecDepth 100000 in
theorem c_X4_get {l : Launch} {Y0 : x_Y} (hO : x_Ok Y0) {M : x_M} {r n : Nat} {f : Nat → Int32} {i : Int32} (hn : n < 2 ^ 31) (hb : x_bk M r (rowL r n f)) : x_C l Y0 yX4_get cX4_get 2 (some .int) 1 0 0 [.ref r, .int i] M (fun v M1 => v = some (.int (rg n f i)) ∧ M1 = M) := by
  refine x_start hO (by decide +kernel) (Nat.le_of_ble_eq_true rfl) (fun K C E => ?_)
  refine x_to (x_ov_self hb).symm ?_
  refine x_iload_n C dX4_get_0 rfl rfl ?_
  refine x_if_lt (tgt := 22) C dX4_get_1 (by decide) (fun c1 => ?_) (fun c1 => ?_)
  · refine x_iconst (v := 0) C dX4_get_22 (by decide) ?_
    refine x_iret C E dX4_get_23 ?_
    exact ⟨by first | rw [rg_in hn c1 c10] | rw [rg_neg c1] | rw [rg_big hn c1 c10], x_ov_self hb⟩
  · refine x_iload_n C dX4_get_4 rfl rfl ?_
    refine x_aload_n C dX4_get_5 rfl rfl ?_
    refine x_getfield C dX4_get_6 fX4_7 (x_ovg 0 rfl) rfl ?_
    refine x_alen C dX4_get_9 (x_ovg 1 rfl) (by decide) ?_
    refine x_icmp_ge (tgt := 22) C dX4_get_10 (by decide) (fun c10 => ?_) (fun c10 => ?_)
    · refine x_iconst (v := 0) C dX4_get_22 (by decide) ?_
      refine x_iret C E dX4_get_23 ?_
      exact ⟨by first | rw [rg_in hn c1 c10] | rw [rg_neg c1] | rw [rg_big hn c1 c10], x_ov_self hb⟩
    · refine x_aload_n C dX4_get_13 rfl rfl ?_
      refine x_getfield C dX4_get_14 fX4_7 (x_ovg 0 rfl) rfl ?_
      refine x_iload_n C dX4_get_17 rfl rfl ?_
      refine x_iaload C dX4_get_18 (x_ovg 1 rfl) (rw_lt hn c1 c10) ?_
      refine x_goto (tgt := 23) C dX4_get_19 (by decide) ?_
      refine x_iret C E dX4_get_23 ?_
      exact ⟨by first | rw [rg_in hn c1 c10] | rw [rg_neg c1] | rw [rg_big hn c1 c10], x_ov_self hb⟩
set_option maxHeartbeats 4000000 in
set_option maxRecDepth 100000 in
theorem c_X4_set {l : Launch} {Y0 : x_Y} (hO : x_Ok Y0) {M : x_M} {r n : Nat} {f : Nat → Int32} {i x : Int32} (hn : n < 2 ^ 31) (hb : x_bk M r (rowL r n f)) : x_C l Y0 yX4_set cX4_set 3 none 1 0 0 [.ref r, .int i, .int x] M (fun v M1 => v = none ∧ M1 = x_st M (r + 1) (.inl (0, n, .inl (rs n f i x)))) := by
  refine x_start hO (by decide +kernel) (Nat.le_of_ble_eq_true rfl) (fun K C E => ?_)
  refine x_to (x_ov_self hb).symm ?_
  refine x_iload_n C dX4_set_0 rfl rfl ?_
  refine x_if_lt (tgt := 20) C dX4_set_1 (by decide) (fun c1 => ?_) (fun c1 => ?_)
  · refine x_vret C E dX4_set_20 ?_
    refine ⟨rfl, ?_⟩
    first | rw [rs_in hn c1 c10] | rw [rs_neg c1, x_st_self (hb 1 _ rfl)] | rw [rs_big hn c1 c10, x_st_self (hb 1 _ rfl)]
    first | exact x_ov_self hb | (rw [← x_st_ov (M := M) (a := r) (L := rowL r n f) 1 (Nat.le_of_ble_eq_true rfl), x_ov_self hb])
  · refine x_iload_n C dX4_set_4 rfl rfl ?_
    refine x_aload_n C dX4_set_5 rfl rfl ?_
    refine x_getfield C dX4_set_6 fX4_7 (x_ovg 0 rfl) rfl ?_
    refine x_alen C dX4_set_9 (x_ovg 1 rfl) (by decide) ?_
    refine x_icmp_ge (tgt := 20) C dX4_set_10 (by decide) (fun c10 => ?_) (fun c10 => ?_)
    · refine x_vret C E dX4_set_20 ?_
      refine ⟨rfl, ?_⟩
      first | rw [rs_in hn c1 c10] | rw [rs_neg c1, x_st_self (hb 1 _ rfl)] | rw [rs_big hn c1 c10, x_st_self (hb 1 _ rfl)]
      first | exact x_ov_self hb | (rw [← x_st_ov (M := M) (a := r) (L := rowL r n f) 1 (Nat.le_of_ble_eq_true rfl), x_ov_self hb])
    · refine x_aload_n C dX4_set_13 rfl rfl ?_
      refine x_getfield C dX4_set_14 fX4_7 (x_ovg 0 rfl) rfl ?_
      refine x_iload_n C dX4_set_17 rfl rfl ?_
      refine x_iload_n C dX4_set_18 rfl rfl ?_
      refine x_iastore C dX4_set_19 (x_ovg 1 rfl) (rw_lt hn c1 c10) ?_
      refine x_to (x_st_ov 1 (Nat.le_of_ble_eq_true rfl)) ?_
      refine x_vret C E dX4_set_20 ?_
      refine ⟨rfl, ?_⟩
      first | rw [rs_in hn c1 c10] | rw [rs_neg c1, x_st_self (hb 1 _ rfl)] | rw [rs_big hn c1 c10, x_st_self (hb 1 _ rfl)]
      first | exact x_ov_self hb | (rw [← x_st_ov (M := M) (a := r) (L := rowL r n f) 1 (Nat.le_of_ble_eq_true rfl), x_ov_self hb])
def s_fill (i : Nat) (f g : Nat → Int32) : Nat → Int32 := fun j => if j < i then g j else f j
theorem x_ov_rowL {M : x_M} {r n : Nat} {f g : Nat → Int32} (hb : x_bk M r (rowL r n f)) : x_st M (r + 1) (.inl (0, n, .inl g)) = x_ov M r (rowL r n g) := by
  conv => lhs; rw [← x_ov_self hb]
  exact x_st_ov 1 (Nat.le_of_ble_eq_true rfl)
theorem s_fill_0 {f g : Nat → Int32} : s_fill 0 f g = f := by
  funext j
  simp [s_fill]
theorem s_fill_s {i : Nat} {f g : Nat → Int32} {x : Int32} (h : x = g i) (hi : i < 2 ^ 31) : upd (s_fill i f g) (nI i).toNatClampNeg x = s_fill (i + 1) f g := by
  rw [nI_clamp hi]
  funext j
  unfold upd s_fill
  by_cases h1 : j = i
  · subst h1
    rw [if_pos rfl, if_pos (by omega), h]
  · rw [if_neg h1]
    by_cases h2 : j < i
    · rw [if_pos h2, if_pos (by omega)]
    · rw [if_neg h2, if_neg (by omega)]
def s_sum (f : Nat → Int32) : Nat → Int32
  | 0 => 0
  | n + 1 => s_sum f n + f n
set_option maxHeartbeats 4000000 in
set_option maxRecDepth 100000 in
theorem c_X4_setAll {l : Launch} {Y0 : x_Y} (hO : x_Ok Y0) {M : x_M} {r n : Nat} {f : Nat → Int32} {v : Int32} (hn : n < 2 ^ 31) (hb : x_bk M r (rowL r n f)) : x_C l Y0 yX4_setAll cX4_setAll 3 none 1 0 0 [.ref r, .int v] M (fun u M1 => u = none ∧ M1 = x_st M (r + 1) (.inl (0, n, .inl (s_fill n f (fun _ => v))))) := by
  refine x_start hO (by decide +kernel) (Nat.le_of_ble_eq_true rfl) (fun K C E => ?_)
  refine x_to (x_ov_self hb).symm ?_
  have lp : ∀ (w i : Nat) (x : Int32), i + w = n → x = nI i → x_X K 3 0 0 2 [(0, .ref r), (1, .int v), (2, .int x)] [] (x_ov M r (rowL r n (s_fill i f (fun _ => v)))) := by
    intro w
    induction w with
    | zero =>
      intro i x hi hx
      subst hx
      have e : i = n := by omega
      subst e
      refine x_iload_n C dX4_setAll_2 rfl rfl ?_
      refine x_aload_n C dX4_setAll_3 rfl rfl ?_
      refine x_getfield C dX4_setAll_4 fX4_7 (x_ovg 0 rfl) rfl ?_
      refine x_alen C dX4_setAll_7 (x_ovg 1 rfl) (by decide) ?_
      refine x_icmp_ge (tgt := 24) C dX4_setAll_8 (by decide) (fun c8 => ?_) (fun c8 => absurd (nI_le (Nat.le_refl _) hn) c8)
      refine x_vret C E dX4_setAll_24 ?_
      exact ⟨rfl, (x_ov_rowL hb).symm⟩
    | succ w ih =>
      intro i x hi hx
      subst hx
      refine x_iload_n C dX4_setAll_2 rfl rfl ?_
      refine x_aload_n C dX4_setAll_3 rfl rfl ?_
      refine x_getfield C dX4_setAll_4 fX4_7 (x_ovg 0 rfl) rfl ?_
      refine x_alen C dX4_setAll_7 (x_ovg 1 rfl) (by decide) ?_
      refine x_icmp_ge (tgt := 24) C dX4_setAll_8 (by decide) (fun c8 => absurd c8 (nI_ge (by omega) hn)) (fun c8 => ?_)
      refine x_aload_n C dX4_setAll_11 rfl rfl ?_
      refine x_getfield C dX4_setAll_12 fX4_7 (x_ovg 0 rfl) rfl ?_
      refine x_iload_n C dX4_setAll_15 rfl rfl ?_
      refine x_iload_n C dX4_setAll_16 rfl rfl ?_
      refine x_iastore C dX4_setAll_17 (x_ovg 1 rfl) (vp_in_nI (by omega) hn) ?_
      refine x_to (x_st_ov 1 (Nat.le_of_ble_eq_true rfl)) ?_
      refine x_iinc (v := 1) C dX4_setAll_18 rfl (by decide) rfl (by decide) ?_
      refine x_goto (tgt := 2) C dX4_setAll_21 (by decide) ?_
      refine x_to (congrArg (fun g => x_ov M r (rowL r n g)) (s_fill_s rfl (by omega))) ?_
      exact ih (i + 1) _ (by omega) (nI_1 i)
  refine x_iconst (v := 0) C dX4_setAll_0 (by decide) ?_
  refine x_istore_n C dX4_setAll_1 rfl rfl (by decide) ?_
  refine x_to (congrArg (fun g => x_ov M r (rowL r n g)) (s_fill_0 (g := fun _ => v)).symm) ?_
  exact lp n 0 0 (by omega) rfl
set_option maxHeartbeats 4000000 in
set_option maxRecDepth 100000 in
theorem c_X4_copyFrom {l : Launch} {Y0 : x_Y} (hO : x_Ok Y0) {M : x_M} {r n : Nat} {f : Nat → Int32} {q : Nat} {g : Nat → Int32} (hn : n < 2 ^ 31) (hb : x_bk M r (rowL r n f)) (ho : x_bk M q (rowL q n g)) (hd : q + 2 ≤ r ∨ r + 2 ≤ q) : x_C l Y0 yX4_copyFrom cX4_copyFrom 3 none 2 0 0 [.ref r, .ref q] M (fun u M1 => u = none ∧ M1 = x_st M (r + 1) (.inl (0, n, .inl (s_fill n f g)))) := by
  refine x_start hO (by decide +kernel) (Nat.le_of_ble_eq_true rfl) (fun K C E => ?_)
  have hoF : ∀ L : List x_E, L.length = 2 → x_bk (x_ov M r L) q (rowL q n g) := fun L h => x_ov_far 2 ho h hd
  refine x_to (x_ov_self hb).symm ?_
  have lp : ∀ (w i : Nat) (x : Int32), i + w = n → x = nI i → x_X K 3 0 0 2 [(0, .ref r), (1, .ref q), (2, .int x)] [] (x_ov M r (rowL r n (s_fill i f g))) := by
    intro w
    induction w with
    | zero =>
      intro i x hi hx
      subst hx
      have e : i = n := by omega
      subst e
      refine x_iload_n C dX4_copyFrom_2 rfl rfl ?_
      refine x_aload_n C dX4_copyFrom_3 rfl rfl ?_
      refine x_getfield C dX4_copyFrom_4 fX4_7 (x_ovg 0 rfl) rfl ?_
      refine x_alen C dX4_copyFrom_7 (x_ovg 1 rfl) (by decide) ?_
      refine x_icmp_ge (tgt := 28) C dX4_copyFrom_8 (by decide) (fun c8 => ?_) (fun c8 => absurd (nI_le (Nat.le_refl _) hn) c8)
      refine x_vret C E dX4_copyFrom_28 ?_
      exact ⟨rfl, (x_ov_rowL hb).symm⟩
    | succ w ih =>
      intro i x hi hx
      subst hx
      refine x_iload_n C dX4_copyFrom_2 rfl rfl ?_
      refine x_aload_n C dX4_copyFrom_3 rfl rfl ?_
      refine x_getfield C dX4_copyFrom_4 fX4_7 (x_ovg 0 rfl) rfl ?_
      refine x_alen C dX4_copyFrom_7 (x_ovg 1 rfl) (by decide) ?_
      refine x_icmp_ge (tgt := 28) C dX4_copyFrom_8 (by decide) (fun c8 => absurd c8 (nI_ge (by omega) hn)) (fun c8 => ?_)
      refine x_aload_n C dX4_copyFrom_11 rfl rfl ?_
      refine x_getfield C dX4_copyFrom_12 fX4_7 (x_ovg 0 rfl) rfl ?_
      refine x_iload_n C dX4_copyFrom_15 rfl rfl ?_
      refine x_aload_n C dX4_copyFrom_16 rfl rfl ?_
      refine x_iload_n C dX4_copyFrom_17 rfl rfl ?_
      refine x_callV1 C dX4_copyFrom_18 kX4_13 (c_X4_get hO hn (hoF _ rfl)) ((hoF _ rfl) 0 _ rfl) rfl (by decide) ⟨Nat.zero_le _, Nat.zero_le _⟩ (Nat.le_of_ble_eq_true rfl) ?_
      rintro _ _ ⟨rfl, rfl⟩
      rw [rg_nI (show i < n by omega) hn]
      refine x_iastore C dX4_copyFrom_21 (x_ovg 1 rfl) (vp_in_nI (by omega) hn) ?_
      refine x_to (x_st_ov 1 (Nat.le_of_ble_eq_true rfl)) ?_
      refine x_iinc (v := 1) C dX4_copyFrom_22 rfl (by decide) rfl (by decide) ?_
      refine x_goto (tgt := 2) C dX4_copyFrom_25 (by decide) ?_
      refine x_to (congrArg (fun g => x_ov M r (rowL r n g)) (s_fill_s rfl (by omega))) ?_
      exact ih (i + 1) _ (by omega) (nI_1 i)
  refine x_iconst (v := 0) C dX4_copyFrom_0 (by decide) ?_
  refine x_istore_n C dX4_copyFrom_1 rfl rfl (by decide) ?_
  refine x_to (congrArg (fun g => x_ov M r (rowL r n g)) (s_fill_0 (g := g)).symm) ?_
  exact lp n 0 0 (by omega) rfl
set_option maxHeartbeats 4000000 in
set_option maxRecDepth 100000 in
theorem c_X4_add {l : Launch} {Y0 : x_Y} (hO : x_Ok Y0) {M : x_M} {r n : Nat} {f : Nat → Int32} {i x : Int32} (hn : n < 2 ^ 31) (hb : x_bk M r (rowL r n f)) : x_C l Y0 yX4_add cX4_add 3 none 2 0 0 [.ref r, .int i, .int x] M (fun u M1 => u = none ∧ M1 = x_st M (r + 1) (.inl (0, n, .inl (rs n f i (rg n f i + x))))) := by
  refine x_start hO (by decide +kernel) (Nat.le_of_ble_eq_true rfl) (fun K C E => ?_)
  refine x_aload_n C dX4_add_0 rfl rfl ?_
  refine x_iload_n C dX4_add_1 rfl rfl ?_
  refine x_aload_n C dX4_add_2 rfl rfl ?_
  refine x_iload_n C dX4_add_3 rfl rfl ?_
  refine x_callV1 C dX4_add_4 kX4_13 (c_X4_get hO hn hb) (hb 0 _ rfl) rfl (by decide) ⟨Nat.zero_le _, Nat.zero_le _⟩ (Nat.le_of_ble_eq_true rfl) ?_
  rintro _ _ ⟨rfl, rfl⟩
  refine x_iload_n C dX4_add_7 rfl rfl ?_
  refine x_iadd C dX4_add_8 ?_
  refine x_callV2 C dX4_add_9 kX4_17 (c_X4_set hO hn hb) (hb 0 _ rfl) rfl (by decide) ⟨Nat.zero_le _, Nat.zero_le _⟩ (Nat.le_of_ble_eq_true rfl) ?_
  rintro _ _ ⟨rfl, rfl⟩
  refine x_vret C E dX4_add_12 ?_
  exact ⟨rfl, rfl⟩
set_option maxHeartbeats 4000000 in
set_option maxRecDepth 100000 in
theorem c_X4_sum {l : Launch} {Y0 : x_Y} (hO : x_Ok Y0) {M : x_M} {r n : Nat} {f : Nat → Int32} {c : Nat} (hn : n < 2 ^ 31) (hc : c ≤ n) (hb : x_bk M r (rowL r n f)) : x_C l Y0 yX4_sum cX4_sum 4 (some .int) 2 0 0 [.ref r, .int (nI c)] M (fun u M1 => u = some (.int (s_sum f c)) ∧ M1 = M) := by
  refine x_start hO (by decide +kernel) (Nat.le_of_ble_eq_true rfl) (fun K C E => ?_)
  have lp : ∀ (w i : Nat) (x : Int32) (z : Int32), i + w = c → x = nI i → z = s_sum f i → x_X K 4 0 0 4 [(0, .ref r), (1, .int (nI c)), (2, .int z), (3, .int x)] [] M := by
    intro w
    induction w with
    | zero =>
      intro i x z hi hx hz
      subst hx
      have e : i = c := by omega
      subst e
      refine x_iload_n C dX4_sum_4 rfl rfl ?_
      refine x_iload_n C dX4_sum_5 rfl rfl ?_
      refine x_icmp_ge (tgt := 23) C dX4_sum_6 (by decide) (fun c6 => ?_) (fun c6 => absurd (nI_le (Nat.le_refl _) (by omega)) c6)
      refine x_iload_n C dX4_sum_23 rfl rfl ?_
      refine x_iret C E dX4_sum_24 ?_
      exact ⟨by rw [hz], rfl⟩
    | succ w ih =>
      intro i x z hi hx hz
      subst hx
      refine x_iload_n C dX4_sum_4 rfl rfl ?_
      refine x_iload_n C dX4_sum_5 rfl rfl ?_
      refine x_icmp_ge (tgt := 23) C dX4_sum_6 (by decide) (fun c6 => absurd c6 (nI_ge (by omega) (by omega))) (fun c6 => ?_)
      refine x_iload_n C dX4_sum_9 rfl rfl ?_
      refine x_aload_n C dX4_sum_10 rfl rfl ?_
      refine x_iload_n C dX4_sum_11 rfl rfl ?_
      refine x_callV1 C dX4_sum_12 kX4_13 (c_X4_get hO hn hb) (hb 0 _ rfl) rfl (by decide) ⟨Nat.zero_le _, Nat.zero_le _⟩ (Nat.le_of_ble_eq_true rfl) ?_
      rintro _ _ ⟨rfl, rfl⟩
      refine x_iadd C dX4_sum_15 ?_
      refine x_istore_n C dX4_sum_16 rfl rfl (by decide) ?_
      refine x_iinc (v := 1) C dX4_sum_17 rfl (by decide) rfl (by decide) ?_
      refine x_goto (tgt := 4) C dX4_sum_20 (by decide) ?_
      exact ih (i + 1) _ _ (by omega) (nI_1 i) (by rw [hz, rg_nI (by omega) hn]; rfl)
  refine x_iconst (v := 0) C dX4_sum_0 (by decide) ?_
  refine x_istore_n C dX4_sum_1 rfl rfl (by decide) ?_
  refine x_iconst (v := 0) C dX4_sum_2 (by decide) ?_
  refine x_istore_n C dX4_sum_3 rfl rfl (by decide) ?_
  exact lp c 0 0 0 (by omega) rfl rfl
set_option maxHeartbeats 4000000 in
set_option maxRecDepth 100000 in
theorem c_X8_bit {l : Launch} {Y0 : x_Y} (hO : x_Ok Y0) {M : x_M} {x : Int32} : x_C l Y0 yX8_bit cX8_bit 1 (some .int) 1 0 0 [.int x] M (fun u M1 => u = some (.int (if x = 0 then 0 else 1)) ∧ M1 = M) := by
  refine x_start hO (by decide +kernel) (Nat.le_of_ble_eq_true rfl) (fun K C E => ?_)
  refine x_iload_n C dX8_bit_0 rfl rfl ?_
  refine x_if_eq (tgt := 8) C dX8_bit_1 (by decide) (fun c1 => ?_) (fun c1 => ?_)
  · refine x_iconst (v := 0) C dX8_bit_8 (by decide) ?_
    refine x_iret C E dX8_bit_9 ?_
    exact ⟨by first | rw [if_pos c1] | rw [if_neg c1], rfl⟩
  · refine x_iconst (v := 1) C dX8_bit_4 (by decide) ?_
    refine x_goto (tgt := 9) C dX8_bit_5 (by decide) ?_
    refine x_iret C E dX8_bit_9 ?_
    exact ⟨by first | rw [if_pos c1] | rw [if_neg c1], rfl⟩
set_option maxHeartbeats 4000000 in
set_option maxRecDepth 100000 in
theorem c_X8_slot {l : Launch} {Y0 : x_Y} (hO : x_Ok Y0) {M : x_M} {x z : Int32} : x_C l Y0 yX8_slot cX8_slot 2 (some .int) 1 0 0 [.int x, .int z] M (fun u M1 => u = some (.int (x * 6 + z)) ∧ M1 = M) := by
  refine x_start hO (by decide +kernel) (Nat.le_of_ble_eq_true rfl) (fun K C E => ?_)
  refine x_iload_n C dX8_slot_0 rfl rfl ?_
  refine x_bipush (v := 6) C dX8_slot_1 (by decide) ?_
  refine x_imul C dX8_slot_3 ?_
  refine x_iload_n C dX8_slot_4 rfl rfl ?_
  refine x_iadd C dX8_slot_5 ?_
  refine x_iret C E dX8_slot_6 ?_
  exact ⟨rfl, rfl⟩
