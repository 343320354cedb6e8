theorem h_cnt_all {q : Nat → Bool} : ∀ n, ∃ c, c ≤ n ∧ h_cnt q n = nI c ∧ (c = n ↔ h_all q n = true) := by
  intro n
  induction n with
  | zero => exact ⟨0, Nat.le_refl _, rfl, by simp [h_all]⟩
  | succ n ih =>
    obtain ⟨c, h1, h2, h3⟩ := ih
    cases hq : q n with
    | true =>
      refine ⟨c + 1, by omega, ?_, ?_⟩
      · show h_cnt q n + (if q n = true then 1 else 0) = _
        rw [h2, hq, if_pos rfl]
        exact nI_1 c
      · show _ ↔ (h_all q n && q n) = true
        rw [hq, Bool.and_true, ← h3]
        omega
    | false =>
      refine ⟨c, by omega, ?_, ?_⟩
      · show h_cnt q n + (if q n = true then 1 else 0) = _
        rw [h2, hq, if_neg (by decide)]
        simp
      · show _ ↔ (h_all q n && q n) = true
        rw [hq, Bool.and_false]
        constructor
        · intro h; omega
        · intro h; cases h
theorem h_cnt_eq {q : Nat → Bool} {n : Nat} (hn : n < 2 ^ 31) : h_cnt q n = nI n ↔ h_all q n = true := by
  obtain ⟨c, h1, h2, h3⟩ := h_cnt_all (q := q) n
  rw [h2, ← h3]
  exact nI_eq (by omega) hn
theorem six_nI (k : Nat) : 6 * nI k = nI (6 * k) := by
  show nI 6 * nI k = _
  rw [pk_mul]
theorem six_nI1 (k : Nat) : 6 * (nI k + 1) = nI (6 * k + 6) := by
  rw [nI_1, six_nI]
  rfl
theorem h_u_id {A : HS} {k j : Nat} {x : Int32} (h : A k j = x) : h_u A k j x = A := by
  funext q i
  unfold h_u
  split
  · rename_i h1
    subst h1
    unfold upd
    split
    · rename_i h2
      subst h2
      exact h.symm
    · rfl
  · rfl
theorem h_clr_id {k j : Nat} {B : HS} (h6 : B 6 (6 * k + j) = 0) (h7 : B 7 (6 * k + j) = 0) : h_clr k B j = B := by
  unfold h_clr
  rw [h_u_id h6, h_u_id h7]
theorem h_clr6 {P : PL} {A : HS} {k : Nat} (hk : k < 6) (hn : p_np P k ≤ 6) (h : h_ok P A) : h_it (h_clr k) 6 A = h_it (h_clr k) (p_np P k) A := by
  have hB : ∀ m, m ≤ p_np P k → h_ok P (h_it (h_clr k) m A) := fun m hm => h_it_ok (n := p_np P k) (fun B i hi hB => h_ok_7 (h_ok_6 hB hi (by omega)) hi (by omega) (Or.inl rfl)) m hm A h
  have key : ∀ d, p_np P k + d ≤ 6 → h_it (h_clr k) (p_np P k + d) A = h_it (h_clr k) (p_np P k) A := by
    intro d
    induction d with
    | zero => intro _; rfl
    | succ d ih =>
      intro hd
      show h_clr k (h_it (h_clr k) (p_np P k + d) A) (p_np P k + d) = _
      rw [ih (by omega)]
      have h9 := (hB _ (Nat.le_refl _)).2.2.2 k (p_np P k + d) hk (by omega) (by omega)
      exact h_clr_id h9.1 h9.2
  have := key (6 - p_np P k) (by omega)
  rw [show p_np P k + (6 - p_np P k) = 6 by omega] at this
  exact this
theorem h_ref_row {A : HS} {r : Nat} (hr : r ≠ 4) : ∀ n, h_it h_ref1 n A r = A r := by
  intro n
  induction n with
  | zero => rfl
  | succ n ih =>
    show h_ref1 (h_it h_ref1 n A) n r = A r
    unfold h_ref1
    split
    · rw [h_u_row hr]; exact ih
    · exact ih
theorem h_ref_at {A : HS} {j : Nat} : ∀ n, n ≤ j → h_it h_ref1 n A 4 j = A 4 j := by
  intro n
  induction n with
  | zero => intro _; rfl
  | succ n ih =>
    intro hn
    show h_ref1 (h_it h_ref1 n A) n 4 j = A 4 j
    unfold h_ref1
    split
    · rw [h_u_ne (by omega)]; exact ih (by omega)
    · exact ih (by omega)
set_option maxHeartbeats 4000000 in
set_option maxRecDepth 100000 in
theorem c_X10_allAgree {l : Launch} {Y0 : x_Y} (hO : x_Ok Y0) {M : x_M} {m o q : Nat} {P : PL} {A : HS} {hx : Nat → Int32} {z : Int32} {G : HS} {fs : List Value} (hP : p_ok P) (hQ : g_is G P) (hk9 : h_ok P A) (hb : x_bk M m (stT m o P A hx z)) (hp : x_bk M q (pmT q G)) (ho : x_bk M o [.inr (11, fs)]) (ho11 : fs[11]? = some (.ref q)) {k : Nat} (hk : k < p_nk P) : x_C l Y0 yX10_allAgree cX10_allAgree 3 (some .boolean) 3 0 0 [.ref m, .int (nI k)] M (fun u M1 => u = some (.int (h_b (h_agrAll P A k))) ∧ M1 = M) := by
  refine x_start hO (by decide +kernel) (Nat.le_of_ble_eq_true rfl) (fun K C E => ?_)
  have hP0 := hP
  have hQ0 := hQ
  obtain ⟨h8, h6, h16, hnp, hwho, hvb, hts⟩ := hP
  obtain ⟨hq0, hq1, hq2, hq3, hq4, hq5, hq6⟩ := hQ
  have hk1 := hnp k hk
  have lp : ∀ (w i : Nat) (x : Int32), i + w = p_np P k → x = nI i → h_all (fun j => h_agr P A (6 * k + j)) i = true → x_X K 3 0 0 2 [(0, .ref m), (1, .int (nI k)), (2, .int x)] [] M := by
    intro w
    induction w with
    | zero =>
      intro i x hi hx hz
      subst hx
      have e : i = p_np P k := by omega
      subst e
      refine x_iload_n C dX10_allAgree_2 rfl rfl ?_
      refine x_aload_n C dX10_allAgree_3 rfl rfl ?_
      refine x_getfield C dX10_allAgree_4 fX10_3 (hb 0 _ rfl) rfl ?_
      refine x_getfield C dX10_allAgree_7 fX10_64 (ho 0 _ rfl) ho11 ?_
      refine x_getfield C dX10_allAgree_10 fX10_77 (hp 0 _ rfl) rfl ?_
      refine x_iload_n C dX10_allAgree_13 rfl rfl ?_
      refine x_iaload C dX10_allAgree_14 (hp 2 _ rfl) (vp_in_nI (show k < 6 by omega) (by decide)) ?_
      rw [nI_clamp (show k < 2 ^ 31 by omega)]
      rw [hq3 k hk]
      refine x_icmp_ge (tgt := 39) C dX10_allAgree_15 (by decide) (fun c15 => ?_) (fun c15 => absurd (nI_le (Nat.le_refl _) (by omega)) c15)
      refine x_iconst (v := 1) C dX10_allAgree_39 (by decide) ?_
      refine x_zret C E dX10_allAgree_40 rfl ?_
      refine ⟨?_, rfl⟩
      unfold h_agrAll
      rw [hz]
      rfl
    | succ w ih =>
      intro i x hi hx hz
      subst hx
      have hw := hwho k i hk (by omega)
      have hqs := hq4 k i hk (by omega)
      refine x_iload_n C dX10_allAgree_2 rfl rfl ?_
      refine x_aload_n C dX10_allAgree_3 rfl rfl ?_
      refine x_getfield C dX10_allAgree_4 fX10_3 (hb 0 _ rfl) rfl ?_
      refine x_getfield C dX10_allAgree_7 fX10_64 (ho 0 _ rfl) ho11 ?_
      refine x_getfield C dX10_allAgree_10 fX10_77 (hp 0 _ rfl) rfl ?_
      refine x_iload_n C dX10_allAgree_13 rfl rfl ?_
      refine x_iaload C dX10_allAgree_14 (hp 2 _ rfl) (vp_in_nI (show k < 6 by omega) (by decide)) ?_
      rw [nI_clamp (show k < 2 ^ 31 by omega)]
      rw [hq3 k hk]
      refine x_icmp_ge (tgt := 39) C dX10_allAgree_15 (by decide) (fun c15 => absurd c15 (nI_ge (by omega) (by omega))) (fun c15 => ?_)
      refine x_aload_n C dX10_allAgree_18 rfl rfl ?_
      refine x_bipush (v := 6) C dX10_allAgree_19 (by decide) ?_
      refine x_iload_n C dX10_allAgree_21 rfl rfl ?_
      refine x_imul C dX10_allAgree_22 ?_
      refine x_iload_n C dX10_allAgree_23 rfl rfl ?_
      refine x_iadd C dX10_allAgree_24 ?_
      rw [slot_nI2]
      refine x_callV1 C dX10_allAgree_25 kX10_90 (c_X10_agrees hO hP0 hQ0 hk9 hb hp ho ho11 (show 6 * k + i < 36 by omega) hw hqs) (hb 0 _ rfl) rfl (by decide) ⟨Nat.zero_le _, Nat.zero_le _⟩ (Nat.le_of_ble_eq_true rfl) ?_
      rintro _ _ ⟨rfl, rfl⟩
      refine x_if_ne (tgt := 33) C dX10_allAgree_28 (by decide) (fun c28 => ?_) (fun c28 => ?_)
      · refine x_iinc (v := 1) C dX10_allAgree_33 rfl (by decide) rfl (by decide) ?_
        refine x_goto (tgt := 2) C dX10_allAgree_36 (by decide) ?_
        exact ih (i + 1) _ (by omega) (nI_1 i) (by unfold h_all; rw [hz]; simpa [h_b] using c28)
      · refine x_iconst (v := 0) C dX10_allAgree_31 (by decide) ?_
        refine x_zret C E dX10_allAgree_32 rfl ?_
        refine ⟨?_, rfl⟩
        have hq : h_agr P A (6 * k + i) = false := by simpa [h_b] using c28
        unfold h_agrAll
        rw [h_all_no (q := fun j => h_agr P A (6 * k + j)) (j := i) hq _ (by omega)]
        rfl
  refine x_iconst (v := 0) C dX10_allAgree_0 (by decide) ?_
  refine x_istore_n C dX10_allAgree_1 rfl rfl (by decide) ?_
  exact lp (p_np P k) 0 0 (by omega) rfl rfl
set_option maxHeartbeats 4000000 in
set_option maxRecDepth 100000 in
theorem c_X10_canBegin {l : Launch} {Y0 : x_Y} (hO : x_Ok Y0) {M : x_M} {m o q : Nat} {P : PL} {A : HS} {hx : Nat → Int32} {z : Int32} {G : HS} {fs : List Value} (hP : p_ok P) (hQ : g_is G P) (hk9 : h_ok P A) (hb : x_bk M m (stT m o P A hx z)) (hp : x_bk M q (pmT q G)) (ho : x_bk M o [.inr (11, fs)]) (ho11 : fs[11]? = some (.ref q)) {k : Nat} (hk : k < p_nk P) : x_C l Y0 yX10_canBegin cX10_canBegin 2 (some .boolean) 2 0 0 [.ref m, .int (nI k)] M (fun u M1 => u = some (.int (h_b (h_can P A k))) ∧ M1 = M) := by
  refine x_start hO (by decide +kernel) (Nat.le_of_ble_eq_true rfl) (fun K C E => ?_)
  have hP0 := hP
  have hQ0 := hQ
  obtain ⟨h8, h6, h16, hnp, hwho, hvb, hts⟩ := hP
  obtain ⟨hq0, hq1, hq2, hq3, hq4, hq5, hq6⟩ := hQ
  have hk1 := hnp k hk
  refine x_aload_n C dX10_canBegin_0 rfl rfl ?_
  refine x_getfield C dX10_canBegin_1 fX10_25 (hb 0 _ rfl) rfl ?_
  refine x_bipush (v := 8) C dX10_canBegin_4 (by decide) ?_
  refine x_baload C dX10_canBegin_6 (hb 4 _ rfl) (vp_in_nI (n := 8) (show 8 < 9 by decide) (by decide)) ?_
  rw [show (8 : Int32).toNatClampNeg = 8 from rfl]
  refine x_if_ne (tgt := 53) C dX10_canBegin_7 (by decide) (fun c7 => ?_) (fun c7 => ?_)
  · refine x_iconst (v := 0) C dX10_canBegin_53 (by decide) ?_
    refine x_zret C E dX10_canBegin_54 rfl ?_
    refine ⟨?_, rfl⟩
    unfold h_can h_over
    first | (simp [h_b, c7]; done) | (simp [h_b, c7, c16]; done) | (simp [h_b, c7, c16, c26]; done) | (simp [h_b, c7, c16, c25]; done) | (simp [h_b, c7, c16, c26, hh]; done) | fail
  · refine x_aload_n C dX10_canBegin_10 rfl rfl ?_
    refine x_getfield C dX10_canBegin_11 fX10_29 (hb 0 _ rfl) rfl ?_
    refine x_iload_n C dX10_canBegin_14 rfl rfl ?_
    refine x_iaload C dX10_canBegin_15 (hb 5 _ rfl) (vp_in_nI (show k < 6 by omega) (by decide)) ?_
    rw [nI_clamp (show k < 2 ^ 31 by omega)]
    refine x_if_eq (tgt := 49) C dX10_canBegin_16 (by decide) (fun c16 => ?_) (fun c16 => ?_)
    · refine x_iconst (v := 1) C dX10_canBegin_49 (by decide) ?_
      refine x_goto (tgt := 54) C dX10_canBegin_50 (by decide) ?_
      refine x_zret C E dX10_canBegin_54 rfl ?_
      refine ⟨?_, rfl⟩
      unfold h_can h_over
      first | (simp [h_b, c7]; done) | (simp [h_b, c7, c16]; done) | (simp [h_b, c7, c16, c26]; done) | (simp [h_b, c7, c16, c25]; done) | (simp [h_b, c7, c16, c26, hh]; done) | fail
    · refine x_aload_n C dX10_canBegin_19 rfl rfl ?_
      refine x_getfield C dX10_canBegin_20 fX10_29 (hb 0 _ rfl) rfl ?_
      refine x_iload_n C dX10_canBegin_23 rfl rfl ?_
      refine x_iaload C dX10_canBegin_24 (hb 5 _ rfl) (vp_in_nI (show k < 6 by omega) (by decide)) ?_
      rw [nI_clamp (show k < 2 ^ 31 by omega)]
      refine x_iconst (v := 1) C dX10_canBegin_25 (by decide) ?_
      refine x_icmp_eq (tgt := 53) C dX10_canBegin_26 (by decide) (fun c26 => ?_) (fun c26 => ?_)
      · refine x_iconst (v := 0) C dX10_canBegin_53 (by decide) ?_
        refine x_zret C E dX10_canBegin_54 rfl ?_
        refine ⟨?_, rfl⟩
        unfold h_can h_over
        first | (simp [h_b, c7]; done) | (simp [h_b, c7, c16]; done) | (simp [h_b, c7, c16, c26]; done) | (simp [h_b, c7, c16, c25]; done) | (simp [h_b, c7, c16, c26, hh]; done) | fail
      · refine x_aload_n C dX10_canBegin_29 rfl rfl ?_
        refine x_iload_n C dX10_canBegin_30 rfl rfl ?_
        refine x_callV1 C dX10_canBegin_31 kX10_94 (c_X10_hasHeard hO hP0 hQ0 hk9 hb hp ho ho11 hk) (hb 0 _ rfl) rfl (by decide) ⟨Nat.zero_le _, Nat.zero_le _⟩ (Nat.le_of_ble_eq_true rfl) ?_
        rintro _ _ ⟨rfl, rfl⟩
        refine x_aload_n C dX10_canBegin_34 rfl rfl ?_
        refine x_getfield C dX10_canBegin_35 fX10_3 (hb 0 _ rfl) rfl ?_
        refine x_getfield C dX10_canBegin_38 fX10_64 (ho 0 _ rfl) ho11 ?_
        refine x_getfield C dX10_canBegin_41 fX10_77 (hp 0 _ rfl) rfl ?_
        refine x_iload_n C dX10_canBegin_44 rfl rfl ?_
        refine x_iaload C dX10_canBegin_45 (hp 2 _ rfl) (vp_in_nI (show k < 6 by omega) (by decide)) ?_
        rw [nI_clamp (show k < 2 ^ 31 by omega)]
        rw [hq3 k hk]
        refine x_icmp_ne (tgt := 53) C dX10_canBegin_46 (by decide) (fun c46 => ?_) (fun c46 => ?_)
        · have hh : h_heardAll P A k = false := by
            cases h : h_heardAll P A k with
            | false => rfl
            | true => exact absurd ((h_cnt_eq (by omega)).mpr h) c46
          refine x_iconst (v := 0) C dX10_canBegin_53 (by decide) ?_
          refine x_zret C E dX10_canBegin_54 rfl ?_
          refine ⟨?_, rfl⟩
          unfold h_can h_over
          first | (simp [h_b, c7]; done) | (simp [h_b, c7, c16]; done) | (simp [h_b, c7, c16, c26]; done) | (simp [h_b, c7, c16, c25]; done) | (simp [h_b, c7, c16, c26, hh]; done) | fail
        · have hh : h_heardAll P A k = true := (h_cnt_eq (by omega)).mp c46
          refine x_iconst (v := 1) C dX10_canBegin_49 (by decide) ?_
          refine x_goto (tgt := 54) C dX10_canBegin_50 (by decide) ?_
          refine x_zret C E dX10_canBegin_54 rfl ?_
          refine ⟨?_, rfl⟩
          unfold h_can h_over
          first | (simp [h_b, c7]; done) | (simp [h_b, c7, c16]; done) | (simp [h_b, c7, c16, c26]; done) | (simp [h_b, c7, c16, c25]; done) | (simp [h_b, c7, c16, c26, hh]; done) | fail
set_option maxHeartbeats 4000000 in
set_option maxRecDepth 100000 in
theorem c_X10_beginDeal {l : Launch} {Y0 : x_Y} (hO : x_Ok Y0) {M : x_M} {m o q : Nat} {P : PL} {A : HS} {hx : Nat → Int32} {z : Int32} {G : HS} {fs : List Value} (hP : p_ok P) (hQ : g_is G P) (hk9 : h_ok P A) (hb : x_bk M m (stT m o P A hx z)) (hp : x_bk M q (pmT q G)) (ho : x_bk M o [.inr (11, fs)]) (ho11 : fs[11]? = some (.ref q)) (hd : q + 11 ≤ m ∨ m + 9 ≤ q) (hdo : o + 1 ≤ m ∨ m + 9 ≤ o) {k : Nat} (hk : k < p_nk P) : x_C l Y0 yX10_beginDeal cX10_beginDeal 3 none 1 0 0 [.ref m, .int (nI k)] M (fun u M1 => u = none ∧ M1 = x_ov M m (stT m o P (h_begin P A k) hx z)) := by
  refine x_start hO (by decide +kernel) (Nat.le_of_ble_eq_true rfl) (fun K C E => ?_)
  have hP0 := hP
  have hQ0 := hQ
  obtain ⟨h8, h6, h16, hnp, hwho, hvb, hts⟩ := hP
  obtain ⟨hq0, hq1, hq2, hq3, hq4, hq5, hq6⟩ := hQ
  have hpF : ∀ L : List x_E, L.length = 9 → x_bk (x_ov M m L) q (pmT q G) := fun L h => x_ov_far 9 hp h hd
  have hoF : ∀ L : List x_E, L.length = 9 → x_bk (x_ov M m L) o [.inr (11, fs)] := fun L h => x_ov_far 9 ho h hdo
  refine x_to (x_ov_self hb).symm ?_
  have hk1 := hnp k hk
  have lp : ∀ (w i : Nat) (x : Int32) (B : HS), i + w = 6 → x = nI (6 * k + i) → B = h_it (h_clr k) i (h_u (h_u A 4 k 1) 5 k (A 8 0)) → x_X K 3 0 0 22 [(0, .ref m), (1, .int (nI k)), (2, .int x)] [] (x_ov M m (stT m o P B hx z)) := by
    intro w
    induction w with
    | zero =>
      intro i x B hi hx9 hz
      subst hx9
      have e : i = 6 := by omega
      subst e
      refine x_iload_n C dX10_beginDeal_22 rfl rfl ?_
      refine x_bipush (v := 6) C dX10_beginDeal_23 (by decide) ?_
      refine x_iload_n C dX10_beginDeal_25 rfl rfl ?_
      refine x_iconst (v := 1) C dX10_beginDeal_26 (by decide) ?_
      refine x_iadd C dX10_beginDeal_27 ?_
      refine x_imul C dX10_beginDeal_28 ?_
      refine x_icmp_ge (tgt := 52) C dX10_beginDeal_29 (by decide) (fun c29 => ?_) (fun c29 => absurd (by rw [six_nI1]; exact nI_le (Nat.le_refl _) (by omega)) c29)
      refine x_vret C E dX10_beginDeal_52 ?_
      refine ⟨rfl, ?_⟩
      unfold h_begin
      rw [hz, h_clr6 (by omega) hk1.2 (h_ok_o (h_ok_4 hk9 (Or.inr (Or.inl rfl))) (by decide) (by decide) (by decide) (by decide))]
    | succ w ih =>
      intro i x B hi hx9 hz
      subst hx9
      refine x_iload_n C dX10_beginDeal_22 rfl rfl ?_
      refine x_bipush (v := 6) C dX10_beginDeal_23 (by decide) ?_
      refine x_iload_n C dX10_beginDeal_25 rfl rfl ?_
      refine x_iconst (v := 1) C dX10_beginDeal_26 (by decide) ?_
      refine x_iadd C dX10_beginDeal_27 ?_
      refine x_imul C dX10_beginDeal_28 ?_
      refine x_icmp_ge (tgt := 52) C dX10_beginDeal_29 (by decide) (fun c29 => absurd c29 (by rw [six_nI1]; exact nI_ge (by omega) (by omega))) (fun c29 => ?_)
      refine x_aload_n C dX10_beginDeal_32 rfl rfl ?_
      refine x_getfield C dX10_beginDeal_33 fX10_35 (x_ovg 0 rfl) rfl ?_
      refine x_iload_n C dX10_beginDeal_36 rfl rfl ?_
      refine x_iconst (v := 0) C dX10_beginDeal_37 (by decide) ?_
      refine x_iastore C dX10_beginDeal_38 (x_ovg 7 rfl) (vp_in_nI (show 6 * k + i < 36 by omega) (by decide)) ?_
      refine x_to (x_st_ov 7 (Nat.le_of_ble_eq_true rfl)) ?_
      rw [nI_clamp (show 6 * k + i < 2 ^ 31 by omega)]
      refine x_aload_n C dX10_beginDeal_39 rfl rfl ?_
      refine x_getfield C dX10_beginDeal_40 fX10_38 (x_ovg 0 rfl) rfl ?_
      refine x_iload_n C dX10_beginDeal_43 rfl rfl ?_
      refine x_iconst (v := 0) C dX10_beginDeal_44 (by decide) ?_
      refine x_bastore C dX10_beginDeal_45 (x_ovg 8 rfl) (vp_in_nI (show 6 * k + i < 36 by omega) (by decide)) ?_
      refine x_to (x_st_ov 8 (Nat.le_of_ble_eq_true rfl)) ?_
      rw [nI_clamp (show 6 * k + i < 2 ^ 31 by omega)]
      rw [show vp_nar .boolean 0 = 0 from rfl]
      refine x_iinc (v := 1) C dX10_beginDeal_46 rfl (by decide) rfl (by decide) ?_
      refine x_goto (tgt := 22) C dX10_beginDeal_49 (by decide) ?_
      exact ih (i + 1) _ (h_clr k B i) (by omega) (nI_1 (6 * k + i)) (by rw [hz]; rfl)
  refine x_aload_n C dX10_beginDeal_0 rfl rfl ?_
  refine x_getfield C dX10_beginDeal_1 fX10_29 (x_ovg 0 rfl) rfl ?_
  refine x_iload_n C dX10_beginDeal_4 rfl rfl ?_
  refine x_iconst (v := 1) C dX10_beginDeal_5 (by decide) ?_
  refine x_iastore C dX10_beginDeal_6 (x_ovg 5 rfl) (vp_in_nI (show k < 6 by omega) (by decide)) ?_
  refine x_to (x_st_ov 5 (Nat.le_of_ble_eq_true rfl)) ?_
  rw [nI_clamp (show k < 2 ^ 31 by omega)]
  refine x_aload_n C dX10_beginDeal_7 rfl rfl ?_
  refine x_getfield C dX10_beginDeal_8 fX10_32 (x_ovg 0 rfl) rfl ?_
  refine x_iload_n C dX10_beginDeal_11 rfl rfl ?_
  refine x_aload_n C dX10_beginDeal_12 rfl rfl ?_
  refine x_getfield C dX10_beginDeal_13 fX10_41 (x_ovg 0 rfl) rfl ?_
  refine x_iastore C dX10_beginDeal_16 (x_ovg 6 rfl) (vp_in_nI (show k < 6 by omega) (by decide)) ?_
  refine x_to (x_st_ov 6 (Nat.le_of_ble_eq_true rfl)) ?_
  rw [nI_clamp (show k < 2 ^ 31 by omega)]
  refine x_bipush (v := 6) C dX10_beginDeal_17 (by decide) ?_
  refine x_iload_n C dX10_beginDeal_19 rfl rfl ?_
  refine x_imul C dX10_beginDeal_20 ?_
  refine x_istore_n C dX10_beginDeal_21 rfl rfl (by decide) ?_
  exact lp 6 0 _ (h_u (h_u A 4 k 1) 5 k (A 8 0)) (by omega) (six_nI k) rfl
set_option maxHeartbeats 4000000 in
set_option maxRecDepth 100000 in
theorem c_turn1 {l : Launch} {Y0 : x_Y} (hO : x_Ok Y0) {M : x_M} {m o q : Nat} {P : PL} {A : HS} {hx : Nat → Int32} {z : Int32} {G : HS} {fs : List Value} (hP : p_ok P) (hQ : g_is G P) (hk9 : h_ok P A) (hb : x_bk M m (stT m o P A hx z)) (hp : x_bk M q (pmT q G)) (ho : x_bk M o [.inr (11, fs)]) (ho11 : fs[11]? = some (.ref q)) (hd : q + 11 ≤ m ∨ m + 9 ≤ q) (hdo : o + 1 ≤ m ∨ m + 9 ≤ o) {d : Nat} (hd9 : d < 8) (hu : A 1 d = 0) : x_C l Y0 yX10_turn cX10_turn 4 (some .int) 1 0 0 [.ref m, .int (nI d)] M (fun u M1 => u = some (.int 0) ∧ M1 = x_ov M m (stT m o P (h_u A 1 d 1) hx z)) := by
  refine x_start hO (by decide +kernel) (Nat.le_of_ble_eq_true rfl) (fun K C E => ?_)
  have hP0 := hP
  have hQ0 := hQ
  obtain ⟨h8, h6, h16, hnp, hwho, hvb, hts⟩ := hP
  obtain ⟨hq0, hq1, hq2, hq3, hq4, hq5, hq6⟩ := hQ
  have hpF : ∀ L : List x_E, L.length = 9 → x_bk (x_ov M m L) q (pmT q G) := fun L h => x_ov_far 9 hp h hd
  have hoF : ∀ L : List x_E, L.length = 9 → x_bk (x_ov M m L) o [.inr (11, fs)] := fun L h => x_ov_far 9 ho h hdo
  refine x_to (x_ov_self hb).symm ?_
  refine x_aload_n C dX10_turn_0 rfl rfl ?_
  refine x_getfield C dX10_turn_1 fX10_25 (x_ovg 0 rfl) rfl ?_
  refine x_iload_n C dX10_turn_4 rfl rfl ?_
  refine x_aload_n C dX10_turn_5 rfl rfl ?_
  refine x_getfield C dX10_turn_6 fX10_25 (x_ovg 0 rfl) rfl ?_
  refine x_iload_n C dX10_turn_9 rfl rfl ?_
  refine x_baload C dX10_turn_10 (x_ovg 4 rfl) (vp_in_nI (show d < 9 by omega) (by decide)) ?_
  rw [nI_clamp (show d < 2 ^ 31 by omega)]
  refine x_if_ne (tgt := 18) C dX10_turn_11 (by decide) (fun c11 => absurd c11 (fun h => h hu)) (fun c11 => ?_)
  refine x_iconst (v := 1) C dX10_turn_14 (by decide) ?_
  refine x_goto (tgt := 19) C dX10_turn_15 (by decide) ?_
  refine x_bastore C dX10_turn_19 (x_ovg 4 rfl) (vp_in_nI (show d < 9 by omega) (by decide)) ?_
  refine x_to (x_st_ov 4 (Nat.le_of_ble_eq_true rfl)) ?_
  rw [nI_clamp (show d < 2 ^ 31 by omega)]
  rw [show vp_nar .boolean 1 = 1 from rfl]
  refine x_iconst (v := 0) C dX10_turn_20 (by decide) ?_
  refine x_istore_n C dX10_turn_21 rfl rfl (by decide) ?_
  refine x_iconst (v := 0) C dX10_turn_22 (by decide) ?_
  refine x_istore_n C dX10_turn_23 rfl rfl (by decide) ?_
  refine x_iload_n C dX10_turn_24 rfl rfl ?_
  refine x_aload_n C dX10_turn_25 rfl rfl ?_
  refine x_getfield C dX10_turn_26 fX10_3 (x_ovg 0 rfl) rfl ?_
  refine x_getfield C dX10_turn_29 fX10_64 ((hoF _ rfl) 0 _ rfl) ho11 ?_
  refine x_getfield C dX10_turn_32 fX10_74 ((hpF _ rfl) 0 _ rfl) rfl ?_
  refine x_icmp_ge (tgt := 82) C dX10_turn_35 (by decide) (fun c35 => ?_) (fun c35 => ?_)
  · refine x_iload_n C dX10_turn_82 rfl rfl ?_
    refine x_iret C E dX10_turn_83 ?_
    exact ⟨rfl, rfl⟩
  · refine x_iload_n C dX10_turn_38 rfl rfl ?_
    refine x_bipush (v := 8) C dX10_turn_39 (by decide) ?_
    refine x_icmp_ne (tgt := 82) C dX10_turn_41 (by decide) (fun c41 => ?_) (fun c41 => absurd c41 (fun h => absurd ((nI_eq (by omega) (by omega)).mp (show nI d = nI 8 from h)) (by omega)))
    refine x_iload_n C dX10_turn_82 rfl rfl ?_
    refine x_iret C E dX10_turn_83 ?_
    exact ⟨rfl, rfl⟩
set_option maxHeartbeats 4000000 in
set_option maxRecDepth 100000 in
theorem c_turn2 {l : Launch} {Y0 : x_Y} (hO : x_Ok Y0) {M : x_M} {m o q : Nat} {P : PL} {A : HS} {hx : Nat → Int32} {z : Int32} {G : HS} {fs : List Value} (hP : p_ok P) (hQ : g_is G P) (hk9 : h_ok P A) (hb : x_bk M m (stT m o P A hx z)) (hp : x_bk M q (pmT q G)) (ho : x_bk M o [.inr (11, fs)]) (ho11 : fs[11]? = some (.ref q)) (hd : q + 11 ≤ m ∨ m + 9 ≤ q) (hdo : o + 1 ≤ m ∨ m + 9 ≤ o) {d : Nat} (hd9 : d < 8) (hu : ¬ A 1 d = 0) : x_C l Y0 yX10_turn cX10_turn 4 (some .int) 1 0 0 [.ref m, .int (nI d)] M (fun u M1 => u = some (.int 0) ∧ M1 = x_ov M m (stT m o P (h_u A 1 d 0) hx z)) := by
  refine x_start hO (by decide +kernel) (Nat.le_of_ble_eq_true rfl) (fun K C E => ?_)
  have hP0 := hP
  have hQ0 := hQ
  obtain ⟨h8, h6, h16, hnp, hwho, hvb, hts⟩ := hP
  obtain ⟨hq0, hq1, hq2, hq3, hq4, hq5, hq6⟩ := hQ
  have hpF : ∀ L : List x_E, L.length = 9 → x_bk (x_ov M m L) q (pmT q G) := fun L h => x_ov_far 9 hp h hd
  have hoF : ∀ L : List x_E, L.length = 9 → x_bk (x_ov M m L) o [.inr (11, fs)] := fun L h => x_ov_far 9 ho h hdo
  refine x_to (x_ov_self hb).symm ?_
  refine x_aload_n C dX10_turn_0 rfl rfl ?_
  refine x_getfield C dX10_turn_1 fX10_25 (x_ovg 0 rfl) rfl ?_
  refine x_iload_n C dX10_turn_4 rfl rfl ?_
  refine x_aload_n C dX10_turn_5 rfl rfl ?_
  refine x_getfield C dX10_turn_6 fX10_25 (x_ovg 0 rfl) rfl ?_
  refine x_iload_n C dX10_turn_9 rfl rfl ?_
  refine x_baload C dX10_turn_10 (x_ovg 4 rfl) (vp_in_nI (show d < 9 by omega) (by decide)) ?_
  rw [nI_clamp (show d < 2 ^ 31 by omega)]
  refine x_if_ne (tgt := 18) C dX10_turn_11 (by decide) (fun c11 => ?_) (fun c11 => absurd c11 hu)
  refine x_iconst (v := 0) C dX10_turn_18 (by decide) ?_
  refine x_bastore C dX10_turn_19 (x_ovg 4 rfl) (vp_in_nI (show d < 9 by omega) (by decide)) ?_
  refine x_to (x_st_ov 4 (Nat.le_of_ble_eq_true rfl)) ?_
  rw [nI_clamp (show d < 2 ^ 31 by omega)]
  rw [show vp_nar .boolean 0 = 0 from rfl]
  refine x_iconst (v := 0) C dX10_turn_20 (by decide) ?_
  refine x_istore_n C dX10_turn_21 rfl rfl (by decide) ?_
  refine x_iconst (v := 0) C dX10_turn_22 (by decide) ?_
  refine x_istore_n C dX10_turn_23 rfl rfl (by decide) ?_
  refine x_iload_n C dX10_turn_24 rfl rfl ?_
  refine x_aload_n C dX10_turn_25 rfl rfl ?_
  refine x_getfield C dX10_turn_26 fX10_3 (x_ovg 0 rfl) rfl ?_
  refine x_getfield C dX10_turn_29 fX10_64 ((hoF _ rfl) 0 _ rfl) ho11 ?_
  refine x_getfield C dX10_turn_32 fX10_74 ((hpF _ rfl) 0 _ rfl) rfl ?_
  refine x_icmp_ge (tgt := 82) C dX10_turn_35 (by decide) (fun c35 => ?_) (fun c35 => ?_)
  · refine x_iload_n C dX10_turn_82 rfl rfl ?_
    refine x_iret C E dX10_turn_83 ?_
    exact ⟨rfl, rfl⟩
  · refine x_iload_n C dX10_turn_38 rfl rfl ?_
    refine x_bipush (v := 8) C dX10_turn_39 (by decide) ?_
    refine x_icmp_ne (tgt := 82) C dX10_turn_41 (by decide) (fun c41 => ?_) (fun c41 => absurd c41 (fun h => absurd ((nI_eq (by omega) (by omega)).mp (show nI d = nI 8 from h)) (by omega)))
    refine x_iload_n C dX10_turn_82 rfl rfl ?_
    refine x_iret C E dX10_turn_83 ?_
    exact ⟨rfl, rfl⟩
set_option maxHeartbeats 4000000 in
set_option maxRecDepth 100000 in
theorem c_turn3 {l : Launch} {Y0 : x_Y} (hO : x_Ok Y0) {M : x_M} {m o q : Nat} {P : PL} {A : HS} {hx : Nat → Int32} {z : Int32} {G : HS} {fs : List Value} (hP : p_ok P) (hQ : g_is G P) (hk9 : h_ok P A) (hb : x_bk M m (stT m o P A hx z)) (hp : x_bk M q (pmT q G)) (ho : x_bk M o [.inr (11, fs)]) (ho11 : fs[11]? = some (.ref q)) (hd : q + 11 ≤ m ∨ m + 9 ≤ q) (hdo : o + 1 ≤ m ∨ m + 9 ≤ o) (hu : A 1 8 = 0) : x_C l Y0 yX10_turn cX10_turn 4 (some .int) 1 0 0 [.ref m, .int (nI 8)] M (fun u M1 => u = some (.int (0)) ∧ M1 = x_ov M m (stT m o P (h_u A 1 8 1) hx z)) := by
  refine x_start hO (by decide +kernel) (Nat.le_of_ble_eq_true rfl) (fun K C E => ?_)
  have hP0 := hP
  have hQ0 := hQ
  obtain ⟨h8, h6, h16, hnp, hwho, hvb, hts⟩ := hP
  obtain ⟨hq0, hq1, hq2, hq3, hq4, hq5, hq6⟩ := hQ
  have hpF : ∀ L : List x_E, L.length = 9 → x_bk (x_ov M m L) q (pmT q G) := fun L h => x_ov_far 9 hp h hd
  have hoF : ∀ L : List x_E, L.length = 9 → x_bk (x_ov M m L) o [.inr (11, fs)] := fun L h => x_ov_far 9 ho h hdo
  refine x_to (x_ov_self hb).symm ?_
  refine x_aload_n C dX10_turn_0 rfl rfl ?_
  refine x_getfield C dX10_turn_1 fX10_25 (x_ovg 0 rfl) rfl ?_
  refine x_iload_n C dX10_turn_4 rfl rfl ?_
  refine x_aload_n C dX10_turn_5 rfl rfl ?_
  refine x_getfield C dX10_turn_6 fX10_25 (x_ovg 0 rfl) rfl ?_
  refine x_iload_n C dX10_turn_9 rfl rfl ?_
  refine x_baload C dX10_turn_10 (x_ovg 4 rfl) (vp_in_nI (show 8 < 9 by decide) (by decide)) ?_
  rw [show (nI 8).toNatClampNeg = 8 from rfl]
  refine x_if_ne (tgt := 18) C dX10_turn_11 (by decide) (fun c11 => absurd c11 (fun h => h hu)) (fun c11 => ?_)
  refine x_iconst (v := 1) C dX10_turn_14 (by decide) ?_
  refine x_goto (tgt := 19) C dX10_turn_15 (by decide) ?_
  refine x_bastore C dX10_turn_19 (x_ovg 4 rfl) (vp_in_nI (show 8 < 9 by decide) (by decide)) ?_
  refine x_to (x_st_ov 4 (Nat.le_of_ble_eq_true rfl)) ?_
  rw [show (nI 8).toNatClampNeg = 8 from rfl]
  rw [show vp_nar .boolean 1 = 1 from rfl]
  refine x_iconst (v := 0) C dX10_turn_20 (by decide) ?_
  refine x_istore_n C dX10_turn_21 rfl rfl (by decide) ?_
  refine x_iconst (v := 0) C dX10_turn_22 (by decide) ?_
  refine x_istore_n C dX10_turn_23 rfl rfl (by decide) ?_
  refine x_iload_n C dX10_turn_24 rfl rfl ?_
  refine x_aload_n C dX10_turn_25 rfl rfl ?_
  refine x_getfield C dX10_turn_26 fX10_3 (x_ovg 0 rfl) rfl ?_
  refine x_getfield C dX10_turn_29 fX10_64 ((hoF _ rfl) 0 _ rfl) ho11 ?_
  refine x_getfield C dX10_turn_32 fX10_74 ((hpF _ rfl) 0 _ rfl) rfl ?_
  refine x_icmp_ge (tgt := 82) C dX10_turn_35 (by decide) (fun c35 => ?_) (fun c35 => ?_)
  · refine x_iload_n C dX10_turn_82 rfl rfl ?_
    refine x_iret C E dX10_turn_83 ?_
    exact ⟨rfl, rfl⟩
  · refine x_iload_n C dX10_turn_38 rfl rfl ?_
    refine x_bipush (v := 8) C dX10_turn_39 (by decide) ?_
    refine x_icmp_ne (tgt := 82) C dX10_turn_41 (by decide) (fun c41 => absurd c41 (fun h => h rfl)) (fun c41 => ?_)
    refine x_aload_n C dX10_turn_44 rfl rfl ?_
    refine x_getfield C dX10_turn_45 fX10_25 (x_ovg 0 rfl) rfl ?_
    refine x_iload_n C dX10_turn_48 rfl rfl ?_
    refine x_baload C dX10_turn_49 (x_ovg 4 rfl) (vp_in_nI (show 8 < 9 by decide) (by decide)) ?_
    rw [show (nI 8).toNatClampNeg = 8 from rfl]
    refine x_if_ne (tgt := 82) C dX10_turn_50 (by decide) (fun c50 => ?_) (fun c50 => absurd c50 (by rw [pk_us]; decide))
    refine x_iload_n C dX10_turn_82 rfl rfl ?_
    refine x_iret C E dX10_turn_83 ?_
    exact ⟨rfl, rfl⟩
set_option maxHeartbeats 4000000 in
set_option maxRecDepth 100000 in
theorem c_turn4 {l : Launch} {Y0 : x_Y} (hO : x_Ok Y0) {M : x_M} {m o q : Nat} {P : PL} {A : HS} {hx : Nat → Int32} {z : Int32} {G : HS} {fs : List Value} (hP : p_ok P) (hQ : g_is G P) (hk9 : h_ok P A) (hb : x_bk M m (stT m o P A hx z)) (hp : x_bk M q (pmT q G)) (ho : x_bk M o [.inr (11, fs)]) (ho11 : fs[11]? = some (.ref q)) (hd : q + 11 ≤ m ∨ m + 9 ≤ q) (hdo : o + 1 ≤ m ∨ m + 9 ≤ o) (hu : ¬ A 1 8 = 0) : x_C l Y0 yX10_turn cX10_turn 4 (some .int) 1 0 0 [.ref m, .int (nI 8)] M (fun u M1 => u = some (.int (h_begun P A)) ∧ M1 = x_ov M m (stT m o P (h_wake P A 8) hx z)) := by
  refine x_start hO (by decide +kernel) (Nat.le_of_ble_eq_true rfl) (fun K C E => ?_)
  have hP0 := hP
  have hQ0 := hQ
  obtain ⟨h8, h6, h16, hnp, hwho, hvb, hts⟩ := hP
  obtain ⟨hq0, hq1, hq2, hq3, hq4, hq5, hq6⟩ := hQ
  have hpF : ∀ L : List x_E, L.length = 9 → x_bk (x_ov M m L) q (pmT q G) := fun L h => x_ov_far 9 hp h hd
  have hoF : ∀ L : List x_E, L.length = 9 → x_bk (x_ov M m L) o [.inr (11, fs)] := fun L h => x_ov_far 9 ho h hdo
  refine x_to (x_ov_self hb).symm ?_
  have lp : ∀ (w i : Nat) (x : Int32) (B : HS) (y : Int32), i + w = p_nk P → x = nI i → B = h_it h_ref1 i (h_u A 1 8 0) → y = h_cnt (fun k => A 4 k == 1) i → x_X K 4 0 0 24 [(0, .ref m), (1, .int (nI 8)), (2, .int y), (3, .int x)] [] (x_ov M m (stT m o P B hx z)) := by
    intro w
    induction w with
    | zero =>
      intro i x B y hi hx9 hz hy
      subst hx9
      have e : i = p_nk P := by omega
      subst e
      refine x_iload_n C dX10_turn_24 rfl rfl ?_
      refine x_aload_n C dX10_turn_25 rfl rfl ?_
      refine x_getfield C dX10_turn_26 fX10_3 (x_ovg 0 rfl) rfl ?_
      refine x_getfield C dX10_turn_29 fX10_64 ((hoF _ rfl) 0 _ rfl) ho11 ?_
      refine x_getfield C dX10_turn_32 fX10_74 ((hpF _ rfl) 0 _ rfl) rfl ?_
      refine x_icmp_ge (tgt := 82) C dX10_turn_35 (by decide) (fun c35 => ?_) (fun c35 => absurd (by rw [hq1]; exact nI_le (Nat.le_refl _) (by omega)) c35)
      refine x_iload_n C dX10_turn_82 rfl rfl ?_
      refine x_iret C E dX10_turn_83 ?_
      exact ⟨by rw [hy]; rfl, by rw [hz]; rfl⟩
    | succ w ih =>
      intro i x B y hi hx9 hz hy
      subst hx9
      have hB1 : B 1 8 = 0 := by rw [hz, h_ref_row (by decide)]; exact h_u_eq
      have hB4 : B 4 i = A 4 i := by rw [hz, h_ref_at i (Nat.le_refl _)]; rfl
      refine x_iload_n C dX10_turn_24 rfl rfl ?_
      refine x_aload_n C dX10_turn_25 rfl rfl ?_
      refine x_getfield C dX10_turn_26 fX10_3 (x_ovg 0 rfl) rfl ?_
      refine x_getfield C dX10_turn_29 fX10_64 ((hoF _ rfl) 0 _ rfl) ho11 ?_
      refine x_getfield C dX10_turn_32 fX10_74 ((hpF _ rfl) 0 _ rfl) rfl ?_
      refine x_icmp_ge (tgt := 82) C dX10_turn_35 (by decide) (fun c35 => absurd c35 (by rw [hq1]; exact nI_ge (by omega) (by omega))) (fun c35 => ?_)
      refine x_iload_n C dX10_turn_38 rfl rfl ?_
      refine x_bipush (v := 8) C dX10_turn_39 (by decide) ?_
      refine x_icmp_ne (tgt := 82) C dX10_turn_41 (by decide) (fun c41 => absurd c41 (fun h => h rfl)) (fun c41 => ?_)
      refine x_aload_n C dX10_turn_44 rfl rfl ?_
      refine x_getfield C dX10_turn_45 fX10_25 (x_ovg 0 rfl) rfl ?_
      refine x_iload_n C dX10_turn_48 rfl rfl ?_
      refine x_baload C dX10_turn_49 (x_ovg 4 rfl) (vp_in_nI (show 8 < 9 by decide) (by decide)) ?_
      rw [show (nI 8).toNatClampNeg = 8 from rfl]
      refine x_if_ne (tgt := 82) C dX10_turn_50 (by decide) (fun c50 => absurd c50 (fun h => h hB1)) (fun c50 => ?_)
      refine x_aload_n C dX10_turn_53 rfl rfl ?_
      refine x_getfield C dX10_turn_54 fX10_29 (x_ovg 0 rfl) rfl ?_
      refine x_iload_n C dX10_turn_57 rfl rfl ?_
      refine x_iaload C dX10_turn_58 (x_ovg 5 rfl) (vp_in_nI (show i < 6 by omega) (by decide)) ?_
      rw [nI_clamp (show i < 2 ^ 31 by omega)]
      refine x_iconst (v := 1) C dX10_turn_59 (by decide) ?_
      refine x_icmp_eq (tgt := 66) C dX10_turn_60 (by decide) (fun c60 => ?_) (fun c60 => ?_)
      · refine x_aload_n C dX10_turn_66 rfl rfl ?_
        refine x_getfield C dX10_turn_67 fX10_29 (x_ovg 0 rfl) rfl ?_
        refine x_iload_n C dX10_turn_70 rfl rfl ?_
        refine x_iconst (v := 3) C dX10_turn_71 (by decide) ?_
        refine x_iastore C dX10_turn_72 (x_ovg 5 rfl) (vp_in_nI (show i < 6 by omega) (by decide)) ?_
        refine x_to (x_st_ov 5 (Nat.le_of_ble_eq_true rfl)) ?_
        rw [nI_clamp (show i < 2 ^ 31 by omega)]
        refine x_iinc (v := 1) C dX10_turn_73 rfl (by decide) rfl (by decide) ?_
        refine x_iinc (v := 1) C dX10_turn_76 rfl (by decide) rfl (by decide) ?_
        refine x_goto (tgt := 24) C dX10_turn_79 (by decide) ?_
        first
          | exact ih (i + 1) _ (h_u B 4 i 3) _ (by omega) (nI_1 i) (by show _ = h_ref1 (h_it h_ref1 i _) i; rw [← hz]; unfold h_ref1; rw [if_pos c60]) (by rw [hB4] at c60; subst hy; simp [h_cnt, c60])
          | exact ih (i + 1) _ B _ (by omega) (nI_1 i) (by show _ = h_ref1 (h_it h_ref1 i _) i; rw [← hz]; unfold h_ref1; rw [if_neg c60]) (by rw [hB4] at c60; subst hy; simp [h_cnt, c60])
          | fail
      · refine x_goto (tgt := 76) C dX10_turn_63 (by decide) ?_
        refine x_iinc (v := 1) C dX10_turn_76 rfl (by decide) rfl (by decide) ?_
        refine x_goto (tgt := 24) C dX10_turn_79 (by decide) ?_
        first
          | exact ih (i + 1) _ (h_u B 4 i 3) _ (by omega) (nI_1 i) (by show _ = h_ref1 (h_it h_ref1 i _) i; rw [← hz]; unfold h_ref1; rw [if_pos c60]) (by rw [hB4] at c60; subst hy; simp [h_cnt, c60])
          | exact ih (i + 1) _ B _ (by omega) (nI_1 i) (by show _ = h_ref1 (h_it h_ref1 i _) i; rw [← hz]; unfold h_ref1; rw [if_neg c60]) (by rw [hB4] at c60; subst hy; simp [h_cnt, c60])
          | fail
  refine x_aload_n C dX10_turn_0 rfl rfl ?_
  refine x_getfield C dX10_turn_1 fX10_25 (x_ovg 0 rfl) rfl ?_
  refine x_iload_n C dX10_turn_4 rfl rfl ?_
  refine x_aload_n C dX10_turn_5 rfl rfl ?_
  refine x_getfield C dX10_turn_6 fX10_25 (x_ovg 0 rfl) rfl ?_
  refine x_iload_n C dX10_turn_9 rfl rfl ?_
  refine x_baload C dX10_turn_10 (x_ovg 4 rfl) (vp_in_nI (show 8 < 9 by decide) (by decide)) ?_
  rw [show (nI 8).toNatClampNeg = 8 from rfl]
  refine x_if_ne (tgt := 18) C dX10_turn_11 (by decide) (fun c11 => ?_) (fun c11 => absurd c11 hu)
  refine x_iconst (v := 0) C dX10_turn_18 (by decide) ?_
  refine x_bastore C dX10_turn_19 (x_ovg 4 rfl) (vp_in_nI (show 8 < 9 by decide) (by decide)) ?_
  refine x_to (x_st_ov 4 (Nat.le_of_ble_eq_true rfl)) ?_
  rw [show (nI 8).toNatClampNeg = 8 from rfl]
  rw [show vp_nar .boolean 0 = 0 from rfl]
  refine x_iconst (v := 0) C dX10_turn_20 (by decide) ?_
  refine x_istore_n C dX10_turn_21 rfl rfl (by decide) ?_
  refine x_iconst (v := 0) C dX10_turn_22 (by decide) ?_
  refine x_istore_n C dX10_turn_23 rfl rfl (by decide) ?_
  exact lp (p_nk P) 0 0 (h_u A 1 8 0) 0 (by omega) rfl rfl rfl
set_option maxHeartbeats 4000000 in
set_option maxRecDepth 100000 in
theorem c_X10_ask {l : Launch} {Y0 : x_Y} (hO : x_Ok Y0) {M : x_M} {m o q : Nat} {P : PL} {A : HS} {hx : Nat → Int32} {z : Int32} {G : HS} {fs : List Value} (hP : p_ok P) (hQ : g_is G P) (hk9 : h_ok P A) (hb : x_bk M m (stT m o P A hx z)) (hp : x_bk M q (pmT q G)) (ho : x_bk M o [.inr (11, fs)]) (ho11 : fs[11]? = some (.ref q)) (hd : q + 11 ≤ m ∨ m + 9 ≤ q) (hdo : o + 1 ≤ m ∨ m + 9 ≤ o) {k j : Nat} (hk : k < p_nk P) (hj : j < p_np P k) : x_C l Y0 yX10_ask cX10_ask 4 none 3 0 0 [.ref m, .int (nI (6 * k + j)), .int (nI k)] M (fun u M1 => u = none ∧ M1 = x_ov M m (stT m o P (h_ask P k A j) hx z)) := by
  refine x_start hO (by decide +kernel) (Nat.le_of_ble_eq_true rfl) (fun K C E => ?_)
  have hP0 := hP
  have hQ0 := hQ
  obtain ⟨h8, h6, h16, hnp, hwho, hvb, hts⟩ := hP
  obtain ⟨hq0, hq1, hq2, hq3, hq4, hq5, hq6⟩ := hQ
  have hpF : ∀ L : List x_E, L.length = 9 → x_bk (x_ov M m L) q (pmT q G) := fun L h => x_ov_far 9 hp h hd
  have hoF : ∀ L : List x_E, L.length = 9 → x_bk (x_ov M m L) o [.inr (11, fs)] := fun L h => x_ov_far 9 ho h hdo
  refine x_to (x_ov_self hb).symm ?_
  have hk1 := hnp k hk
  have hw := hwho k j hk hj
  have hqs := hq4 k j hk hj
  have hs36 : 6 * k + j < 36 := by omega
  have hw8 : p_who P (6 * k + j) < 8 := by omega
  have hw9 : p_who P (6 * k + j) < 9 := by omega
  refine x_aload_n C dX10_ask_0 rfl rfl ?_
  refine x_getfield C dX10_ask_1 fX10_3 (x_ovg 0 rfl) rfl ?_
  refine x_getfield C dX10_ask_4 fX10_64 ((hoF _ rfl) 0 _ rfl) ho11 ?_
  refine x_getfield C dX10_ask_7 fX10_80 ((hpF _ rfl) 0 _ rfl) rfl ?_
  refine x_iload_n C dX10_ask_10 rfl rfl ?_
  refine x_iaload C dX10_ask_11 ((hpF _ rfl) 3 _ rfl) (vp_in_nI hs36 (by decide)) ?_
  rw [nI_clamp (show 6 * k + j < 2 ^ 31 by omega)]; rw [hqs.1]
  refine x_istore_n C dX10_ask_12 rfl rfl (by decide) ?_
  refine x_aload_n C dX10_ask_13 rfl rfl ?_
  refine x_getfield C dX10_ask_14 fX10_35 (x_ovg 0 rfl) rfl ?_
  refine x_iload_n C dX10_ask_17 rfl rfl ?_
  refine x_iaload C dX10_ask_18 (x_ovg 7 rfl) (vp_in_nI hs36 (by decide)) ?_
  rw [nI_clamp (show 6 * k + j < 2 ^ 31 by omega)]
  refine x_if_ne (tgt := 31) C dX10_ask_19 (by decide) (fun c19 => ?_) (fun c19 => ?_)
  · refine x_vret C E dX10_ask_31 ?_
    refine ⟨rfl, ?_⟩
    unfold h_ask
    first | (rw [if_neg c19]; done) | (rw [if_pos c19, if_neg c28]; done) | (rw [if_pos c19, if_pos c28, if_pos hg]; rfl) | (rw [if_pos c19, if_pos c28, if_neg hg]; rfl) | fail
  · refine x_aload_n C dX10_ask_22 rfl rfl ?_
    refine x_getfield C dX10_ask_23 fX10_25 (x_ovg 0 rfl) rfl ?_
    refine x_iload_n C dX10_ask_26 rfl rfl ?_
    refine x_baload C dX10_ask_27 (x_ovg 4 rfl) (vp_in_nI hw9 (by decide)) ?_
    rw [nI_clamp (show p_who P (6 * k + j) < 2 ^ 31 by omega)]
    refine x_if_eq (tgt := 32) C dX10_ask_28 (by decide) (fun c28 => ?_) (fun c28 => ?_)
    · refine x_aload_n C dX10_ask_32 rfl rfl ?_
      refine x_getfield C dX10_ask_33 fX10_35 (x_ovg 0 rfl) rfl ?_
      refine x_iload_n C dX10_ask_36 rfl rfl ?_
      refine x_aload_n C dX10_ask_37 rfl rfl ?_
      refine x_iload_n C dX10_ask_38 rfl rfl ?_
      refine x_callV1 C dX10_ask_39 kX10_90 (c_X10_agrees hO hP0 hQ0 hk9 x_ov_bk (hpF _ rfl) (hoF _ rfl) ho11 hs36 hw hqs) (x_ovg 0 rfl) rfl (by decide) ⟨Nat.zero_le _, Nat.zero_le _⟩ (Nat.le_of_ble_eq_true rfl) ?_
      rintro _ _ ⟨rfl, rfl⟩
      refine x_if_eq (tgt := 49) C dX10_ask_42 (by decide) (fun c42 => ?_) (fun c42 => ?_)
      · have hg : ¬ h_agr P A (6 * k + j) = true := fun q => by unfold h_b at c42; rw [if_pos q] at c42; exact absurd c42 (by decide)
        refine x_iconst (v := 2) C dX10_ask_49 (by decide) ?_
        refine x_iastore C dX10_ask_50 (x_ovg 7 rfl) (vp_in_nI hs36 (by decide)) ?_
        refine x_to (x_st_ov 7 (Nat.le_of_ble_eq_true rfl)) ?_
        rw [nI_clamp (show 6 * k + j < 2 ^ 31 by omega)]
        refine x_aload_n C dX10_ask_51 rfl rfl ?_
        refine x_getfield C dX10_ask_52 fX10_35 (x_ovg 0 rfl) rfl ?_
        refine x_iload_n C dX10_ask_55 rfl rfl ?_
        refine x_iaload C dX10_ask_56 (x_ovg 7 rfl) (vp_in_nI hs36 (by decide)) ?_
        rw [nI_clamp (show 6 * k + j < 2 ^ 31 by omega)]
        refine x_iconst (v := 2) C dX10_ask_57 (by decide) ?_
        refine x_icmp_ne (tgt := 62) C dX10_ask_58 (by decide) (fun c58 => ?_) (fun c58 => ?_)
        · exact absurd pk_us c58
        · refine x_vret C E dX10_ask_61 ?_
          refine ⟨rfl, ?_⟩
          unfold h_ask
          first | (rw [if_neg c19]; done) | (rw [if_pos c19, if_neg c28]; done) | (rw [if_pos c19, if_pos c28, if_pos hg]; rfl) | (rw [if_pos c19, if_pos c28, if_neg hg]; rfl) | fail
      · have hg : h_agr P A (6 * k + j) = true := by
          by_cases q : h_agr P A (6 * k + j) = true
          · exact q
          · unfold h_b at c42; rw [if_neg q] at c42; exact absurd rfl c42
        refine x_iconst (v := 1) C dX10_ask_45 (by decide) ?_
        refine x_goto (tgt := 50) C dX10_ask_46 (by decide) ?_
        refine x_iastore C dX10_ask_50 (x_ovg 7 rfl) (vp_in_nI hs36 (by decide)) ?_
        refine x_to (x_st_ov 7 (Nat.le_of_ble_eq_true rfl)) ?_
        rw [nI_clamp (show 6 * k + j < 2 ^ 31 by omega)]
        refine x_aload_n C dX10_ask_51 rfl rfl ?_
        refine x_getfield C dX10_ask_52 fX10_35 (x_ovg 0 rfl) rfl ?_
        refine x_iload_n C dX10_ask_55 rfl rfl ?_
        refine x_iaload C dX10_ask_56 (x_ovg 7 rfl) (vp_in_nI hs36 (by decide)) ?_
        rw [nI_clamp (show 6 * k + j < 2 ^ 31 by omega)]
        refine x_iconst (v := 2) C dX10_ask_57 (by decide) ?_
        refine x_icmp_ne (tgt := 62) C dX10_ask_58 (by decide) (fun c58 => ?_) (fun c58 => ?_)
        · refine x_aload_n C dX10_ask_62 rfl rfl ?_
          refine x_getfield C dX10_ask_63 fX10_19 (x_ovg 0 rfl) rfl ?_
          refine x_iload_n C dX10_ask_66 rfl rfl ?_
          refine x_iload_n C dX10_ask_67 rfl rfl ?_
          refine x_iastore C dX10_ask_68 (x_ovg 2 rfl) (vp_in_nI hw8 (by decide)) ?_
          refine x_to (x_st_ov 2 (Nat.le_of_ble_eq_true rfl)) ?_
          rw [nI_clamp (show p_who P (6 * k + j) < 2 ^ 31 by omega)]
          refine x_aload_n C dX10_ask_69 rfl rfl ?_
          refine x_getfield C dX10_ask_70 fX10_22 (x_ovg 0 rfl) rfl ?_
          refine x_iload_n C dX10_ask_73 rfl rfl ?_
          refine x_dup2 C dX10_ask_74 rfl rfl ?_
          refine x_iaload C dX10_ask_75 (x_ovg 3 rfl) (vp_in_nI hw8 (by decide)) ?_
          rw [nI_clamp (show p_who P (6 * k + j) < 2 ^ 31 by omega)]
          refine x_iconst (v := 1) C dX10_ask_76 (by decide) ?_
          refine x_iadd C dX10_ask_77 ?_
          refine x_iastore C dX10_ask_78 (x_ovg 3 rfl) (vp_in_nI hw8 (by decide)) ?_
          refine x_to (x_st_ov 3 (Nat.le_of_ble_eq_true rfl)) ?_
          rw [nI_clamp (show p_who P (6 * k + j) < 2 ^ 31 by omega)]
          refine x_vret C E dX10_ask_79 ?_
          refine ⟨rfl, ?_⟩
          unfold h_ask
          first | (rw [if_neg c19]; done) | (rw [if_pos c19, if_neg c28]; done) | (rw [if_pos c19, if_pos c28, if_pos hg]; rfl) | (rw [if_pos c19, if_pos c28, if_neg hg]; rfl) | fail
        · exact absurd c58 (by rw [pk_us]; decide)
    · refine x_vret C E dX10_ask_31 ?_
      refine ⟨rfl, ?_⟩
      unfold h_ask
      first | (rw [if_neg c19]; done) | (rw [if_pos c19, if_neg c28]; done) | (rw [if_pos c19, if_pos c28, if_pos hg]; rfl) | (rw [if_pos c19, if_pos c28, if_neg hg]; rfl) | fail
set_option maxHeartbeats 4000000 in
set_option maxRecDepth 100000 in
theorem c_X10_settle {l : Launch} {Y0 : x_Y} (hO : x_Ok Y0) {M : x_M} {m o q : Nat} {P : PL} {A : HS} {hx : Nat → Int32} {z : Int32} {G : HS} {fs : List Value} (hP : p_ok P) (hQ : g_is G P) (hk9 : h_ok P A) (hb : x_bk M m (stT m o P A hx z)) (hp : x_bk M q (pmT q G)) (ho : x_bk M o [.inr (11, fs)]) (ho11 : fs[11]? = some (.ref q)) (hd : q + 11 ≤ m ∨ m + 9 ≤ q) (hdo : o + 1 ≤ m ∨ m + 9 ≤ o) {k : Nat} (hk : k < p_nk P) (h1 : A 4 k = 1) : x_C l Y0 yX10_settle cX10_settle 2 none 2 0 0 [.ref m, .int (nI k)] M (fun u M1 => u = none ∧ M1 = x_ov M m (stT m o P (h_dec1 P A k) hx z)) := by
  refine x_start hO (by decide +kernel) (Nat.le_of_ble_eq_true rfl) (fun K C E => ?_)
  have hP0 := hP
  have hQ0 := hQ
  obtain ⟨h8, h6, h16, hnp, hwho, hvb, hts⟩ := hP
  obtain ⟨hq0, hq1, hq2, hq3, hq4, hq5, hq6⟩ := hQ
  have hpF : ∀ L : List x_E, L.length = 9 → x_bk (x_ov M m L) q (pmT q G) := fun L h => x_ov_far 9 hp h hd
  have hoF : ∀ L : List x_E, L.length = 9 → x_bk (x_ov M m L) o [.inr (11, fs)] := fun L h => x_ov_far 9 ho h hdo
  refine x_to (x_ov_self hb).symm ?_
  have hk1 := hnp k hk
  refine x_aload_n C dX10_settle_0 rfl rfl ?_
  refine x_iload_n C dX10_settle_1 rfl rfl ?_
  refine x_iconst (v := 2) C dX10_settle_2 (by decide) ?_
  refine x_callV2 C dX10_settle_3 kX10_135 (c_X10_votes hO hP0 hQ0 hk9 x_ov_bk (hpF _ rfl) (hoF _ rfl) ho11 hk) (x_ovg 0 rfl) rfl (by decide) ⟨Nat.zero_le _, Nat.zero_le _⟩ (Nat.le_of_ble_eq_true rfl) ?_
  rintro _ _ ⟨rfl, rfl⟩
  refine x_if_le (tgt := 19) C dX10_settle_6 (by decide) (fun c6 => ?_) (fun c6 => ?_)
  · refine x_aload_n C dX10_settle_19 rfl rfl ?_
    refine x_iload_n C dX10_settle_20 rfl rfl ?_
    refine x_iconst (v := 1) C dX10_settle_21 (by decide) ?_
    refine x_callV2 C dX10_settle_22 kX10_135 (c_X10_votes hO hP0 hQ0 hk9 x_ov_bk (hpF _ rfl) (hoF _ rfl) ho11 hk) (x_ovg 0 rfl) rfl (by decide) ⟨Nat.zero_le _, Nat.zero_le _⟩ (Nat.le_of_ble_eq_true rfl) ?_
    rintro _ _ ⟨rfl, rfl⟩
    refine x_aload_n C dX10_settle_25 rfl rfl ?_
    refine x_getfield C dX10_settle_26 fX10_3 (x_ovg 0 rfl) rfl ?_
    refine x_getfield C dX10_settle_29 fX10_64 ((hoF _ rfl) 0 _ rfl) ho11 ?_
    refine x_getfield C dX10_settle_32 fX10_77 ((hpF _ rfl) 0 _ rfl) rfl ?_
    refine x_iload_n C dX10_settle_35 rfl rfl ?_
    refine x_iaload C dX10_settle_36 ((hpF _ rfl) 2 _ rfl) (vp_in_nI (show k < 6 by omega) (by decide)) ?_
    rw [nI_clamp (show k < 2 ^ 31 by omega)]
    rw [hq3 k hk]
    refine x_icmp_ne (tgt := 50) C dX10_settle_37 (by decide) (fun c37 => ?_) (fun c37 => ?_)
    · refine x_aload_n C dX10_settle_50 rfl rfl ?_
      refine x_getfield C dX10_settle_51 fX10_41 (x_ovg 0 rfl) rfl ?_
      refine x_aload_n C dX10_settle_54 rfl rfl ?_
      refine x_getfield C dX10_settle_55 fX10_32 (x_ovg 0 rfl) rfl ?_
      refine x_iload_n C dX10_settle_58 rfl rfl ?_
      refine x_iaload C dX10_settle_59 (x_ovg 6 rfl) (vp_in_nI (show k < 6 by omega) (by decide)) ?_
      rw [nI_clamp (show k < 2 ^ 31 by omega)]
      refine x_isub C dX10_settle_60 ?_
      refine x_iconst (v := 3) C dX10_settle_61 (by decide) ?_
      refine x_icmp_lt (tgt := 72) C dX10_settle_62 (by decide) (fun c62 => ?_) (fun c62 => ?_)
      · refine x_vret C E dX10_settle_72 ?_
        refine ⟨rfl, ?_⟩
        unfold h_dec1 h_waits
        rw [if_pos h1, if_pos h1]
        first | (rw [if_pos (Int32.not_le.mp c6)]; rfl) | (rw [if_neg (fun q => Int32.not_le.mpr q c6), if_pos c37]; rfl) | (rw [if_neg (fun q => Int32.not_le.mpr q c6), if_neg c37, if_pos (Int32.not_lt.mp c62)]; rfl) | (rw [if_neg (fun q => Int32.not_le.mpr q c6), if_neg c37, if_neg (fun q => Int32.not_lt.mpr q c62)]; done) | fail
      · refine x_aload_n C dX10_settle_65 rfl rfl ?_
        refine x_getfield C dX10_settle_66 fX10_29 (x_ovg 0 rfl) rfl ?_
        refine x_iload_n C dX10_settle_69 rfl rfl ?_
        refine x_iconst (v := 3) C dX10_settle_70 (by decide) ?_
        refine x_iastore C dX10_settle_71 (x_ovg 5 rfl) (vp_in_nI (show k < 6 by omega) (by decide)) ?_
        refine x_to (x_st_ov 5 (Nat.le_of_ble_eq_true rfl)) ?_
        rw [nI_clamp (show k < 2 ^ 31 by omega)]
        refine x_vret C E dX10_settle_72 ?_
        refine ⟨rfl, ?_⟩
        unfold h_dec1 h_waits
        rw [if_pos h1, if_pos h1]
        first | (rw [if_pos (Int32.not_le.mp c6)]; rfl) | (rw [if_neg (fun q => Int32.not_le.mpr q c6), if_pos c37]; rfl) | (rw [if_neg (fun q => Int32.not_le.mpr q c6), if_neg c37, if_pos (Int32.not_lt.mp c62)]; rfl) | (rw [if_neg (fun q => Int32.not_le.mpr q c6), if_neg c37, if_neg (fun q => Int32.not_lt.mpr q c62)]; done) | fail
    · refine x_aload_n C dX10_settle_40 rfl rfl ?_
      refine x_getfield C dX10_settle_41 fX10_29 (x_ovg 0 rfl) rfl ?_
      refine x_iload_n C dX10_settle_44 rfl rfl ?_
      refine x_iconst (v := 2) C dX10_settle_45 (by decide) ?_
      refine x_iastore C dX10_settle_46 (x_ovg 5 rfl) (vp_in_nI (show k < 6 by omega) (by decide)) ?_
      refine x_to (x_st_ov 5 (Nat.le_of_ble_eq_true rfl)) ?_
      rw [nI_clamp (show k < 2 ^ 31 by omega)]
      refine x_goto (tgt := 72) C dX10_settle_47 (by decide) ?_
      refine x_vret C E dX10_settle_72 ?_
      refine ⟨rfl, ?_⟩
      unfold h_dec1 h_waits
      rw [if_pos h1, if_pos h1]
      first | (rw [if_pos (Int32.not_le.mp c6)]; rfl) | (rw [if_neg (fun q => Int32.not_le.mpr q c6), if_pos c37]; rfl) | (rw [if_neg (fun q => Int32.not_le.mpr q c6), if_neg c37, if_pos (Int32.not_lt.mp c62)]; rfl) | (rw [if_neg (fun q => Int32.not_le.mpr q c6), if_neg c37, if_neg (fun q => Int32.not_lt.mpr q c62)]; done) | fail
  · refine x_aload_n C dX10_settle_9 rfl rfl ?_
    refine x_getfield C dX10_settle_10 fX10_29 (x_ovg 0 rfl) rfl ?_
    refine x_iload_n C dX10_settle_13 rfl rfl ?_
    refine x_iconst (v := 3) C dX10_settle_14 (by decide) ?_
    refine x_iastore C dX10_settle_15 (x_ovg 5 rfl) (vp_in_nI (show k < 6 by omega) (by decide)) ?_
    refine x_to (x_st_ov 5 (Nat.le_of_ble_eq_true rfl)) ?_
    rw [nI_clamp (show k < 2 ^ 31 by omega)]
    refine x_goto (tgt := 72) C dX10_settle_16 (by decide) ?_
    refine x_vret C E dX10_settle_72 ?_
    refine ⟨rfl, ?_⟩
    unfold h_dec1 h_waits
    rw [if_pos h1, if_pos h1]
    first | (rw [if_pos (Int32.not_le.mp c6)]; rfl) | (rw [if_neg (fun q => Int32.not_le.mpr q c6), if_pos c37]; rfl) | (rw [if_neg (fun q => Int32.not_le.mpr q c6), if_neg c37, if_pos (Int32.not_lt.mp c62)]; rfl) | (rw [if_neg (fun q => Int32.not_le.mpr q c6), if_neg c37, if_neg (fun q => Int32.not_lt.mpr q c62)]; done) | fail
theorem h_any_or {q : Nat → Bool} {b : Bool} : ∀ n, (h_any (fun j => q j) n = true ∨ h_any (fun j => q j) n = false) := fun n => by cases h_any (fun j => q j) n <;> simp
theorem ior_b (a b : Bool) : h_b a ||| h_b b = h_b (a || b) := by cases a <;> cases b <;> rfl
theorem h_any_ext {q q' : Nat → Bool} : ∀ n, (∀ j, j < n → q j = q' j) → h_any q n = h_any q' n := by
  intro n
  induction n with
  | zero => intro _; rfl
  | succ n ih => intro h; unfold h_any; rw [ih (fun j hj => h j (by omega)), h n (by omega)]
set_option maxHeartbeats 4000000 in
set_option maxRecDepth 100000 in
theorem c_X10_isTold {l : Launch} {Y0 : x_Y} (hO : x_Ok Y0) {M : x_M} {m o q : Nat} {P : PL} {A : HS} {hx : Nat → Int32} {z : Int32} {G : HS} {fs : List Value} (hP : p_ok P) (hQ : g_is G P) (hk9 : h_ok P A) (hb : x_bk M m (stT m o P A hx z)) (hp : x_bk M q (pmT q G)) (ho : x_bk M o [.inr (11, fs)]) (ho11 : fs[11]? = some (.ref q)) {k j : Nat} (hk : k < p_nk P) (hj : j < p_np P k) : x_C l Y0 yX10_isTold cX10_isTold 5 (some .boolean) 1 0 0 [.ref m, .int (nI k), .int (nI (6 * k + j))] M (fun u M1 => u = some (.int (h_b (A 1 8 == 0 || h_any (fun i => !(i == j) && (A 7 (6 * k + i) != 0 && A 1 (p_who P (6 * k + i)) == 0)) (p_np P k)))) ∧ M1 = M) := by
  refine x_start hO (by decide +kernel) (Nat.le_of_ble_eq_true rfl) (fun K C E => ?_)
  have hP0 := hP
  have hQ0 := hQ
  obtain ⟨h8, h6, h16, hnp, hwho, hvb, hts⟩ := hP
  obtain ⟨hq0, hq1, hq2, hq3, hq4, hq5, hq6⟩ := hQ
  have hk1 := hnp k hk
  have hw := hwho k j hk hj
  have hqs := hq4 k j hk hj
  have hs36 : 6 * k + j < 36 := by omega
  have hw8 : p_who P (6 * k + j) < 8 := by omega
  have hw9 : p_who P (6 * k + j) < 9 := by omega
  have lp : ∀ (w i : Nat) (x y : Int32), i + w = p_np P k → x = nI (6 * k + i) → y = h_b (A 1 8 == 0 || h_any (fun i => !(i == j) && (A 7 (6 * k + i) != 0 && A 1 (p_who P (6 * k + i)) == 0)) i) → x_X K 5 0 0 22 [(0, .ref m), (1, .int (nI k)), (2, .int (nI (6 * k + j))), (3, .int y), (4, .int x)] [] M := by
    intro w
    induction w with
    | zero =>
      intro i x y hi hx9 hy
      subst hx9
      have e : i = p_np P k := by omega
      subst e
      refine x_iload C dX10_isTold_22 rfl ?_
      refine x_bipush (v := 6) C dX10_isTold_24 (by decide) ?_
      refine x_iload_n C dX10_isTold_26 rfl rfl ?_
      refine x_imul C dX10_isTold_27 ?_
      refine x_aload_n C dX10_isTold_28 rfl rfl ?_
      refine x_getfield C dX10_isTold_29 fX10_3 (hb 0 _ rfl) rfl ?_
      refine x_getfield C dX10_isTold_32 fX10_64 (ho 0 _ rfl) ho11 ?_
      refine x_getfield C dX10_isTold_35 fX10_77 (hp 0 _ rfl) rfl ?_
      refine x_iload_n C dX10_isTold_38 rfl rfl ?_
      refine x_iaload C dX10_isTold_39 (hp 2 _ rfl) (vp_in_nI (show k < 6 by omega) (by decide)) ?_
      rw [nI_clamp (show k < 2 ^ 31 by omega)]
      rw [hq3 k hk]
      refine x_iadd C dX10_isTold_40 ?_
      refine x_icmp_ge (tgt := 95) C dX10_isTold_41 (by decide) (fun c41 => ?_) (fun c41 => absurd (by rw [six_nI, nI_add]; exact nI_le (Nat.le_refl _) (by omega)) c41)
      refine x_iload_n C dX10_isTold_95 rfl rfl ?_
      refine x_zret C E dX10_isTold_96 ?_ ?_
      · rw [hy]; unfold h_b; split <;> rfl
      · exact ⟨by rw [hy], rfl⟩
    | succ w ih =>
      intro i x y hi hx9 hy
      subst hx9
      have hwi := hwho k i hk (by omega)
      have hqi := hq4 k i hk (by omega)
      have hsi : 6 * k + i < 36 := by omega
      refine x_iload C dX10_isTold_22 rfl ?_
      refine x_bipush (v := 6) C dX10_isTold_24 (by decide) ?_
      refine x_iload_n C dX10_isTold_26 rfl rfl ?_
      refine x_imul C dX10_isTold_27 ?_
      refine x_aload_n C dX10_isTold_28 rfl rfl ?_
      refine x_getfield C dX10_isTold_29 fX10_3 (hb 0 _ rfl) rfl ?_
      refine x_getfield C dX10_isTold_32 fX10_64 (ho 0 _ rfl) ho11 ?_
      refine x_getfield C dX10_isTold_35 fX10_77 (hp 0 _ rfl) rfl ?_
      refine x_iload_n C dX10_isTold_38 rfl rfl ?_
      refine x_iaload C dX10_isTold_39 (hp 2 _ rfl) (vp_in_nI (show k < 6 by omega) (by decide)) ?_
      rw [nI_clamp (show k < 2 ^ 31 by omega)]
      rw [hq3 k hk]
      refine x_iadd C dX10_isTold_40 ?_
      refine x_icmp_ge (tgt := 95) C dX10_isTold_41 (by decide) (fun c41 => absurd c41 (by rw [six_nI, nI_add]; exact nI_ge (by omega) (by omega))) (fun c41 => ?_)
      refine x_iload_n C dX10_isTold_44 rfl rfl ?_
      refine x_iload C dX10_isTold_45 rfl ?_
      refine x_iload_n C dX10_isTold_47 rfl rfl ?_
      refine x_icmp_eq (tgt := 86) C dX10_isTold_48 (by decide) (fun c48 => ?_) (fun c48 => ?_)
      · have hj9 : i = j := by
          have := (nI_eq (by omega) (by omega)).mp c48
          omega
        have ej : (i == j) = true := by simp [hj9]
        refine x_iconst (v := 0) C dX10_isTold_86 (by decide) ?_
        refine x_ior C dX10_isTold_87 ?_
        refine x_istore_n C dX10_isTold_88 rfl rfl (by decide) ?_
        refine x_iinc (v := 1) C dX10_isTold_89 rfl (by decide) rfl (by decide) ?_
        refine x_goto (tgt := 22) C dX10_isTold_92 (by decide) ?_
        refine x_take 5 ?_
        first
          | (refine ih (i + 1) _ _ (by omega) (nI_1 (6 * k + i)) ?_; rw [hy, show h_any (fun i => !(i == j) && (A 7 (6 * k + i) != 0 && A 1 (p_who P (6 * k + i)) == 0)) (i + 1) = (h_any (fun i => !(i == j) && (A 7 (6 * k + i) != 0 && A 1 (p_who P (6 * k + i)) == 0)) i || (fun i => !(i == j) && (A 7 (6 * k + i) != 0 && A 1 (p_who P (6 * k + i)) == 0)) i) from rfl]; show h_b _ ||| h_b false = _; rw [ior_b]; simp [ej]; done)
          | (refine ih (i + 1) _ _ (by omega) (nI_1 (6 * k + i)) ?_; rw [hy, show h_any (fun i => !(i == j) && (A 7 (6 * k + i) != 0 && A 1 (p_who P (6 * k + i)) == 0)) (i + 1) = (h_any (fun i => !(i == j) && (A 7 (6 * k + i) != 0 && A 1 (p_who P (6 * k + i)) == 0)) i || (fun i => !(i == j) && (A 7 (6 * k + i) != 0 && A 1 (p_who P (6 * k + i)) == 0)) i) from rfl]; show h_b _ ||| h_b false = _; rw [ior_b]; simp [ej, e7]; done)
          | (refine ih (i + 1) _ _ (by omega) (nI_1 (6 * k + i)) ?_; rw [hy, show h_any (fun i => !(i == j) && (A 7 (6 * k + i) != 0 && A 1 (p_who P (6 * k + i)) == 0)) (i + 1) = (h_any (fun i => !(i == j) && (A 7 (6 * k + i) != 0 && A 1 (p_who P (6 * k + i)) == 0)) i || (fun i => !(i == j) && (A 7 (6 * k + i) != 0 && A 1 (p_who P (6 * k + i)) == 0)) i) from rfl]; show h_b _ ||| h_b false = _; rw [ior_b]; simp [ej, e7, e1]; done)
          | (refine ih (i + 1) _ _ (by omega) (nI_1 (6 * k + i)) ?_; rw [hy, show h_any (fun i => !(i == j) && (A 7 (6 * k + i) != 0 && A 1 (p_who P (6 * k + i)) == 0)) (i + 1) = (h_any (fun i => !(i == j) && (A 7 (6 * k + i) != 0 && A 1 (p_who P (6 * k + i)) == 0)) i || (fun i => !(i == j) && (A 7 (6 * k + i) != 0 && A 1 (p_who P (6 * k + i)) == 0)) i) from rfl]; show h_b _ ||| h_b true = _; rw [ior_b]; simp [ej]; done)
          | (refine ih (i + 1) _ _ (by omega) (nI_1 (6 * k + i)) ?_; rw [hy, show h_any (fun i => !(i == j) && (A 7 (6 * k + i) != 0 && A 1 (p_who P (6 * k + i)) == 0)) (i + 1) = (h_any (fun i => !(i == j) && (A 7 (6 * k + i) != 0 && A 1 (p_who P (6 * k + i)) == 0)) i || (fun i => !(i == j) && (A 7 (6 * k + i) != 0 && A 1 (p_who P (6 * k + i)) == 0)) i) from rfl]; show h_b _ ||| h_b true = _; rw [ior_b]; simp [ej, e7]; done)
          | (refine ih (i + 1) _ _ (by omega) (nI_1 (6 * k + i)) ?_; rw [hy, show h_any (fun i => !(i == j) && (A 7 (6 * k + i) != 0 && A 1 (p_who P (6 * k + i)) == 0)) (i + 1) = (h_any (fun i => !(i == j) && (A 7 (6 * k + i) != 0 && A 1 (p_who P (6 * k + i)) == 0)) i || (fun i => !(i == j) && (A 7 (6 * k + i) != 0 && A 1 (p_who P (6 * k + i)) == 0)) i) from rfl]; show h_b _ ||| h_b true = _; rw [ior_b]; simp [ej, e7, e1]; done)
          | fail
      · have hj9 : ¬ i = j := fun h => c48 (by rw [h])
        have ej : (i == j) = false := by simp [hj9]
        refine x_aload_n C dX10_isTold_51 rfl rfl ?_
        refine x_getfield C dX10_isTold_52 fX10_38 (hb 0 _ rfl) rfl ?_
        refine x_iload C dX10_isTold_55 rfl ?_
        refine x_baload C dX10_isTold_57 (hb 8 _ rfl) (vp_in_nI hsi (by decide)) ?_
        rw [nI_clamp (show 6 * k + i < 2 ^ 31 by omega)]
        refine x_if_eq (tgt := 86) C dX10_isTold_58 (by decide) (fun c58 => ?_) (fun c58 => ?_)
        · have e7 : (A 7 (6 * k + i) != 0) = false := by simp [c58]
          refine x_iconst (v := 0) C dX10_isTold_86 (by decide) ?_
          refine x_ior C dX10_isTold_87 ?_
          refine x_istore_n C dX10_isTold_88 rfl rfl (by decide) ?_
          refine x_iinc (v := 1) C dX10_isTold_89 rfl (by decide) rfl (by decide) ?_
          refine x_goto (tgt := 22) C dX10_isTold_92 (by decide) ?_
          refine x_take 5 ?_
          first
            | (refine ih (i + 1) _ _ (by omega) (nI_1 (6 * k + i)) ?_; rw [hy, show h_any (fun i => !(i == j) && (A 7 (6 * k + i) != 0 && A 1 (p_who P (6 * k + i)) == 0)) (i + 1) = (h_any (fun i => !(i == j) && (A 7 (6 * k + i) != 0 && A 1 (p_who P (6 * k + i)) == 0)) i || (fun i => !(i == j) && (A 7 (6 * k + i) != 0 && A 1 (p_who P (6 * k + i)) == 0)) i) from rfl]; show h_b _ ||| h_b false = _; rw [ior_b]; simp [ej]; done)
            | (refine ih (i + 1) _ _ (by omega) (nI_1 (6 * k + i)) ?_; rw [hy, show h_any (fun i => !(i == j) && (A 7 (6 * k + i) != 0 && A 1 (p_who P (6 * k + i)) == 0)) (i + 1) = (h_any (fun i => !(i == j) && (A 7 (6 * k + i) != 0 && A 1 (p_who P (6 * k + i)) == 0)) i || (fun i => !(i == j) && (A 7 (6 * k + i) != 0 && A 1 (p_who P (6 * k + i)) == 0)) i) from rfl]; show h_b _ ||| h_b false = _; rw [ior_b]; simp [ej, e7]; done)
            | (refine ih (i + 1) _ _ (by omega) (nI_1 (6 * k + i)) ?_; rw [hy, show h_any (fun i => !(i == j) && (A 7 (6 * k + i) != 0 && A 1 (p_who P (6 * k + i)) == 0)) (i + 1) = (h_any (fun i => !(i == j) && (A 7 (6 * k + i) != 0 && A 1 (p_who P (6 * k + i)) == 0)) i || (fun i => !(i == j) && (A 7 (6 * k + i) != 0 && A 1 (p_who P (6 * k + i)) == 0)) i) from rfl]; show h_b _ ||| h_b false = _; rw [ior_b]; simp [ej, e7, e1]; done)
            | (refine ih (i + 1) _ _ (by omega) (nI_1 (6 * k + i)) ?_; rw [hy, show h_any (fun i => !(i == j) && (A 7 (6 * k + i) != 0 && A 1 (p_who P (6 * k + i)) == 0)) (i + 1) = (h_any (fun i => !(i == j) && (A 7 (6 * k + i) != 0 && A 1 (p_who P (6 * k + i)) == 0)) i || (fun i => !(i == j) && (A 7 (6 * k + i) != 0 && A 1 (p_who P (6 * k + i)) == 0)) i) from rfl]; show h_b _ ||| h_b true = _; rw [ior_b]; simp [ej]; done)
            | (refine ih (i + 1) _ _ (by omega) (nI_1 (6 * k + i)) ?_; rw [hy, show h_any (fun i => !(i == j) && (A 7 (6 * k + i) != 0 && A 1 (p_who P (6 * k + i)) == 0)) (i + 1) = (h_any (fun i => !(i == j) && (A 7 (6 * k + i) != 0 && A 1 (p_who P (6 * k + i)) == 0)) i || (fun i => !(i == j) && (A 7 (6 * k + i) != 0 && A 1 (p_who P (6 * k + i)) == 0)) i) from rfl]; show h_b _ ||| h_b true = _; rw [ior_b]; simp [ej, e7]; done)
            | (refine ih (i + 1) _ _ (by omega) (nI_1 (6 * k + i)) ?_; rw [hy, show h_any (fun i => !(i == j) && (A 7 (6 * k + i) != 0 && A 1 (p_who P (6 * k + i)) == 0)) (i + 1) = (h_any (fun i => !(i == j) && (A 7 (6 * k + i) != 0 && A 1 (p_who P (6 * k + i)) == 0)) i || (fun i => !(i == j) && (A 7 (6 * k + i) != 0 && A 1 (p_who P (6 * k + i)) == 0)) i) from rfl]; show h_b _ ||| h_b true = _; rw [ior_b]; simp [ej, e7, e1]; done)
            | fail
        · have e7 : (A 7 (6 * k + i) != 0) = true := by simp [c58]
          refine x_aload_n C dX10_isTold_61 rfl rfl ?_
          refine x_getfield C dX10_isTold_62 fX10_25 (hb 0 _ rfl) rfl ?_
          refine x_aload_n C dX10_isTold_65 rfl rfl ?_
          refine x_getfield C dX10_isTold_66 fX10_3 (hb 0 _ rfl) rfl ?_
          refine x_getfield C dX10_isTold_69 fX10_64 (ho 0 _ rfl) ho11 ?_
          refine x_getfield C dX10_isTold_72 fX10_80 (hp 0 _ rfl) rfl ?_
          refine x_iload C dX10_isTold_75 rfl ?_
          refine x_iaload C dX10_isTold_77 (hp 3 _ rfl) (vp_in_nI hsi (by decide)) ?_
          rw [nI_clamp (show 6 * k + i < 2 ^ 31 by omega)]
          rw [hqi.1]
          refine x_baload C dX10_isTold_78 (hb 4 _ rfl) (vp_in_nI (show p_who P (6 * k + i) < 9 by omega) (by decide)) ?_
          rw [nI_clamp (show p_who P (6 * k + i) < 2 ^ 31 by omega)]
          refine x_if_ne (tgt := 86) C dX10_isTold_79 (by decide) (fun c79 => ?_) (fun c79 => ?_)
          · have e1 : (A 1 (p_who P (6 * k + i)) == 0) = false := by simp [c79]
            refine x_iconst (v := 0) C dX10_isTold_86 (by decide) ?_
            refine x_ior C dX10_isTold_87 ?_
            refine x_istore_n C dX10_isTold_88 rfl rfl (by decide) ?_
            refine x_iinc (v := 1) C dX10_isTold_89 rfl (by decide) rfl (by decide) ?_
            refine x_goto (tgt := 22) C dX10_isTold_92 (by decide) ?_
            refine x_take 5 ?_
            first
              | (refine ih (i + 1) _ _ (by omega) (nI_1 (6 * k + i)) ?_; rw [hy, show h_any (fun i => !(i == j) && (A 7 (6 * k + i) != 0 && A 1 (p_who P (6 * k + i)) == 0)) (i + 1) = (h_any (fun i => !(i == j) && (A 7 (6 * k + i) != 0 && A 1 (p_who P (6 * k + i)) == 0)) i || (fun i => !(i == j) && (A 7 (6 * k + i) != 0 && A 1 (p_who P (6 * k + i)) == 0)) i) from rfl]; show h_b _ ||| h_b false = _; rw [ior_b]; simp [ej]; done)
              | (refine ih (i + 1) _ _ (by omega) (nI_1 (6 * k + i)) ?_; rw [hy, show h_any (fun i => !(i == j) && (A 7 (6 * k + i) != 0 && A 1 (p_who P (6 * k + i)) == 0)) (i + 1) = (h_any (fun i => !(i == j) && (A 7 (6 * k + i) != 0 && A 1 (p_who P (6 * k + i)) == 0)) i || (fun i => !(i == j) && (A 7 (6 * k + i) != 0 && A 1 (p_who P (6 * k + i)) == 0)) i) from rfl]; show h_b _ ||| h_b false = _; rw [ior_b]; simp [ej, e7]; done)
              | (refine ih (i + 1) _ _ (by omega) (nI_1 (6 * k + i)) ?_; rw [hy, show h_any (fun i => !(i == j) && (A 7 (6 * k + i) != 0 && A 1 (p_who P (6 * k + i)) == 0)) (i + 1) = (h_any (fun i => !(i == j) && (A 7 (6 * k + i) != 0 && A 1 (p_who P (6 * k + i)) == 0)) i || (fun i => !(i == j) && (A 7 (6 * k + i) != 0 && A 1 (p_who P (6 * k + i)) == 0)) i) from rfl]; show h_b _ ||| h_b false = _; rw [ior_b]; simp [ej, e7, e1]; done)
              | (refine ih (i + 1) _ _ (by omega) (nI_1 (6 * k + i)) ?_; rw [hy, show h_any (fun i => !(i == j) && (A 7 (6 * k + i) != 0 && A 1 (p_who P (6 * k + i)) == 0)) (i + 1) = (h_any (fun i => !(i == j) && (A 7 (6 * k + i) != 0 && A 1 (p_who P (6 * k + i)) == 0)) i || (fun i => !(i == j) && (A 7 (6 * k + i) != 0 && A 1 (p_who P (6 * k + i)) == 0)) i) from rfl]; show h_b _ ||| h_b true = _; rw [ior_b]; simp [ej]; done)
              | (refine ih (i + 1) _ _ (by omega) (nI_1 (6 * k + i)) ?_; rw [hy, show h_any (fun i => !(i == j) && (A 7 (6 * k + i) != 0 && A 1 (p_who P (6 * k + i)) == 0)) (i + 1) = (h_any (fun i => !(i == j) && (A 7 (6 * k + i) != 0 && A 1 (p_who P (6 * k + i)) == 0)) i || (fun i => !(i == j) && (A 7 (6 * k + i) != 0 && A 1 (p_who P (6 * k + i)) == 0)) i) from rfl]; show h_b _ ||| h_b true = _; rw [ior_b]; simp [ej, e7]; done)
              | (refine ih (i + 1) _ _ (by omega) (nI_1 (6 * k + i)) ?_; rw [hy, show h_any (fun i => !(i == j) && (A 7 (6 * k + i) != 0 && A 1 (p_who P (6 * k + i)) == 0)) (i + 1) = (h_any (fun i => !(i == j) && (A 7 (6 * k + i) != 0 && A 1 (p_who P (6 * k + i)) == 0)) i || (fun i => !(i == j) && (A 7 (6 * k + i) != 0 && A 1 (p_who P (6 * k + i)) == 0)) i) from rfl]; show h_b _ ||| h_b true = _; rw [ior_b]; simp [ej, e7, e1]; done)
              | fail
          · have e1 : (A 1 (p_who P (6 * k + i)) == 0) = true := by simp [c79]
            refine x_iconst (v := 1) C dX10_isTold_82 (by decide) ?_
            refine x_goto (tgt := 87) C dX10_isTold_83 (by decide) ?_
            refine x_ior C dX10_isTold_87 ?_
            refine x_istore_n C dX10_isTold_88 rfl rfl (by decide) ?_
            refine x_iinc (v := 1) C dX10_isTold_89 rfl (by decide) rfl (by decide) ?_
            refine x_goto (tgt := 22) C dX10_isTold_92 (by decide) ?_
            refine x_take 5 ?_
            first
              | (refine ih (i + 1) _ _ (by omega) (nI_1 (6 * k + i)) ?_; rw [hy, show h_any (fun i => !(i == j) && (A 7 (6 * k + i) != 0 && A 1 (p_who P (6 * k + i)) == 0)) (i + 1) = (h_any (fun i => !(i == j) && (A 7 (6 * k + i) != 0 && A 1 (p_who P (6 * k + i)) == 0)) i || (fun i => !(i == j) && (A 7 (6 * k + i) != 0 && A 1 (p_who P (6 * k + i)) == 0)) i) from rfl]; show h_b _ ||| h_b false = _; rw [ior_b]; simp [ej]; done)
              | (refine ih (i + 1) _ _ (by omega) (nI_1 (6 * k + i)) ?_; rw [hy, show h_any (fun i => !(i == j) && (A 7 (6 * k + i) != 0 && A 1 (p_who P (6 * k + i)) == 0)) (i + 1) = (h_any (fun i => !(i == j) && (A 7 (6 * k + i) != 0 && A 1 (p_who P (6 * k + i)) == 0)) i || (fun i => !(i == j) && (A 7 (6 * k + i) != 0 && A 1 (p_who P (6 * k + i)) == 0)) i) from rfl]; show h_b _ ||| h_b false = _; rw [ior_b]; simp [ej, e7]; done)
              | (refine ih (i + 1) _ _ (by omega) (nI_1 (6 * k + i)) ?_; rw [hy, show h_any (fun i => !(i == j) && (A 7 (6 * k + i) != 0 && A 1 (p_who P (6 * k + i)) == 0)) (i + 1) = (h_any (fun i => !(i == j) && (A 7 (6 * k + i) != 0 && A 1 (p_who P (6 * k + i)) == 0)) i || (fun i => !(i == j) && (A 7 (6 * k + i) != 0 && A 1 (p_who P (6 * k + i)) == 0)) i) from rfl]; show h_b _ ||| h_b false = _; rw [ior_b]; simp [ej, e7, e1]; done)
              | (refine ih (i + 1) _ _ (by omega) (nI_1 (6 * k + i)) ?_; rw [hy, show h_any (fun i => !(i == j) && (A 7 (6 * k + i) != 0 && A 1 (p_who P (6 * k + i)) == 0)) (i + 1) = (h_any (fun i => !(i == j) && (A 7 (6 * k + i) != 0 && A 1 (p_who P (6 * k + i)) == 0)) i || (fun i => !(i == j) && (A 7 (6 * k + i) != 0 && A 1 (p_who P (6 * k + i)) == 0)) i) from rfl]; show h_b _ ||| h_b true = _; rw [ior_b]; simp [ej]; done)
              | (refine ih (i + 1) _ _ (by omega) (nI_1 (6 * k + i)) ?_; rw [hy, show h_any (fun i => !(i == j) && (A 7 (6 * k + i) != 0 && A 1 (p_who P (6 * k + i)) == 0)) (i + 1) = (h_any (fun i => !(i == j) && (A 7 (6 * k + i) != 0 && A 1 (p_who P (6 * k + i)) == 0)) i || (fun i => !(i == j) && (A 7 (6 * k + i) != 0 && A 1 (p_who P (6 * k + i)) == 0)) i) from rfl]; show h_b _ ||| h_b true = _; rw [ior_b]; simp [ej, e7]; done)
              | (refine ih (i + 1) _ _ (by omega) (nI_1 (6 * k + i)) ?_; rw [hy, show h_any (fun i => !(i == j) && (A 7 (6 * k + i) != 0 && A 1 (p_who P (6 * k + i)) == 0)) (i + 1) = (h_any (fun i => !(i == j) && (A 7 (6 * k + i) != 0 && A 1 (p_who P (6 * k + i)) == 0)) i || (fun i => !(i == j) && (A 7 (6 * k + i) != 0 && A 1 (p_who P (6 * k + i)) == 0)) i) from rfl]; show h_b _ ||| h_b true = _; rw [ior_b]; simp [ej, e7, e1]; done)
              | fail
  refine x_aload_n C dX10_isTold_0 rfl rfl ?_
  refine x_getfield C dX10_isTold_1 fX10_25 (hb 0 _ rfl) rfl ?_
  refine x_bipush (v := 8) C dX10_isTold_4 (by decide) ?_
  refine x_baload C dX10_isTold_6 (hb 4 _ rfl) (vp_in_nI (n := 8) (show 8 < 9 by decide) (by decide)) ?_
  rw [show (8 : Int32).toNatClampNeg = 8 from rfl]
  refine x_if_ne (tgt := 14) C dX10_isTold_7 (by decide) (fun c7 => ?_) (fun c7 => ?_)
  · refine x_iconst (v := 0) C dX10_isTold_14 (by decide) ?_
    refine x_istore_n C dX10_isTold_15 rfl rfl (by decide) ?_
    refine x_bipush (v := 6) C dX10_isTold_16 (by decide) ?_
    refine x_iload_n C dX10_isTold_18 rfl rfl ?_
    refine x_imul C dX10_isTold_19 ?_
    refine x_istore C dX10_isTold_20 rfl (by decide) ?_
    refine x_take 5 ?_
    first
      | exact lp (p_np P k) 0 _ _ (by omega) (six_nI k) (by simp [h_any, h_b, c7])
      | fail
  · refine x_iconst (v := 1) C dX10_isTold_10 (by decide) ?_
    refine x_goto (tgt := 15) C dX10_isTold_11 (by decide) ?_
    refine x_istore_n C dX10_isTold_15 rfl rfl (by decide) ?_
    refine x_bipush (v := 6) C dX10_isTold_16 (by decide) ?_
    refine x_iload_n C dX10_isTold_18 rfl rfl ?_
    refine x_imul C dX10_isTold_19 ?_
    refine x_istore C dX10_isTold_20 rfl (by decide) ?_
    refine x_take 5 ?_
    first
      | exact lp (p_np P k) 0 _ _ (by omega) (six_nI k) (by simp [h_any, h_b, c7])
      | fail
