/-- what a State's cells are: at m, of the model at o; z: how often a drone has heard -/
def stT (m o : Nat) (P : PL) (A : HS) (hx : Nat → Int32) (z : Int32) : List x_E :=
  [.inr (10, [.int (A 8 0), .int (A 8 1), .int z, .ref (m + 1), .ref (m + 2), .ref (m + 3), .ref (m + 4), .ref (m + 5), .ref (m + 6), .ref (m + 7), .ref (m + 8), .ref o]),
   .inl (0, 8, .inl (s_fill (p_nd P) hx (A 0))), .inl (0, 8, .inl (A 2)), .inl (0, 8, .inl (A 3)), .inl (2, 9, .inl (A 1)), .inl (0, 6, .inl (A 4)), .inl (0, 6, .inl (A 5)), .inl (0, 36, .inl (A 6)), .inl (2, 36, .inl (A 7))]
/-- what a Plan of the model is: at q; G: its rows, row 10 its counts -/
def pmT (q : Nat) (G : HS) : List x_E :=
  [.inr (9, [.int (G 10 0), .int (G 10 1), .ref (q + 1), .ref (q + 2), .ref (q + 3), .ref (q + 4), .int (G 10 2), .int (G 10 3), .ref (q + 5), .ref (q + 6), .ref (q + 7), .ref (q + 8), .ref (q + 9), .int (G 10 4), .ref (q + 10), .int (G 10 5)]),
   .inl (0, 8, .inl (G 0)), .inl (0, 6, .inl (G 1)), .inl (0, 36, .inl (G 2)), .inl (0, 36, .inl (G 3)), .inl (0, 16, .inl (G 4)), .inl (0, 16, .inl (G 5)), .inl (0, 17, .inl (G 6)), .inl (0, 17, .inl (G 7)), .inl (0, 800, .inl (G 8)), .inl (0, 400, .inl (G 9))]
/-- a test as the model writes it -/
def g_tr1 (q : Nat × Int32) : List Int32 :=
  if q.1 = 3 then [32, q.2] else if q.1 = 267 then [11] else if q.1 = 268 then [12] else if q.1 = 269 then [13] else if q.1 = 257 then [1, q.2] else if q.1 = 270 then [14, q.2] else if q.1 = 272 then [16, q.2] else if q.1 = 273 then [17] else if q.1 = 274 then [18] else if q.1 = 275 then [19] else if q.1 = 276 then [20] else if q.1 = 277 then [21] else if q.1 = 4 then [33] else if q.1 = 43 then [34] else if q.1 = 45 then [35] else if q.1 = 42 then [36] else if q.1 = 47 then [37] else if q.1 = 60 then [38] else if q.1 = 62 then [39] else if q.1 = 61 then [42] else if q.1 = 188 then [43] else [44]
def g_tr : PT → List Int32
  | [] => []
  | q :: t => g_tr1 q ++ g_tr t
def g_code (G : HS) (b : Nat) (c : List Int32) : Prop := ∀ (i : Nat) (x : Int32), c[i]? = some x → G 8 (b + i) = x
/-- the rows of a model's Plan tell the plan P -/
def g_is (G : HS) (P : PL) : Prop := G 10 0 = nI (p_nd P) ∧ G 10 1 = nI (p_nk P) ∧ G 10 2 = nI (p_no P) ∧ (∀ k, k < p_nk P → G 1 k = nI (p_np P k)) ∧ (∀ k j, k < p_nk P → j < p_np P k → G 2 (6 * k + j) = nI (p_who P (6 * k + j)) ∧ G 3 (6 * k + j) = p_mv P (6 * k + j)) ∧ (∀ o, o < p_no P → G 4 o = nI (p_vb P o - 256) ∧ G 5 o = nI (p_tg P o) ∧ ∃ b, G 6 o = nI b ∧ G 7 o = nI (b + (g_tr (p_ts P o)).length) ∧ b + (g_tr (p_ts P o)).length ≤ 800 ∧ g_code G b (g_tr (p_ts P o))) ∧ ∀ d, d < p_nd P → G 0 d = p_hn P d
theorem slot_nI2 (k j : Nat) : 6 * nI k + nI j = nI (6 * k + j) := by
  show nI 6 * nI k + nI j = _
  rw [pk_mul, nI_add]
set_option maxHeartbeats 4000000 in
set_option maxRecDepth 100000 in
theorem c_X10_manyBlocked {l : Launch} {Y0 : x_Y} (hO : x_Ok Y0) {M : x_M} {m o q : Nat} {P : PL} {A : HS} {hx : Nat → Int32} {z : Int32} {G : HS} {fs : List Value} (hP : p_ok P) (hQ : g_is G P) (hk9 : h_ok P A) (hb : x_bk M m (stT m o P A hx z)) (hp : x_bk M q (pmT q G)) (ho : x_bk M o [.inr (11, fs)]) (ho11 : fs[11]? = some (.ref q)) : x_C l Y0 yX10_manyBlocked cX10_manyBlocked 3 (some .int) 2 0 0 [.ref m] M (fun u M1 => u = some (.int (h_blocked P A)) ∧ M1 = M) := by
  refine x_start hO (by decide +kernel) (Nat.le_of_ble_eq_true rfl) (fun K C E => ?_)
  have hP0 := hP
  have hQ0 := hQ
  obtain ⟨h8, h6, h16, hnp, hwho, hvb, hts⟩ := hP
  obtain ⟨hq0, hq1, hq2, hq3, hq4, hq5, hq6⟩ := hQ
  have lp : ∀ (w i : Nat) (x : Int32) (z : Int32), i + w = p_nd P → x = nI i → z = h_cnt (fun d => A 2 d != -1) i → x_X K 3 0 0 4 [(0, .ref m), (1, .int z), (2, .int x)] [] M := by
    intro w
    induction w with
    | zero =>
      intro i x z hi hx hz
      subst hx
      have e : i = p_nd P := by omega
      subst e
      refine x_iload_n C dX10_manyBlocked_4 rfl rfl ?_
      refine x_aload_n C dX10_manyBlocked_5 rfl rfl ?_
      refine x_getfield C dX10_manyBlocked_6 fX10_3 (hb 0 _ rfl) rfl ?_
      refine x_getfield C dX10_manyBlocked_9 fX10_64 (ho 0 _ rfl) ho11 ?_
      refine x_getfield C dX10_manyBlocked_12 fX10_71 (hp 0 _ rfl) rfl ?_
      refine x_icmp_ge (tgt := 42) C dX10_manyBlocked_15 (by decide) (fun c15 => ?_) (fun c15 => absurd (by rw [hq0]; exact nI_le (Nat.le_refl _) (by omega)) c15)
      refine x_iload_n C dX10_manyBlocked_42 rfl rfl ?_
      refine x_iret C E dX10_manyBlocked_43 ?_
      exact ⟨by first | (rw [hz]; done) | (rw [hz]; rfl) | fail, rfl⟩
    | succ w ih =>
      intro i x z hi hx hz
      subst hx
      refine x_iload_n C dX10_manyBlocked_4 rfl rfl ?_
      refine x_aload_n C dX10_manyBlocked_5 rfl rfl ?_
      refine x_getfield C dX10_manyBlocked_6 fX10_3 (hb 0 _ rfl) rfl ?_
      refine x_getfield C dX10_manyBlocked_9 fX10_64 (ho 0 _ rfl) ho11 ?_
      refine x_getfield C dX10_manyBlocked_12 fX10_71 (hp 0 _ rfl) rfl ?_
      refine x_icmp_ge (tgt := 42) C dX10_manyBlocked_15 (by decide) (fun c15 => absurd c15 (by rw [hq0]; exact nI_ge (by omega) (by omega))) (fun c15 => ?_)
      refine x_iload_n C dX10_manyBlocked_18 rfl rfl ?_
      refine x_aload_n C dX10_manyBlocked_19 rfl rfl ?_
      refine x_getfield C dX10_manyBlocked_20 fX10_19 (hb 0 _ rfl) rfl ?_
      refine x_iload_n C dX10_manyBlocked_23 rfl rfl ?_
      refine x_iaload C dX10_manyBlocked_24 (hb 2 _ rfl) (vp_in_nI (show i < 8 by omega) (by decide)) ?_
      rw [nI_clamp (show i < 2 ^ 31 by omega)]
      refine x_iconst (v := (-1)) C dX10_manyBlocked_25 (by decide) ?_
      refine x_icmp_ne (tgt := 33) C dX10_manyBlocked_26 (by decide) (fun c26 => ?_) (fun c26 => ?_)
      · refine x_iconst (v := 1) C dX10_manyBlocked_33 (by decide) ?_
        refine x_iadd C dX10_manyBlocked_34 ?_
        refine x_istore_n C dX10_manyBlocked_35 rfl rfl (by decide) ?_
        refine x_iinc (v := 1) C dX10_manyBlocked_36 rfl (by decide) rfl (by decide) ?_
        refine x_goto (tgt := 4) C dX10_manyBlocked_39 (by decide) ?_
        exact ih (i + 1) _ _ (by omega) (nI_1 i) (by subst hz; simp [h_cnt, c26])
      · refine x_iconst (v := 0) C dX10_manyBlocked_29 (by decide) ?_
        refine x_goto (tgt := 34) C dX10_manyBlocked_30 (by decide) ?_
        refine x_iadd C dX10_manyBlocked_34 ?_
        refine x_istore_n C dX10_manyBlocked_35 rfl rfl (by decide) ?_
        refine x_iinc (v := 1) C dX10_manyBlocked_36 rfl (by decide) rfl (by decide) ?_
        refine x_goto (tgt := 4) C dX10_manyBlocked_39 (by decide) ?_
        exact ih (i + 1) _ _ (by omega) (nI_1 i) (by subst hz; simp [h_cnt, c26])
  refine x_iconst (v := 0) C dX10_manyBlocked_0 (by decide) ?_
  refine x_istore_n C dX10_manyBlocked_1 rfl rfl (by decide) ?_
  refine x_iconst (v := 0) C dX10_manyBlocked_2 (by decide) ?_
  refine x_istore_n C dX10_manyBlocked_3 rfl rfl (by decide) ?_
  exact lp (p_nd P) 0 0 0 (by omega) rfl rfl
set_option maxHeartbeats 4000000 in
set_option maxRecDepth 100000 in
theorem c_X10_manyBegun {l : Launch} {Y0 : x_Y} (hO : x_Ok Y0) {M : x_M} {m o q : Nat} {P : PL} {A : HS} {hx : Nat → Int32} {z : Int32} {G : HS} {fs : List Value} (hP : p_ok P) (hQ : g_is G P) (hk9 : h_ok P A) (hb : x_bk M m (stT m o P A hx z)) (hp : x_bk M q (pmT q G)) (ho : x_bk M o [.inr (11, fs)]) (ho11 : fs[11]? = some (.ref q)) : x_C l Y0 yX10_manyBegun cX10_manyBegun 3 (some .int) 2 0 0 [.ref m] M (fun u M1 => u = some (.int (h_begun P A)) ∧ M1 = M) := by
  refine x_start hO (by decide +kernel) (Nat.le_of_ble_eq_true rfl) (fun K C E => ?_)
  have hP0 := hP
  have hQ0 := hQ
  obtain ⟨h8, h6, h16, hnp, hwho, hvb, hts⟩ := hP
  obtain ⟨hq0, hq1, hq2, hq3, hq4, hq5, hq6⟩ := hQ
  have lp : ∀ (w i : Nat) (x : Int32) (z : Int32), i + w = p_nk P → x = nI i → z = h_cnt (fun k => A 4 k == 1) i → x_X K 3 0 0 4 [(0, .ref m), (1, .int z), (2, .int x)] [] M := by
    intro w
    induction w with
    | zero =>
      intro i x z hi hx hz
      subst hx
      have e : i = p_nk P := by omega
      subst e
      refine x_iload_n C dX10_manyBegun_4 rfl rfl ?_
      refine x_aload_n C dX10_manyBegun_5 rfl rfl ?_
      refine x_getfield C dX10_manyBegun_6 fX10_3 (hb 0 _ rfl) rfl ?_
      refine x_getfield C dX10_manyBegun_9 fX10_64 (ho 0 _ rfl) ho11 ?_
      refine x_getfield C dX10_manyBegun_12 fX10_74 (hp 0 _ rfl) rfl ?_
      refine x_icmp_ge (tgt := 42) C dX10_manyBegun_15 (by decide) (fun c15 => ?_) (fun c15 => absurd (by rw [hq1]; exact nI_le (Nat.le_refl _) (by omega)) c15)
      refine x_iload_n C dX10_manyBegun_42 rfl rfl ?_
      refine x_iret C E dX10_manyBegun_43 ?_
      exact ⟨by first | (rw [hz]; done) | (rw [hz]; rfl) | fail, rfl⟩
    | succ w ih =>
      intro i x z hi hx hz
      subst hx
      refine x_iload_n C dX10_manyBegun_4 rfl rfl ?_
      refine x_aload_n C dX10_manyBegun_5 rfl rfl ?_
      refine x_getfield C dX10_manyBegun_6 fX10_3 (hb 0 _ rfl) rfl ?_
      refine x_getfield C dX10_manyBegun_9 fX10_64 (ho 0 _ rfl) ho11 ?_
      refine x_getfield C dX10_manyBegun_12 fX10_74 (hp 0 _ rfl) rfl ?_
      refine x_icmp_ge (tgt := 42) C dX10_manyBegun_15 (by decide) (fun c15 => absurd c15 (by rw [hq1]; exact nI_ge (by omega) (by omega))) (fun c15 => ?_)
      refine x_iload_n C dX10_manyBegun_18 rfl rfl ?_
      refine x_aload_n C dX10_manyBegun_19 rfl rfl ?_
      refine x_getfield C dX10_manyBegun_20 fX10_29 (hb 0 _ rfl) rfl ?_
      refine x_iload_n C dX10_manyBegun_23 rfl rfl ?_
      refine x_iaload C dX10_manyBegun_24 (hb 5 _ rfl) (vp_in_nI (show i < 6 by omega) (by decide)) ?_
      rw [nI_clamp (show i < 2 ^ 31 by omega)]
      refine x_iconst (v := 1) C dX10_manyBegun_25 (by decide) ?_
      refine x_icmp_ne (tgt := 33) C dX10_manyBegun_26 (by decide) (fun c26 => ?_) (fun c26 => ?_)
      · refine x_iconst (v := 0) C dX10_manyBegun_33 (by decide) ?_
        refine x_iadd C dX10_manyBegun_34 ?_
        refine x_istore_n C dX10_manyBegun_35 rfl rfl (by decide) ?_
        refine x_iinc (v := 1) C dX10_manyBegun_36 rfl (by decide) rfl (by decide) ?_
        refine x_goto (tgt := 4) C dX10_manyBegun_39 (by decide) ?_
        exact ih (i + 1) _ _ (by omega) (nI_1 i) (by subst hz; simp [h_cnt, c26])
      · refine x_iconst (v := 1) C dX10_manyBegun_29 (by decide) ?_
        refine x_goto (tgt := 34) C dX10_manyBegun_30 (by decide) ?_
        refine x_iadd C dX10_manyBegun_34 ?_
        refine x_istore_n C dX10_manyBegun_35 rfl rfl (by decide) ?_
        refine x_iinc (v := 1) C dX10_manyBegun_36 rfl (by decide) rfl (by decide) ?_
        refine x_goto (tgt := 4) C dX10_manyBegun_39 (by decide) ?_
        exact ih (i + 1) _ _ (by omega) (nI_1 i) (by subst hz; simp [h_cnt, c26])
  refine x_iconst (v := 0) C dX10_manyBegun_0 (by decide) ?_
  refine x_istore_n C dX10_manyBegun_1 rfl rfl (by decide) ?_
  refine x_iconst (v := 0) C dX10_manyBegun_2 (by decide) ?_
  refine x_istore_n C dX10_manyBegun_3 rfl rfl (by decide) ?_
  exact lp (p_nk P) 0 0 0 (by omega) rfl rfl
set_option maxHeartbeats 4000000 in
set_option maxRecDepth 100000 in
theorem c_X10_allHoney {l : Launch} {Y0 : x_Y} (hO : x_Ok Y0) {M : x_M} {m o q : Nat} {P : PL} {A : HS} {hx : Nat → Int32} {z : Int32} {G : HS} {fs : List Value} (hP : p_ok P) (hQ : g_is G P) (hk9 : h_ok P A) (hb : x_bk M m (stT m o P A hx z)) (hp : x_bk M q (pmT q G)) (ho : x_bk M o [.inr (11, fs)]) (ho11 : fs[11]? = some (.ref q)) : x_C l Y0 yX10_allHoney cX10_allHoney 3 (some .int) 2 0 0 [.ref m] M (fun u M1 => u = some (.int (h_honey P A)) ∧ M1 = M) := by
  refine x_start hO (by decide +kernel) (Nat.le_of_ble_eq_true rfl) (fun K C E => ?_)
  have hP0 := hP
  have hQ0 := hQ
  obtain ⟨h8, h6, h16, hnp, hwho, hvb, hts⟩ := hP
  obtain ⟨hq0, hq1, hq2, hq3, hq4, hq5, hq6⟩ := hQ
  have lp : ∀ (w i : Nat) (x : Int32) (z : Int32), i + w = p_nd P → x = nI i → z = s_sum (A 0) i → x_X K 3 0 0 4 [(0, .ref m), (1, .int z), (2, .int x)] [] M := by
    intro w
    induction w with
    | zero =>
      intro i x z hi hx hz
      subst hx
      have e : i = p_nd P := by omega
      subst e
      refine x_iload_n C dX10_allHoney_4 rfl rfl ?_
      refine x_aload_n C dX10_allHoney_5 rfl rfl ?_
      refine x_getfield C dX10_allHoney_6 fX10_3 (hb 0 _ rfl) rfl ?_
      refine x_getfield C dX10_allHoney_9 fX10_64 (ho 0 _ rfl) ho11 ?_
      refine x_getfield C dX10_allHoney_12 fX10_71 (hp 0 _ rfl) rfl ?_
      refine x_icmp_ge (tgt := 33) C dX10_allHoney_15 (by decide) (fun c15 => ?_) (fun c15 => absurd (by rw [hq0]; exact nI_le (Nat.le_refl _) (by omega)) c15)
      refine x_iload_n C dX10_allHoney_33 rfl rfl ?_
      refine x_iret C E dX10_allHoney_34 ?_
      exact ⟨by first | (rw [hz]; done) | (rw [hz]; rfl) | fail, rfl⟩
    | succ w ih =>
      intro i x z hi hx hz
      subst hx
      refine x_iload_n C dX10_allHoney_4 rfl rfl ?_
      refine x_aload_n C dX10_allHoney_5 rfl rfl ?_
      refine x_getfield C dX10_allHoney_6 fX10_3 (hb 0 _ rfl) rfl ?_
      refine x_getfield C dX10_allHoney_9 fX10_64 (ho 0 _ rfl) ho11 ?_
      refine x_getfield C dX10_allHoney_12 fX10_71 (hp 0 _ rfl) rfl ?_
      refine x_icmp_ge (tgt := 33) C dX10_allHoney_15 (by decide) (fun c15 => absurd c15 (by rw [hq0]; exact nI_ge (by omega) (by omega))) (fun c15 => ?_)
      refine x_iload_n C dX10_allHoney_18 rfl rfl ?_
      refine x_aload_n C dX10_allHoney_19 rfl rfl ?_
      refine x_getfield C dX10_allHoney_20 fX10_15 (hb 0 _ rfl) rfl ?_
      refine x_iload_n C dX10_allHoney_23 rfl rfl ?_
      refine x_iaload C dX10_allHoney_24 (hb 1 _ rfl) (vp_in_nI (show i < 8 by omega) (by decide)) ?_
      rw [nI_clamp (show i < 2 ^ 31 by omega)]
      refine x_iadd C dX10_allHoney_25 ?_
      refine x_istore_n C dX10_allHoney_26 rfl rfl (by decide) ?_
      refine x_iinc (v := 1) C dX10_allHoney_27 rfl (by decide) rfl (by decide) ?_
      refine x_goto (tgt := 4) C dX10_allHoney_30 (by decide) ?_
      exact ih (i + 1) _ _ (by omega) (nI_1 i) (by subst hz; rw [s_fill_in (show i < p_nd P by omega)]; rfl)
  refine x_iconst (v := 0) C dX10_allHoney_0 (by decide) ?_
  refine x_istore_n C dX10_allHoney_1 rfl rfl (by decide) ?_
  refine x_iconst (v := 0) C dX10_allHoney_2 (by decide) ?_
  refine x_istore_n C dX10_allHoney_3 rfl rfl (by decide) ?_
  exact lp (p_nd P) 0 0 0 (by omega) rfl rfl
set_option maxHeartbeats 4000000 in
set_option maxRecDepth 100000 in
theorem c_X10_manyAwake {l : Launch} {Y0 : x_Y} (hO : x_Ok Y0) {M : x_M} {m o q : Nat} {P : PL} {A : HS} {hx : Nat → Int32} {z : Int32} {G : HS} {fs : List Value} (hP : p_ok P) (hQ : g_is G P) (hk9 : h_ok P A) (hb : x_bk M m (stT m o P A hx z)) (hp : x_bk M q (pmT q G)) (ho : x_bk M o [.inr (11, fs)]) (ho11 : fs[11]? = some (.ref q)) : x_C l Y0 yX10_manyAwake cX10_manyAwake 3 (some .int) 2 0 0 [.ref m] M (fun u M1 => u = some (.int (h_cnt (fun d => A 1 d == 0) (p_nd P))) ∧ M1 = M) := by
  refine x_start hO (by decide +kernel) (Nat.le_of_ble_eq_true rfl) (fun K C E => ?_)
  have hP0 := hP
  have hQ0 := hQ
  obtain ⟨h8, h6, h16, hnp, hwho, hvb, hts⟩ := hP
  obtain ⟨hq0, hq1, hq2, hq3, hq4, hq5, hq6⟩ := hQ
  have lp : ∀ (w i : Nat) (x : Int32) (z : Int32), i + w = p_nd P → x = nI i → z = h_cnt (fun d => A 1 d == 0) i → x_X K 3 0 0 4 [(0, .ref m), (1, .int z), (2, .int x)] [] M := by
    intro w
    induction w with
    | zero =>
      intro i x z hi hx hz
      subst hx
      have e : i = p_nd P := by omega
      subst e
      refine x_iload_n C dX10_manyAwake_4 rfl rfl ?_
      refine x_aload_n C dX10_manyAwake_5 rfl rfl ?_
      refine x_getfield C dX10_manyAwake_6 fX10_3 (hb 0 _ rfl) rfl ?_
      refine x_getfield C dX10_manyAwake_9 fX10_64 (ho 0 _ rfl) ho11 ?_
      refine x_getfield C dX10_manyAwake_12 fX10_71 (hp 0 _ rfl) rfl ?_
      refine x_icmp_ge (tgt := 41) C dX10_manyAwake_15 (by decide) (fun c15 => ?_) (fun c15 => absurd (by rw [hq0]; exact nI_le (Nat.le_refl _) (by omega)) c15)
      refine x_iload_n C dX10_manyAwake_41 rfl rfl ?_
      refine x_iret C E dX10_manyAwake_42 ?_
      exact ⟨by first | (rw [hz]; done) | (rw [hz]; rfl) | fail, rfl⟩
    | succ w ih =>
      intro i x z hi hx hz
      subst hx
      refine x_iload_n C dX10_manyAwake_4 rfl rfl ?_
      refine x_aload_n C dX10_manyAwake_5 rfl rfl ?_
      refine x_getfield C dX10_manyAwake_6 fX10_3 (hb 0 _ rfl) rfl ?_
      refine x_getfield C dX10_manyAwake_9 fX10_64 (ho 0 _ rfl) ho11 ?_
      refine x_getfield C dX10_manyAwake_12 fX10_71 (hp 0 _ rfl) rfl ?_
      refine x_icmp_ge (tgt := 41) C dX10_manyAwake_15 (by decide) (fun c15 => absurd c15 (by rw [hq0]; exact nI_ge (by omega) (by omega))) (fun c15 => ?_)
      refine x_iload_n C dX10_manyAwake_18 rfl rfl ?_
      refine x_aload_n C dX10_manyAwake_19 rfl rfl ?_
      refine x_getfield C dX10_manyAwake_20 fX10_25 (hb 0 _ rfl) rfl ?_
      refine x_iload_n C dX10_manyAwake_23 rfl rfl ?_
      refine x_baload C dX10_manyAwake_24 (hb 4 _ rfl) (vp_in_nI (show i < 9 by omega) (by decide)) ?_
      rw [nI_clamp (show i < 2 ^ 31 by omega)]
      refine x_if_eq (tgt := 32) C dX10_manyAwake_25 (by decide) (fun c25 => ?_) (fun c25 => ?_)
      · refine x_iconst (v := 1) C dX10_manyAwake_32 (by decide) ?_
        refine x_iadd C dX10_manyAwake_33 ?_
        refine x_istore_n C dX10_manyAwake_34 rfl rfl (by decide) ?_
        refine x_iinc (v := 1) C dX10_manyAwake_35 rfl (by decide) rfl (by decide) ?_
        refine x_goto (tgt := 4) C dX10_manyAwake_38 (by decide) ?_
        exact ih (i + 1) _ _ (by omega) (nI_1 i) (by subst hz; simp [h_cnt, c25])
      · refine x_iconst (v := 0) C dX10_manyAwake_28 (by decide) ?_
        refine x_goto (tgt := 33) C dX10_manyAwake_29 (by decide) ?_
        refine x_iadd C dX10_manyAwake_33 ?_
        refine x_istore_n C dX10_manyAwake_34 rfl rfl (by decide) ?_
        refine x_iinc (v := 1) C dX10_manyAwake_35 rfl (by decide) rfl (by decide) ?_
        refine x_goto (tgt := 4) C dX10_manyAwake_38 (by decide) ?_
        exact ih (i + 1) _ _ (by omega) (nI_1 i) (by subst hz; simp [h_cnt, c25])
  refine x_iconst (v := 0) C dX10_manyAwake_0 (by decide) ?_
  refine x_istore_n C dX10_manyAwake_1 rfl rfl (by decide) ?_
  refine x_iconst (v := 0) C dX10_manyAwake_2 (by decide) ?_
  refine x_istore_n C dX10_manyAwake_3 rfl rfl (by decide) ?_
  exact lp (p_nd P) 0 0 0 (by omega) rfl rfl
set_option maxHeartbeats 4000000 in
set_option maxRecDepth 100000 in
theorem c_X10_waits {l : Launch} {Y0 : x_Y} (hO : x_Ok Y0) {M : x_M} {m o q : Nat} {P : PL} {A : HS} {hx : Nat → Int32} {z : Int32} {G : HS} {fs : List Value} (hP : p_ok P) (hQ : g_is G P) (hk9 : h_ok P A) (hb : x_bk M m (stT m o P A hx z)) (hp : x_bk M q (pmT q G)) (ho : x_bk M o [.inr (11, fs)]) (ho11 : fs[11]? = some (.ref q)) {k : Nat} (hk : k < p_nk P) : x_C l Y0 yX10_waits cX10_waits 2 (some .int) 1 0 0 [.ref m, .int (nI k)] M (fun u M1 => u = some (.int (h_waits A k)) ∧ M1 = M) := by
  refine x_start hO (by decide +kernel) (Nat.le_of_ble_eq_true rfl) (fun K C E => ?_)
  have hP0 := hP
  have hQ0 := hQ
  obtain ⟨h8, h6, h16, hnp, hwho, hvb, hts⟩ := hP
  obtain ⟨hq0, hq1, hq2, hq3, hq4, hq5, hq6⟩ := hQ
  refine x_aload_n C dX10_waits_0 rfl rfl ?_
  refine x_getfield C dX10_waits_1 fX10_29 (hb 0 _ rfl) rfl ?_
  refine x_iload_n C dX10_waits_4 rfl rfl ?_
  refine x_iaload C dX10_waits_5 (hb 5 _ rfl) (vp_in_nI (show k < 6 by omega) (by decide)) ?_
  rw [nI_clamp (show k < 2 ^ 31 by omega)]
  refine x_iconst (v := 1) C dX10_waits_6 (by decide) ?_
  refine x_icmp_ne (tgt := 24) C dX10_waits_7 (by decide) (fun c7 => ?_) (fun c7 => ?_)
  · refine x_iconst (v := 0) C dX10_waits_24 (by decide) ?_
    refine x_iret C E dX10_waits_25 ?_
    exact ⟨by unfold h_waits; first | rw [if_pos c7] | rw [if_neg c7] | fail, rfl⟩
  · refine x_aload_n C dX10_waits_10 rfl rfl ?_
    refine x_getfield C dX10_waits_11 fX10_41 (hb 0 _ rfl) rfl ?_
    refine x_aload_n C dX10_waits_14 rfl rfl ?_
    refine x_getfield C dX10_waits_15 fX10_32 (hb 0 _ rfl) rfl ?_
    refine x_iload_n C dX10_waits_18 rfl rfl ?_
    refine x_iaload C dX10_waits_19 (hb 6 _ rfl) (vp_in_nI (show k < 6 by omega) (by decide)) ?_
    rw [nI_clamp (show k < 2 ^ 31 by omega)]
    refine x_isub C dX10_waits_20 ?_
    refine x_goto (tgt := 25) C dX10_waits_21 (by decide) ?_
    refine x_iret C E dX10_waits_25 ?_
    exact ⟨by unfold h_waits; first | rw [if_pos c7] | rw [if_neg c7] | fail, rfl⟩
set_option maxHeartbeats 4000000 in
set_option maxRecDepth 100000 in
theorem c_X10_votes {l : Launch} {Y0 : x_Y} (hO : x_Ok Y0) {M : x_M} {m o q : Nat} {P : PL} {A : HS} {hx : Nat → Int32} {z : Int32} {G : HS} {fs : List Value} (hP : p_ok P) (hQ : g_is G P) (hk9 : h_ok P A) (hb : x_bk M m (stT m o P A hx z)) (hp : x_bk M q (pmT q G)) (ho : x_bk M o [.inr (11, fs)]) (ho11 : fs[11]? = some (.ref q)) {k : Nat} {v : Int32} (hk : k < p_nk P) : x_C l Y0 yX10_votes cX10_votes 5 (some .int) 1 0 0 [.ref m, .int (nI k), .int v] M (fun u M1 => u = some (.int (h_votes P A k v)) ∧ M1 = M) := by
  refine x_start hO (by decide +kernel) (Nat.le_of_ble_eq_true rfl) (fun K C E => ?_)
  have hP0 := hP
  have hQ0 := hQ
  obtain ⟨h8, h6, h16, hnp, hwho, hvb, hts⟩ := hP
  obtain ⟨hq0, hq1, hq2, hq3, hq4, hq5, hq6⟩ := hQ
  have hk1 := hnp k hk
  have lp : ∀ (w i : Nat) (x : Int32) (z : Int32), i + w = p_np P k → x = nI i → z = h_cnt (fun j => A 6 (6 * k + j) == v) i → x_X K 5 0 0 5 [(0, .ref m), (1, .int (nI k)), (2, .int v), (3, .int z), (4, .int x)] [] M := by
    intro w
    induction w with
    | zero =>
      intro i x z hi hx hz
      subst hx
      have e : i = p_np P k := by omega
      subst e
      refine x_iload C dX10_votes_5 rfl ?_
      refine x_aload_n C dX10_votes_7 rfl rfl ?_
      refine x_getfield C dX10_votes_8 fX10_3 (hb 0 _ rfl) rfl ?_
      refine x_getfield C dX10_votes_11 fX10_64 (ho 0 _ rfl) ho11 ?_
      refine x_getfield C dX10_votes_14 fX10_77 (hp 0 _ rfl) rfl ?_
      refine x_iload_n C dX10_votes_17 rfl rfl ?_
      refine x_iaload C dX10_votes_18 (hp 2 _ rfl) (vp_in_nI (show k < 6 by omega) (by decide)) ?_
      rw [nI_clamp (show k < 2 ^ 31 by omega)]
      rw [hq3 k hk]
      refine x_icmp_ge (tgt := 52) C dX10_votes_19 (by decide) (fun c19 => ?_) (fun c19 => absurd (nI_le (Nat.le_refl _) (by omega)) c19)
      refine x_iload_n C dX10_votes_52 rfl rfl ?_
      refine x_iret C E dX10_votes_53 ?_
      exact ⟨by rw [hz]; rfl, rfl⟩
    | succ w ih =>
      intro i x z hi hx hz
      subst hx
      refine x_iload C dX10_votes_5 rfl ?_
      refine x_aload_n C dX10_votes_7 rfl rfl ?_
      refine x_getfield C dX10_votes_8 fX10_3 (hb 0 _ rfl) rfl ?_
      refine x_getfield C dX10_votes_11 fX10_64 (ho 0 _ rfl) ho11 ?_
      refine x_getfield C dX10_votes_14 fX10_77 (hp 0 _ rfl) rfl ?_
      refine x_iload_n C dX10_votes_17 rfl rfl ?_
      refine x_iaload C dX10_votes_18 (hp 2 _ rfl) (vp_in_nI (show k < 6 by omega) (by decide)) ?_
      rw [nI_clamp (show k < 2 ^ 31 by omega)]
      rw [hq3 k hk]
      refine x_icmp_ge (tgt := 52) C dX10_votes_19 (by decide) (fun c19 => absurd c19 (nI_ge (by omega) (by omega))) (fun c19 => ?_)
      refine x_iload_n C dX10_votes_22 rfl rfl ?_
      refine x_aload_n C dX10_votes_23 rfl rfl ?_
      refine x_getfield C dX10_votes_24 fX10_35 (hb 0 _ rfl) rfl ?_
      refine x_bipush (v := 6) C dX10_votes_27 (by decide) ?_
      refine x_iload_n C dX10_votes_29 rfl rfl ?_
      refine x_imul C dX10_votes_30 ?_
      refine x_iload C dX10_votes_31 rfl ?_
      refine x_iadd C dX10_votes_33 ?_
      rw [slot_nI2]
      refine x_iaload C dX10_votes_34 (hb 7 _ rfl) (vp_in_nI (show 6 * k + i < 36 by omega) (by decide)) ?_
      rw [nI_clamp (show 6 * k + i < 2 ^ 31 by omega)]
      refine x_iload_n C dX10_votes_35 rfl rfl ?_
      refine x_icmp_ne (tgt := 43) C dX10_votes_36 (by decide) (fun c36 => ?_) (fun c36 => ?_)
      · refine x_iconst (v := 0) C dX10_votes_43 (by decide) ?_
        refine x_iadd C dX10_votes_44 ?_
        refine x_istore_n C dX10_votes_45 rfl rfl (by decide) ?_
        refine x_iinc (v := 1) C dX10_votes_46 rfl (by decide) rfl (by decide) ?_
        refine x_goto (tgt := 5) C dX10_votes_49 (by decide) ?_
        exact ih (i + 1) _ _ (by omega) (nI_1 i) (by subst hz; simp [h_cnt, c36])
      · refine x_iconst (v := 1) C dX10_votes_39 (by decide) ?_
        refine x_goto (tgt := 44) C dX10_votes_40 (by decide) ?_
        refine x_iadd C dX10_votes_44 ?_
        refine x_istore_n C dX10_votes_45 rfl rfl (by decide) ?_
        refine x_iinc (v := 1) C dX10_votes_46 rfl (by decide) rfl (by decide) ?_
        refine x_goto (tgt := 5) C dX10_votes_49 (by decide) ?_
        exact ih (i + 1) _ _ (by omega) (nI_1 i) (by subst hz; simp [h_cnt, c36])
  refine x_iconst (v := 0) C dX10_votes_0 (by decide) ?_
  refine x_istore_n C dX10_votes_1 rfl rfl (by decide) ?_
  refine x_iconst (v := 0) C dX10_votes_2 (by decide) ?_
  refine x_istore C dX10_votes_3 rfl (by decide) ?_
  exact lp (p_np P k) 0 0 0 (by omega) rfl rfl
set_option maxHeartbeats 4000000 in
set_option maxRecDepth 100000 in
theorem c_X10_hasHeard {l : Launch} {Y0 : x_Y} (hO : x_Ok Y0) {M : x_M} {m o q : Nat} {P : PL} {A : HS} {hx : Nat → Int32} {z : Int32} {G : HS} {fs : List Value} (hP : p_ok P) (hQ : g_is G P) (hk9 : h_ok P A) (hb : x_bk M m (stT m o P A hx z)) (hp : x_bk M q (pmT q G)) (ho : x_bk M o [.inr (11, fs)]) (ho11 : fs[11]? = some (.ref q)) {k : Nat} (hk : k < p_nk P) : x_C l Y0 yX10_hasHeard cX10_hasHeard 4 (some .int) 1 0 0 [.ref m, .int (nI k)] M (fun u M1 => u = some (.int (h_cnt (fun j => A 7 (6 * k + j) != 0) (p_np P k))) ∧ M1 = M) := by
  refine x_start hO (by decide +kernel) (Nat.le_of_ble_eq_true rfl) (fun K C E => ?_)
  have hP0 := hP
  have hQ0 := hQ
  obtain ⟨h8, h6, h16, hnp, hwho, hvb, hts⟩ := hP
  obtain ⟨hq0, hq1, hq2, hq3, hq4, hq5, hq6⟩ := hQ
  have hk1 := hnp k hk
  have lp : ∀ (w i : Nat) (x : Int32) (z : Int32), i + w = p_np P k → x = nI i → z = h_cnt (fun j => A 7 (6 * k + j) != 0) i → x_X K 4 0 0 4 [(0, .ref m), (1, .int (nI k)), (2, .int z), (3, .int x)] [] M := by
    intro w
    induction w with
    | zero =>
      intro i x z hi hx hz
      subst hx
      have e : i = p_np P k := by omega
      subst e
      refine x_iload_n C dX10_hasHeard_4 rfl rfl ?_
      refine x_aload_n C dX10_hasHeard_5 rfl rfl ?_
      refine x_getfield C dX10_hasHeard_6 fX10_3 (hb 0 _ rfl) rfl ?_
      refine x_getfield C dX10_hasHeard_9 fX10_64 (ho 0 _ rfl) ho11 ?_
      refine x_getfield C dX10_hasHeard_12 fX10_77 (hp 0 _ rfl) rfl ?_
      refine x_iload_n C dX10_hasHeard_15 rfl rfl ?_
      refine x_iaload C dX10_hasHeard_16 (hp 2 _ rfl) (vp_in_nI (show k < 6 by omega) (by decide)) ?_
      rw [nI_clamp (show k < 2 ^ 31 by omega)]
      rw [hq3 k hk]
      refine x_icmp_ge (tgt := 48) C dX10_hasHeard_17 (by decide) (fun c17 => ?_) (fun c17 => absurd (nI_le (Nat.le_refl _) (by omega)) c17)
      refine x_iload_n C dX10_hasHeard_48 rfl rfl ?_
      refine x_iret C E dX10_hasHeard_49 ?_
      exact ⟨by rw [hz], rfl⟩
    | succ w ih =>
      intro i x z hi hx hz
      subst hx
      refine x_iload_n C dX10_hasHeard_4 rfl rfl ?_
      refine x_aload_n C dX10_hasHeard_5 rfl rfl ?_
      refine x_getfield C dX10_hasHeard_6 fX10_3 (hb 0 _ rfl) rfl ?_
      refine x_getfield C dX10_hasHeard_9 fX10_64 (ho 0 _ rfl) ho11 ?_
      refine x_getfield C dX10_hasHeard_12 fX10_77 (hp 0 _ rfl) rfl ?_
      refine x_iload_n C dX10_hasHeard_15 rfl rfl ?_
      refine x_iaload C dX10_hasHeard_16 (hp 2 _ rfl) (vp_in_nI (show k < 6 by omega) (by decide)) ?_
      rw [nI_clamp (show k < 2 ^ 31 by omega)]
      rw [hq3 k hk]
      refine x_icmp_ge (tgt := 48) C dX10_hasHeard_17 (by decide) (fun c17 => absurd c17 (nI_ge (by omega) (by omega))) (fun c17 => ?_)
      refine x_iload_n C dX10_hasHeard_20 rfl rfl ?_
      refine x_aload_n C dX10_hasHeard_21 rfl rfl ?_
      refine x_getfield C dX10_hasHeard_22 fX10_38 (hb 0 _ rfl) rfl ?_
      refine x_bipush (v := 6) C dX10_hasHeard_25 (by decide) ?_
      refine x_iload_n C dX10_hasHeard_27 rfl rfl ?_
      refine x_imul C dX10_hasHeard_28 ?_
      refine x_iload_n C dX10_hasHeard_29 rfl rfl ?_
      refine x_iadd C dX10_hasHeard_30 ?_
      rw [slot_nI2]
      refine x_baload C dX10_hasHeard_31 (hb 8 _ rfl) (vp_in_nI (show 6 * k + i < 36 by omega) (by decide)) ?_
      rw [nI_clamp (show 6 * k + i < 2 ^ 31 by omega)]
      refine x_if_eq (tgt := 39) C dX10_hasHeard_32 (by decide) (fun c32 => ?_) (fun c32 => ?_)
      · refine x_iconst (v := 0) C dX10_hasHeard_39 (by decide) ?_
        refine x_iadd C dX10_hasHeard_40 ?_
        refine x_istore_n C dX10_hasHeard_41 rfl rfl (by decide) ?_
        refine x_iinc (v := 1) C dX10_hasHeard_42 rfl (by decide) rfl (by decide) ?_
        refine x_goto (tgt := 4) C dX10_hasHeard_45 (by decide) ?_
        exact ih (i + 1) _ _ (by omega) (nI_1 i) (by subst hz; simp [h_cnt, c32])
      · refine x_iconst (v := 1) C dX10_hasHeard_35 (by decide) ?_
        refine x_goto (tgt := 40) C dX10_hasHeard_36 (by decide) ?_
        refine x_iadd C dX10_hasHeard_40 ?_
        refine x_istore_n C dX10_hasHeard_41 rfl rfl (by decide) ?_
        refine x_iinc (v := 1) C dX10_hasHeard_42 rfl (by decide) rfl (by decide) ?_
        refine x_goto (tgt := 4) C dX10_hasHeard_45 (by decide) ?_
        exact ih (i + 1) _ _ (by omega) (nI_1 i) (by subst hz; simp [h_cnt, c32])
  refine x_iconst (v := 0) C dX10_hasHeard_0 (by decide) ?_
  refine x_istore_n C dX10_hasHeard_1 rfl rfl (by decide) ?_
  refine x_iconst (v := 0) C dX10_hasHeard_2 (by decide) ?_
  refine x_istore_n C dX10_hasHeard_3 rfl rfl (by decide) ?_
  exact lp (p_np P k) 0 0 0 (by omega) rfl rfl
set_option maxHeartbeats 4000000 in
set_option maxRecDepth 100000 in
theorem c_X11_isIn {l : Launch} {Y0 : x_Y} (hO : x_Ok Y0) {M : x_M} {v a b : Int32} : x_C l Y0 yX11_isIn cX11_isIn 3 (some .boolean) 1 0 0 [.int v, .int a, .int b] M (fun u M1 => u = some (.int (h_b (!decide (v < a) && !decide (b < v)))) ∧ M1 = M) := by
  refine x_start hO (by decide +kernel) (Nat.le_of_ble_eq_true rfl) (fun K C E => ?_)
  refine x_iload_n C dX11_isIn_0 rfl rfl ?_
  refine x_iload_n C dX11_isIn_1 rfl rfl ?_
  refine x_icmp_lt (tgt := 14) C dX11_isIn_2 (by decide) (fun c2 => ?_) (fun c2 => ?_)
  · refine x_iconst (v := 0) C dX11_isIn_14 (by decide) ?_
    refine x_zret C E dX11_isIn_15 rfl ?_
    exact ⟨by first | (simp [h_b, c2, c7]; done) | (simp [h_b, c2]; done) | fail, rfl⟩
  · refine x_iload_n C dX11_isIn_5 rfl rfl ?_
    refine x_iload_n C dX11_isIn_6 rfl rfl ?_
    refine x_icmp_gt (tgt := 14) C dX11_isIn_7 (by decide) (fun c7 => ?_) (fun c7 => ?_)
    · refine x_iconst (v := 0) C dX11_isIn_14 (by decide) ?_
      refine x_zret C E dX11_isIn_15 rfl ?_
      exact ⟨by first | (simp [h_b, c2, c7]; done) | (simp [h_b, c2]; done) | fail, rfl⟩
    · refine x_iconst (v := 1) C dX11_isIn_10 (by decide) ?_
      refine x_goto (tgt := 15) C dX11_isIn_11 (by decide) ?_
      refine x_zret C E dX11_isIn_15 rfl ?_
      exact ⟨by first | (simp [h_b, c2, c7]; done) | (simp [h_b, c2]; done) | fail, rfl⟩
set_option maxHeartbeats 4000000 in
set_option maxRecDepth 100000 in
theorem c_X10_agrees {l : Launch} {Y0 : x_Y} (hO : x_Ok Y0) {M : x_M} {m o q : Nat} {P : PL} {A : HS} {hx : Nat → Int32} {z : Int32} {G : HS} {fs : List Value} (hP : p_ok P) (hQ : g_is G P) (hk9 : h_ok P A) (hb : x_bk M m (stT m o P A hx z)) (hp : x_bk M q (pmT q G)) (ho : x_bk M o [.inr (11, fs)]) (ho11 : fs[11]? = some (.ref q)) {s : Nat} (hs : s < 36) (hw : p_who P s < p_nd P) (hqs : G 2 s = nI (p_who P s) ∧ G 3 s = p_mv P s) : x_C l Y0 yX10_agrees cX10_agrees 3 (some .boolean) 2 0 0 [.ref m, .int (nI s)] M (fun u M1 => u = some (.int (h_b (h_agr P A s))) ∧ M1 = M) := by
  refine x_start hO (by decide +kernel) (Nat.le_of_ble_eq_true rfl) (fun K C E => ?_)
  have hP0 := hP
  have hQ0 := hQ
  obtain ⟨h8, h6, h16, hnp, hwho, hvb, hts⟩ := hP
  obtain ⟨hq0, hq1, hq2, hq3, hq4, hq5, hq6⟩ := hQ
  refine x_aload_n C dX10_agrees_0 rfl rfl ?_
  refine x_getfield C dX10_agrees_1 fX10_3 (hb 0 _ rfl) rfl ?_
  refine x_getfield C dX10_agrees_4 fX10_64 (ho 0 _ rfl) ho11 ?_
  refine x_getfield C dX10_agrees_7 fX10_80 (hp 0 _ rfl) rfl ?_
  refine x_iload_n C dX10_agrees_10 rfl rfl ?_
  refine x_iaload C dX10_agrees_11 (hp 3 _ rfl) (vp_in_nI (show s < 36 by omega) (by decide)) ?_
  rw [nI_clamp (show s < 2 ^ 31 by omega)]; rw [hqs.1]
  refine x_istore_n C dX10_agrees_12 rfl rfl (by decide) ?_
  refine x_aload_n C dX10_agrees_13 rfl rfl ?_
  refine x_getfield C dX10_agrees_14 fX10_19 (hb 0 _ rfl) rfl ?_
  refine x_iload_n C dX10_agrees_17 rfl rfl ?_
  refine x_iaload C dX10_agrees_18 (hb 2 _ rfl) (vp_in_nI (show p_who P s < 8 by omega) (by decide)) ?_
  rw [nI_clamp (show p_who P s < 2 ^ 31 by omega)]
  refine x_iconst (v := (-1)) C dX10_agrees_19 (by decide) ?_
  refine x_icmp_ne (tgt := 55) C dX10_agrees_20 (by decide) (fun c20 => ?_) (fun c20 => ?_)
  · refine x_iconst (v := 0) C dX10_agrees_55 (by decide) ?_
    refine x_zret C E dX10_agrees_56 rfl ?_
    refine ⟨?_, rfl⟩
    unfold h_agr
    first | (rw [hin]; simp [h_b, c20]; done) | (simp [h_b, c20]; done) | fail
  · refine x_aload_n C dX10_agrees_23 rfl rfl ?_
    refine x_getfield C dX10_agrees_24 fX10_15 (hb 0 _ rfl) rfl ?_
    refine x_iload_n C dX10_agrees_27 rfl rfl ?_
    refine x_iaload C dX10_agrees_28 (hb 1 _ rfl) (vp_in_nI (show p_who P s < 8 by omega) (by decide)) ?_
    rw [nI_clamp (show p_who P s < 2 ^ 31 by omega)]; rw [s_fill_in hw]
    refine x_aload_n C dX10_agrees_29 rfl rfl ?_
    refine x_getfield C dX10_agrees_30 fX10_3 (hb 0 _ rfl) rfl ?_
    refine x_getfield C dX10_agrees_33 fX10_64 (ho 0 _ rfl) ho11 ?_
    refine x_getfield C dX10_agrees_36 fX10_83 (hp 0 _ rfl) rfl ?_
    refine x_iload_n C dX10_agrees_39 rfl rfl ?_
    refine x_iaload C dX10_agrees_40 (hp 4 _ rfl) (vp_in_nI (show s < 36 by omega) (by decide)) ?_
    rw [nI_clamp (show s < 2 ^ 31 by omega)]; rw [hqs.2]
    refine x_iadd C dX10_agrees_41 ?_
    refine x_iconst (v := 0) C dX10_agrees_42 (by decide) ?_
    refine x_bipush (v := 99) C dX10_agrees_43 (by decide) ?_
    refine x_callS3 C dX10_agrees_45 kX10_86 (c_X11_isIn hO) (by decide) ⟨Nat.zero_le _, Nat.zero_le _⟩ (Nat.le_of_ble_eq_true rfl) ?_
    rintro _ _ ⟨rfl, rfl⟩
    refine x_if_eq (tgt := 55) C dX10_agrees_48 (by decide) (fun c48 => ?_) (fun c48 => ?_)
    · have hin : (!decide (A 0 (p_who P s) + p_mv P s < 0) && !decide (99 < A 0 (p_who P s) + p_mv P s)) = false := by
        cases h : (!decide (A 0 (p_who P s) + p_mv P s < 0) && !decide (99 < A 0 (p_who P s) + p_mv P s)) with
        | false => rfl
        | true => rw [h] at c48; exact absurd c48 (by decide)
      refine x_iconst (v := 0) C dX10_agrees_55 (by decide) ?_
      refine x_zret C E dX10_agrees_56 rfl ?_
      refine ⟨?_, rfl⟩
      unfold h_agr
      first | (rw [hin]; simp [h_b, c20]; done) | (simp [h_b, c20]; done) | fail
    · have hin : (!decide (A 0 (p_who P s) + p_mv P s < 0) && !decide (99 < A 0 (p_who P s) + p_mv P s)) = true := by
        cases h : (!decide (A 0 (p_who P s) + p_mv P s < 0) && !decide (99 < A 0 (p_who P s) + p_mv P s)) with
        | false => rw [h] at c48; exact absurd rfl c48
        | true => rfl
      refine x_iconst (v := 1) C dX10_agrees_51 (by decide) ?_
      refine x_goto (tgt := 56) C dX10_agrees_52 (by decide) ?_
      refine x_zret C E dX10_agrees_56 rfl ?_
      refine ⟨?_, rfl⟩
      unfold h_agr
      first | (rw [hin]; simp [h_b, c20]; done) | (simp [h_b, c20]; done) | fail
