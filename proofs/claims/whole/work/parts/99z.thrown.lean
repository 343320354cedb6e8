theorem nX8_111 : Cond.methodLink RX8 111 yX8_requireDrone ∈ lw_tbl := (x_t4 _ (List.mem_of_getElem? (i := 108) (by decide +kernel)))
theorem nX8_127 : Cond.methodLink RX8 127 yX8_requireDeal ∈ lw_tbl := (x_t4 _ (List.mem_of_getElem? (i := 200) (by decide +kernel)))
theorem nX8_139 : Cond.methodLink RX8 139 yX8_requirePart ∈ lw_tbl := (x_t4 _ (List.mem_of_getElem? (i := 227) (by decide +kernel)))
theorem nX8_190 : Cond.methodLink RX8 190 yX8_requireDays ∈ lw_tbl := (x_t5 _ (List.mem_of_getElem? (i := 170) (by decide +kernel)))
theorem h_inR_f {x : Int32} {n : Nat} (h : h_inR x n = false) (h0 : ¬ x < 0) (h1 : x < nI n) : False := by
  unfold h_inR at h
  rw [decide_eq_false h0, decide_eq_false (Int32.not_le.mpr h1)] at h
  cases h
set_option maxHeartbeats 4000000 in
set_option maxRecDepth 100000 in
theorem c_X8_requireDroneT {l : Launch} {Y0 : x_Y} (hO : x_Ok Y0) (hX : x_Ex l Y0) {M : x_M} {a p : Nat} {P : PL} {A : HS} {hx sk : Nat → Int32} {ht : Int32} {Q : HS} (hP : p_ok P) (hQ : q_is Q P) (hb : x_bk M a (hvT a p P A hx sk ht)) (hp : x_bk M p (plT p Q)) {c : Nat} {fs : List Value} (hc : x_bk M c [.inr (8, fs)]) (hc2 : fs[2]? = some (.ref p)) (hc4 : fs[4]? = some (.ref a)) (hk9 : h_ok P A) {x : Int32} (hv : h_inR x (p_nd P) = false) : x_T l Y0 yX8_requireDrone cX8_requireDrone 2 none 6 1 6 [.ref c, .int x] M "java/lang/IndexOutOfBoundsException" := by
  refine x_startT hO (by decide +kernel) (Nat.le_of_ble_eq_true rfl) (fun K C E => ?_)
  have hP0 := hP
  have hQ0 := hQ
  obtain ⟨h8, h6, h16, hnp, hwho, hvb, hts⟩ := hP
  obtain ⟨hq0, hq1, hq2, hq3, hq4, hq5, hq6⟩ := hQ
  refine x_iload_n C dX8_requireDrone_0 rfl rfl ?_
  refine x_if_lt (tgt := 15) C dX8_requireDrone_1 (by decide) (fun c1 => ?_) (fun c1 => ?_)
  · exact x_throwSW C E hX ex_IO (hX.2.2.2.1 (275, "there is no such drone") (List.mem_of_getElem? (i := 0) rfl)) dX8_requireDrone_15 dX8_requireDrone_18 dX8_requireDrone_19 dX8_requireDrone_22 dX8_requireDrone_25 (by decide) ⟨by decide, by decide⟩ (Nat.le_of_ble_eq_true rfl)
  · refine x_iload_n C dX8_requireDrone_4 rfl rfl ?_
    refine x_aload_n C dX8_requireDrone_5 rfl rfl ?_
    refine x_getfield C dX8_requireDrone_6 fX8_23 (hc 0 _ rfl) hc2 ?_
    refine x_getfield C dX8_requireDrone_9 fX8_82 (hp 0 _ rfl) rfl ?_
    refine x_icmp_lt (tgt := 26) C dX8_requireDrone_12 (by decide) (fun c12 => ?_) (fun c12 => ?_)
    · exact (h_inR_f hv c1 (by rw [← hq0]; exact c12)).elim
    · exact x_throwSW C E hX ex_IO (hX.2.2.2.1 (275, "there is no such drone") (List.mem_of_getElem? (i := 0) rfl)) dX8_requireDrone_15 dX8_requireDrone_18 dX8_requireDrone_19 dX8_requireDrone_22 dX8_requireDrone_25 (by decide) ⟨by decide, by decide⟩ (Nat.le_of_ble_eq_true rfl)
set_option maxHeartbeats 4000000 in
set_option maxRecDepth 100000 in
theorem c_X8_requireDealT {l : Launch} {Y0 : x_Y} (hO : x_Ok Y0) (hX : x_Ex l Y0) {M : x_M} {a p : Nat} {P : PL} {A : HS} {hx sk : Nat → Int32} {ht : Int32} {Q : HS} (hP : p_ok P) (hQ : q_is Q P) (hb : x_bk M a (hvT a p P A hx sk ht)) (hp : x_bk M p (plT p Q)) {c : Nat} {fs : List Value} (hc : x_bk M c [.inr (8, fs)]) (hc2 : fs[2]? = some (.ref p)) (hc4 : fs[4]? = some (.ref a)) (hk9 : h_ok P A) {x : Int32} (hv : h_inR x (p_nk P) = false) : x_T l Y0 yX8_requireDeal cX8_requireDeal 2 none 6 1 6 [.ref c, .int x] M "java/lang/IndexOutOfBoundsException" := by
  refine x_startT hO (by decide +kernel) (Nat.le_of_ble_eq_true rfl) (fun K C E => ?_)
  have hP0 := hP
  have hQ0 := hQ
  obtain ⟨h8, h6, h16, hnp, hwho, hvb, hts⟩ := hP
  obtain ⟨hq0, hq1, hq2, hq3, hq4, hq5, hq6⟩ := hQ
  refine x_iload_n C dX8_requireDeal_0 rfl rfl ?_
  refine x_if_lt (tgt := 15) C dX8_requireDeal_1 (by decide) (fun c1 => ?_) (fun c1 => ?_)
  · exact x_throwSW C E hX ex_IO (hX.2.2.2.1 (278, "there is no such deal") (List.mem_of_getElem? (i := 1) rfl)) dX8_requireDeal_15 dX8_requireDeal_18 dX8_requireDeal_19 dX8_requireDeal_22 dX8_requireDeal_25 (by decide) ⟨by decide, by decide⟩ (Nat.le_of_ble_eq_true rfl)
  · refine x_iload_n C dX8_requireDeal_4 rfl rfl ?_
    refine x_aload_n C dX8_requireDeal_5 rfl rfl ?_
    refine x_getfield C dX8_requireDeal_6 fX8_23 (hc 0 _ rfl) hc2 ?_
    refine x_getfield C dX8_requireDeal_9 fX8_85 (hp 0 _ rfl) rfl ?_
    refine x_icmp_lt (tgt := 26) C dX8_requireDeal_12 (by decide) (fun c12 => ?_) (fun c12 => ?_)
    · exact (h_inR_f hv c1 (by rw [← hq1]; exact c12)).elim
    · exact x_throwSW C E hX ex_IO (hX.2.2.2.1 (278, "there is no such deal") (List.mem_of_getElem? (i := 1) rfl)) dX8_requireDeal_15 dX8_requireDeal_18 dX8_requireDeal_19 dX8_requireDeal_22 dX8_requireDeal_25 (by decide) ⟨by decide, by decide⟩ (Nat.le_of_ble_eq_true rfl)
set_option maxHeartbeats 4000000 in
set_option maxRecDepth 100000 in
theorem c_X8_requirePartN {l : Launch} {Y0 : x_Y} (hO : x_Ok Y0) (hX : x_Ex l Y0) {M : x_M} {a p : Nat} {P : PL} {A : HS} {hx sk : Nat → Int32} {ht : Int32} {Q : HS} (hP : p_ok P) (hQ : q_is Q P) (hb : x_bk M a (hvT a p P A hx sk ht)) (hp : x_bk M p (plT p Q)) {c : Nat} {fs : List Value} (hc : x_bk M c [.inr (8, fs)]) (hc2 : fs[2]? = some (.ref p)) (hc4 : fs[4]? = some (.ref a)) (hk9 : h_ok P A) {x y : Int32} (hv : h_inR x (p_nk P) = false) : x_T l Y0 yX8_requirePart cX8_requirePart 3 none 7 1 6 [.ref c, .int x, .int y] M "java/lang/IndexOutOfBoundsException" := by
  refine x_startT hO (by decide +kernel) (Nat.le_of_ble_eq_true rfl) (fun K C E => ?_)
  have hP0 := hP
  have hQ0 := hQ
  obtain ⟨h8, h6, h16, hnp, hwho, hvb, hts⟩ := hP
  obtain ⟨hq0, hq1, hq2, hq3, hq4, hq5, hq6⟩ := hQ
  refine x_aload_n C dX8_requirePart_0 rfl rfl ?_
  refine x_iload_n C dX8_requirePart_1 rfl rfl ?_
  exact x_callVT (As := [_]) C E dX8_requirePart_2 kX8_127 nX8_127 (c_X8_requireDealT hO hX hP0 hQ0 hb hp hc hc2 hc4 hk9 hv) (hc 0 _ rfl) rfl rfl rfl (by decide) ⟨by decide, by decide⟩ (Nat.le_of_ble_eq_true rfl)
set_option maxHeartbeats 4000000 in
set_option maxRecDepth 100000 in
theorem c_X8_requirePartM {l : Launch} {Y0 : x_Y} (hO : x_Ok Y0) (hX : x_Ex l Y0) {M : x_M} {a p : Nat} {P : PL} {A : HS} {hx sk : Nat → Int32} {ht : Int32} {Q : HS} (hP : p_ok P) (hQ : q_is Q P) (hb : x_bk M a (hvT a p P A hx sk ht)) (hp : x_bk M p (plT p Q)) {c : Nat} {fs : List Value} (hc : x_bk M c [.inr (8, fs)]) (hc2 : fs[2]? = some (.ref p)) (hc4 : fs[4]? = some (.ref a)) (hk9 : h_ok P A) {k : Nat} (hk : k < p_nk P) {x : Int32} (hv : h_inR x (p_np P k) = false) : x_T l Y0 yX8_requirePart cX8_requirePart 3 none 7 1 6 [.ref c, .int (nI k), .int x] M "java/lang/IndexOutOfBoundsException" := by
  refine x_startT hO (by decide +kernel) (Nat.le_of_ble_eq_true rfl) (fun K C E => ?_)
  have hP0 := hP
  have hQ0 := hQ
  obtain ⟨h8, h6, h16, hnp, hwho, hvb, hts⟩ := hP
  obtain ⟨hq0, hq1, hq2, hq3, hq4, hq5, hq6⟩ := hQ
  have hk1 := hnp k hk
  refine x_aload_n C dX8_requirePart_0 rfl rfl ?_
  refine x_iload_n C dX8_requirePart_1 rfl rfl ?_
  refine x_callV1 C dX8_requirePart_2 kX8_127 (c_X8_requireDeal hO hP0 hQ0 hb hp hc hc2 hc4 hk9 hk) (hc 0 _ rfl) rfl (by decide) ⟨Nat.zero_le _, Nat.zero_le _⟩ (Nat.le_of_ble_eq_true rfl) ?_
  rintro _ _ ⟨rfl, rfl⟩
  refine x_iload_n C dX8_requirePart_5 rfl rfl ?_
  refine x_if_lt (tgt := 24) C dX8_requirePart_6 (by decide) (fun c6 => ?_) (fun c6 => ?_)
  · exact x_throwSW C E hX ex_IO (hX.2.2.2.1 (280, "the deal has no such part") (List.mem_of_getElem? (i := 2) rfl)) dX8_requirePart_24 dX8_requirePart_27 dX8_requirePart_28 dX8_requirePart_31 dX8_requirePart_34 (by decide) ⟨by decide, by decide⟩ (Nat.le_of_ble_eq_true rfl)
  · refine x_iload_n C dX8_requirePart_9 rfl rfl ?_
    refine x_aload_n C dX8_requirePart_10 rfl rfl ?_
    refine x_getfield C dX8_requirePart_11 fX8_23 (hc 0 _ rfl) hc2 ?_
    refine x_getfield C dX8_requirePart_14 fX8_136 (hp 0 _ rfl) rfl ?_
    refine x_iload_n C dX8_requirePart_17 rfl rfl ?_
    refine x_callV1 C dX8_requirePart_18 kX8_114 (c_X4_get hO (by decide) (x_bk_sub hp 3 rfl)) (hp 3 _ rfl) rfl (by decide) ⟨Nat.zero_le _, Nat.zero_le _⟩ (Nat.le_of_ble_eq_true rfl) ?_
    rintro _ _ ⟨rfl, rfl⟩
    rw [rg_nI (show k < 6 by omega) (by decide), hq3 k (by omega)]
    refine x_icmp_lt (tgt := 35) C dX8_requirePart_21 (by decide) (fun c21 => ?_) (fun c21 => ?_)
    · exact (h_inR_f hv c6 c21).elim
    · exact x_throwSW C E hX ex_IO (hX.2.2.2.1 (280, "the deal has no such part") (List.mem_of_getElem? (i := 2) rfl)) dX8_requirePart_24 dX8_requirePart_27 dX8_requirePart_28 dX8_requirePart_31 dX8_requirePart_34 (by decide) ⟨by decide, by decide⟩ (Nat.le_of_ble_eq_true rfl)
set_option maxHeartbeats 4000000 in
set_option maxRecDepth 100000 in
theorem c_X8_requireDaysT {l : Launch} {Y0 : x_Y} (hO : x_Ok Y0) (hX : x_Ex l Y0) {M : x_M} {x : Int32} (hv30 : (!decide (x < 1) && !decide (30 < x)) = false) : x_T l Y0 yX8_requireDays cX8_requireDays 1 none 6 1 6 [.int x] M "java/lang/IllegalArgumentException" := by
  refine x_startT hO (by decide +kernel) (Nat.le_of_ble_eq_true rfl) (fun K C E => ?_)
  refine x_iload_n C dX8_requireDays_0 rfl rfl ?_
  refine x_iconst (v := 1) C dX8_requireDays_1 (by decide) ?_
  refine x_icmp_lt (tgt := 11) C dX8_requireDays_2 (by decide) (fun c2 => ?_) (fun c2 => ?_)
  · exact x_throwSW C E hX ex_IA (hX.2.2.2.1 (282, "the days are not 1 to 30") (List.mem_of_getElem? (i := 10) rfl)) dX8_requireDays_11 dX8_requireDays_14 dX8_requireDays_15 dX8_requireDays_18 dX8_requireDays_21 (by decide) ⟨by decide, by decide⟩ (Nat.le_of_ble_eq_true rfl)
  · refine x_iload_n C dX8_requireDays_5 rfl rfl ?_
    refine x_bipush (v := 30) C dX8_requireDays_6 (by decide) ?_
    refine x_icmp_le (tgt := 22) C dX8_requireDays_8 (by decide) (fun c8 => ?_) (fun c8 => ?_)
    · exact absurd hv30 (by rw [decide_eq_false c2, decide_eq_false (Int32.not_lt.mpr c8)]; decide)
    · exact x_throwSW C E hX ex_IA (hX.2.2.2.1 (282, "the days are not 1 to 30") (List.mem_of_getElem? (i := 10) rfl)) dX8_requireDays_11 dX8_requireDays_14 dX8_requireDays_15 dX8_requireDays_18 dX8_requireDays_21 (by decide) ⟨by decide, by decide⟩ (Nat.le_of_ble_eq_true rfl)
set_option maxHeartbeats 4000000 in
set_option maxRecDepth 100000 in
theorem c_X8_honeyOfN {l : Launch} {Y0 : x_Y} (hO : x_Ok Y0) (hX : x_Ex l Y0) {M : x_M} {a p : Nat} {P : PL} {A : HS} {hx sk : Nat → Int32} {ht : Int32} {Q : HS} (hP : p_ok P) (hQ : q_is Q P) (hb : x_bk M a (hvT a p P A hx sk ht)) (hp : x_bk M p (plT p Q)) {c : Nat} {fs : List Value} (hc : x_bk M c [.inr (8, fs)]) (hc2 : fs[2]? = some (.ref p)) (hc4 : fs[4]? = some (.ref a)) (hk9 : h_ok P A) {x : Int32} (hv : h_inR x (p_nd P) = false) : x_T l Y0 yX8_honeyOf cX8_honeyOf 2 (some .int) 7 1 6 [.ref c, .int x] M "java/lang/IndexOutOfBoundsException" := by
  refine x_startT hO (by decide +kernel) (Nat.le_of_ble_eq_true rfl) (fun K C E => ?_)
  refine x_aload_n C dX8_honeyOf_0 rfl rfl ?_
  refine x_iload_n C dX8_honeyOf_1 rfl rfl ?_
  exact x_callVT (As := [_]) C E dX8_honeyOf_2 kX8_111 nX8_111 (c_X8_requireDroneT hO hX hP hQ hb hp hc hc2 hc4 hk9 hv) (hc 0 _ rfl) rfl rfl rfl (by decide) ⟨by decide, by decide⟩ (Nat.le_of_ble_eq_true rfl)
set_option maxHeartbeats 4000000 in
set_option maxRecDepth 100000 in
theorem c_X8_isAwakeN {l : Launch} {Y0 : x_Y} (hO : x_Ok Y0) (hX : x_Ex l Y0) {M : x_M} {a p : Nat} {P : PL} {A : HS} {hx sk : Nat → Int32} {ht : Int32} {Q : HS} (hP : p_ok P) (hQ : q_is Q P) (hb : x_bk M a (hvT a p P A hx sk ht)) (hp : x_bk M p (plT p Q)) {c : Nat} {fs : List Value} (hc : x_bk M c [.inr (8, fs)]) (hc2 : fs[2]? = some (.ref p)) (hc4 : fs[4]? = some (.ref a)) (hk9 : h_ok P A) {x : Int32} (hv : h_inR x (p_nd P) = false) : x_T l Y0 yX8_isAwake cX8_isAwake 2 (some .boolean) 7 1 6 [.ref c, .int x] M "java/lang/IndexOutOfBoundsException" := by
  refine x_startT hO (by decide +kernel) (Nat.le_of_ble_eq_true rfl) (fun K C E => ?_)
  refine x_aload_n C dX8_isAwake_0 rfl rfl ?_
  refine x_iload_n C dX8_isAwake_1 rfl rfl ?_
  exact x_callVT (As := [_]) C E dX8_isAwake_2 kX8_111 nX8_111 (c_X8_requireDroneT hO hX hP hQ hb hp hc hc2 hc4 hk9 hv) (hc 0 _ rfl) rfl rfl rfl (by decide) ⟨by decide, by decide⟩ (Nat.le_of_ble_eq_true rfl)
set_option maxHeartbeats 4000000 in
set_option maxRecDepth 100000 in
theorem c_X8_blockedByN {l : Launch} {Y0 : x_Y} (hO : x_Ok Y0) (hX : x_Ex l Y0) {M : x_M} {a p : Nat} {P : PL} {A : HS} {hx sk : Nat → Int32} {ht : Int32} {Q : HS} (hP : p_ok P) (hQ : q_is Q P) (hb : x_bk M a (hvT a p P A hx sk ht)) (hp : x_bk M p (plT p Q)) {c : Nat} {fs : List Value} (hc : x_bk M c [.inr (8, fs)]) (hc2 : fs[2]? = some (.ref p)) (hc4 : fs[4]? = some (.ref a)) (hk9 : h_ok P A) {x : Int32} (hv : h_inR x (p_nd P) = false) : x_T l Y0 yX8_blockedBy cX8_blockedBy 2 (some .int) 7 1 6 [.ref c, .int x] M "java/lang/IndexOutOfBoundsException" := by
  refine x_startT hO (by decide +kernel) (Nat.le_of_ble_eq_true rfl) (fun K C E => ?_)
  refine x_aload_n C dX8_blockedBy_0 rfl rfl ?_
  refine x_iload_n C dX8_blockedBy_1 rfl rfl ?_
  exact x_callVT (As := [_]) C E dX8_blockedBy_2 kX8_111 nX8_111 (c_X8_requireDroneT hO hX hP hQ hb hp hc hc2 hc4 hk9 hv) (hc 0 _ rfl) rfl rfl rfl (by decide) ⟨by decide, by decide⟩ (Nat.le_of_ble_eq_true rfl)
set_option maxHeartbeats 4000000 in
set_option maxRecDepth 100000 in
theorem c_X8_logOfN {l : Launch} {Y0 : x_Y} (hO : x_Ok Y0) (hX : x_Ex l Y0) {M : x_M} {a p : Nat} {P : PL} {A : HS} {hx sk : Nat → Int32} {ht : Int32} {Q : HS} (hP : p_ok P) (hQ : q_is Q P) (hb : x_bk M a (hvT a p P A hx sk ht)) (hp : x_bk M p (plT p Q)) {c : Nat} {fs : List Value} (hc : x_bk M c [.inr (8, fs)]) (hc2 : fs[2]? = some (.ref p)) (hc4 : fs[4]? = some (.ref a)) (hk9 : h_ok P A) {x : Int32} (hv : h_inR x (p_nd P) = false) : x_T l Y0 yX8_logOf cX8_logOf 2 (some .int) 7 1 6 [.ref c, .int x] M "java/lang/IndexOutOfBoundsException" := by
  refine x_startT hO (by decide +kernel) (Nat.le_of_ble_eq_true rfl) (fun K C E => ?_)
  refine x_aload_n C dX8_logOf_0 rfl rfl ?_
  refine x_iload_n C dX8_logOf_1 rfl rfl ?_
  exact x_callVT (As := [_]) C E dX8_logOf_2 kX8_111 nX8_111 (c_X8_requireDroneT hO hX hP hQ hb hp hc hc2 hc4 hk9 hv) (hc 0 _ rfl) rfl rfl rfl (by decide) ⟨by decide, by decide⟩ (Nat.le_of_ble_eq_true rfl)
set_option maxHeartbeats 4000000 in
set_option maxRecDepth 100000 in
theorem c_X8_crashN {l : Launch} {Y0 : x_Y} (hO : x_Ok Y0) (hX : x_Ex l Y0) {M : x_M} {a p : Nat} {P : PL} {A : HS} {hx sk : Nat → Int32} {ht : Int32} {Q : HS} (hP : p_ok P) (hQ : q_is Q P) (hb : x_bk M a (hvT a p P A hx sk ht)) (hp : x_bk M p (plT p Q)) {c : Nat} {fs : List Value} (hc : x_bk M c [.inr (8, fs)]) (hc2 : fs[2]? = some (.ref p)) (hc4 : fs[4]? = some (.ref a)) (hk9 : h_ok P A) {x : Int32} (hv : h_inR x (p_nd P) = false) : x_T l Y0 yX8_crash cX8_crash 2 (some .int) 7 1 6 [.ref c, .int x] M "java/lang/IndexOutOfBoundsException" := by
  refine x_startT hO (by decide +kernel) (Nat.le_of_ble_eq_true rfl) (fun K C E => ?_)
  refine x_aload_n C dX8_crash_0 rfl rfl ?_
  refine x_iload_n C dX8_crash_1 rfl rfl ?_
  exact x_callVT (As := [_]) C E dX8_crash_2 kX8_111 nX8_111 (c_X8_requireDroneT hO hX hP hQ hb hp hc hc2 hc4 hk9 hv) (hc 0 _ rfl) rfl rfl rfl (by decide) ⟨by decide, by decide⟩ (Nat.le_of_ble_eq_true rfl)
set_option maxHeartbeats 4000000 in
set_option maxRecDepth 100000 in
theorem c_X8_wakeN {l : Launch} {Y0 : x_Y} (hO : x_Ok Y0) (hX : x_Ex l Y0) {M : x_M} {a p : Nat} {P : PL} {A : HS} {hx sk : Nat → Int32} {ht : Int32} {Q : HS} (hP : p_ok P) (hQ : q_is Q P) (hb : x_bk M a (hvT a p P A hx sk ht)) (hp : x_bk M p (plT p Q)) {c : Nat} {fs : List Value} (hc : x_bk M c [.inr (8, fs)]) (hc2 : fs[2]? = some (.ref p)) (hc4 : fs[4]? = some (.ref a)) (hk9 : h_ok P A) {x : Int32} (hv : h_inR x (p_nd P) = false) : x_T l Y0 yX8_wake cX8_wake 2 (some .int) 7 1 6 [.ref c, .int x] M "java/lang/IndexOutOfBoundsException" := by
  refine x_startT hO (by decide +kernel) (Nat.le_of_ble_eq_true rfl) (fun K C E => ?_)
  refine x_aload_n C dX8_wake_0 rfl rfl ?_
  refine x_iload_n C dX8_wake_1 rfl rfl ?_
  exact x_callVT (As := [_]) C E dX8_wake_2 kX8_111 nX8_111 (c_X8_requireDroneT hO hX hP hQ hb hp hc hc2 hc4 hk9 hv) (hc 0 _ rfl) rfl rfl rfl (by decide) ⟨by decide, by decide⟩ (Nat.le_of_ble_eq_true rfl)
set_option maxHeartbeats 4000000 in
set_option maxRecDepth 100000 in
theorem c_X8_daysUntilFreeN {l : Launch} {Y0 : x_Y} (hO : x_Ok Y0) (hX : x_Ex l Y0) {M : x_M} {a p : Nat} {P : PL} {A : HS} {hx sk : Nat → Int32} {ht : Int32} {Q : HS} (hP : p_ok P) (hQ : q_is Q P) (hb : x_bk M a (hvT a p P A hx sk ht)) (hp : x_bk M p (plT p Q)) {c : Nat} {fs : List Value} (hc : x_bk M c [.inr (8, fs)]) (hc2 : fs[2]? = some (.ref p)) (hc4 : fs[4]? = some (.ref a)) (hk9 : h_ok P A) {x : Int32} (hv : h_inR x (p_nd P) = false) : x_T l Y0 yX8_daysUntilFree cX8_daysUntilFree 3 (some .int) 7 1 6 [.ref c, .int x] M "java/lang/IndexOutOfBoundsException" := by
  refine x_startT hO (by decide +kernel) (Nat.le_of_ble_eq_true rfl) (fun K C E => ?_)
  refine x_aload_n C dX8_daysUntilFree_0 rfl rfl ?_
  refine x_iload_n C dX8_daysUntilFree_1 rfl rfl ?_
  exact x_callVT (As := [_]) C E dX8_daysUntilFree_2 kX8_111 nX8_111 (c_X8_requireDroneT hO hX hP hQ hb hp hc hc2 hc4 hk9 hv) (hc 0 _ rfl) rfl rfl rfl (by decide) ⟨by decide, by decide⟩ (Nat.le_of_ble_eq_true rfl)
set_option maxHeartbeats 4000000 in
set_option maxRecDepth 100000 in
theorem c_X8_stateOfN {l : Launch} {Y0 : x_Y} (hO : x_Ok Y0) (hX : x_Ex l Y0) {M : x_M} {a p : Nat} {P : PL} {A : HS} {hx sk : Nat → Int32} {ht : Int32} {Q : HS} (hP : p_ok P) (hQ : q_is Q P) (hb : x_bk M a (hvT a p P A hx sk ht)) (hp : x_bk M p (plT p Q)) {c : Nat} {fs : List Value} (hc : x_bk M c [.inr (8, fs)]) (hc2 : fs[2]? = some (.ref p)) (hc4 : fs[4]? = some (.ref a)) (hk9 : h_ok P A) {x : Int32} (hv : h_inR x (p_nk P) = false) : x_T l Y0 yX8_stateOf cX8_stateOf 2 (some .int) 7 1 6 [.ref c, .int x] M "java/lang/IndexOutOfBoundsException" := by
  refine x_startT hO (by decide +kernel) (Nat.le_of_ble_eq_true rfl) (fun K C E => ?_)
  refine x_aload_n C dX8_stateOf_0 rfl rfl ?_
  refine x_iload_n C dX8_stateOf_1 rfl rfl ?_
  exact x_callVT (As := [_]) C E dX8_stateOf_2 kX8_127 nX8_127 (c_X8_requireDealT hO hX hP hQ hb hp hc hc2 hc4 hk9 hv) (hc 0 _ rfl) rfl rfl rfl (by decide) ⟨by decide, by decide⟩ (Nat.le_of_ble_eq_true rfl)
set_option maxHeartbeats 4000000 in
set_option maxRecDepth 100000 in
theorem c_X8_waitsOfN {l : Launch} {Y0 : x_Y} (hO : x_Ok Y0) (hX : x_Ex l Y0) {M : x_M} {a p : Nat} {P : PL} {A : HS} {hx sk : Nat → Int32} {ht : Int32} {Q : HS} (hP : p_ok P) (hQ : q_is Q P) (hb : x_bk M a (hvT a p P A hx sk ht)) (hp : x_bk M p (plT p Q)) {c : Nat} {fs : List Value} (hc : x_bk M c [.inr (8, fs)]) (hc2 : fs[2]? = some (.ref p)) (hc4 : fs[4]? = some (.ref a)) (hk9 : h_ok P A) {x : Int32} (hv : h_inR x (p_nk P) = false) : x_T l Y0 yX8_waitsOf cX8_waitsOf 2 (some .int) 7 1 6 [.ref c, .int x] M "java/lang/IndexOutOfBoundsException" := by
  refine x_startT hO (by decide +kernel) (Nat.le_of_ble_eq_true rfl) (fun K C E => ?_)
  refine x_aload_n C dX8_waitsOf_0 rfl rfl ?_
  refine x_iload_n C dX8_waitsOf_1 rfl rfl ?_
  exact x_callVT (As := [_]) C E dX8_waitsOf_2 kX8_127 nX8_127 (c_X8_requireDealT hO hX hP hQ hb hp hc hc2 hc4 hk9 hv) (hc 0 _ rfl) rfl rfl rfl (by decide) ⟨by decide, by decide⟩ (Nat.le_of_ble_eq_true rfl)
set_option maxHeartbeats 4000000 in
set_option maxRecDepth 100000 in
theorem c_X8_partsOfN {l : Launch} {Y0 : x_Y} (hO : x_Ok Y0) (hX : x_Ex l Y0) {M : x_M} {a p : Nat} {P : PL} {A : HS} {hx sk : Nat → Int32} {ht : Int32} {Q : HS} (hP : p_ok P) (hQ : q_is Q P) (hb : x_bk M a (hvT a p P A hx sk ht)) (hp : x_bk M p (plT p Q)) {c : Nat} {fs : List Value} (hc : x_bk M c [.inr (8, fs)]) (hc2 : fs[2]? = some (.ref p)) (hc4 : fs[4]? = some (.ref a)) (hk9 : h_ok P A) {x : Int32} (hv : h_inR x (p_nk P) = false) : x_T l Y0 yX8_partsOf cX8_partsOf 2 (some .int) 7 1 6 [.ref c, .int x] M "java/lang/IndexOutOfBoundsException" := by
  refine x_startT hO (by decide +kernel) (Nat.le_of_ble_eq_true rfl) (fun K C E => ?_)
  refine x_aload_n C dX8_partsOf_0 rfl rfl ?_
  refine x_iload_n C dX8_partsOf_1 rfl rfl ?_
  exact x_callVT (As := [_]) C E dX8_partsOf_2 kX8_127 nX8_127 (c_X8_requireDealT hO hX hP hQ hb hp hc hc2 hc4 hk9 hv) (hc 0 _ rfl) rfl rfl rfl (by decide) ⟨by decide, by decide⟩ (Nat.le_of_ble_eq_true rfl)
set_option maxHeartbeats 4000000 in
set_option maxRecDepth 100000 in
theorem c_X8_votesForN {l : Launch} {Y0 : x_Y} (hO : x_Ok Y0) (hX : x_Ex l Y0) {M : x_M} {a p : Nat} {P : PL} {A : HS} {hx sk : Nat → Int32} {ht : Int32} {Q : HS} (hP : p_ok P) (hQ : q_is Q P) (hb : x_bk M a (hvT a p P A hx sk ht)) (hp : x_bk M p (plT p Q)) {c : Nat} {fs : List Value} (hc : x_bk M c [.inr (8, fs)]) (hc2 : fs[2]? = some (.ref p)) (hc4 : fs[4]? = some (.ref a)) (hk9 : h_ok P A) {x : Int32} (hv : h_inR x (p_nk P) = false) : x_T l Y0 yX8_votesFor cX8_votesFor 2 (some .int) 7 1 6 [.ref c, .int x] M "java/lang/IndexOutOfBoundsException" := by
  refine x_startT hO (by decide +kernel) (Nat.le_of_ble_eq_true rfl) (fun K C E => ?_)
  refine x_aload_n C dX8_votesFor_0 rfl rfl ?_
  refine x_iload_n C dX8_votesFor_1 rfl rfl ?_
  exact x_callVT (As := [_]) C E dX8_votesFor_2 kX8_127 nX8_127 (c_X8_requireDealT hO hX hP hQ hb hp hc hc2 hc4 hk9 hv) (hc 0 _ rfl) rfl rfl rfl (by decide) ⟨by decide, by decide⟩ (Nat.le_of_ble_eq_true rfl)
set_option maxHeartbeats 4000000 in
set_option maxRecDepth 100000 in
theorem c_X8_wouldAgreeN {l : Launch} {Y0 : x_Y} (hO : x_Ok Y0) (hX : x_Ex l Y0) {M : x_M} {a p : Nat} {P : PL} {A : HS} {hx sk : Nat → Int32} {ht : Int32} {Q : HS} (hP : p_ok P) (hQ : q_is Q P) (hb : x_bk M a (hvT a p P A hx sk ht)) (hp : x_bk M p (plT p Q)) {c : Nat} {fs : List Value} (hc : x_bk M c [.inr (8, fs)]) (hc2 : fs[2]? = some (.ref p)) (hc4 : fs[4]? = some (.ref a)) (hk9 : h_ok P A) {x : Int32} (hv : h_inR x (p_nk P) = false) : x_T l Y0 yX8_wouldAgree cX8_wouldAgree 2 (some .boolean) 7 1 6 [.ref c, .int x] M "java/lang/IndexOutOfBoundsException" := by
  refine x_startT hO (by decide +kernel) (Nat.le_of_ble_eq_true rfl) (fun K C E => ?_)
  refine x_aload_n C dX8_wouldAgree_0 rfl rfl ?_
  refine x_iload_n C dX8_wouldAgree_1 rfl rfl ?_
  exact x_callVT (As := [_]) C E dX8_wouldAgree_2 kX8_127 nX8_127 (c_X8_requireDealT hO hX hP hQ hb hp hc hc2 hc4 hk9 hv) (hc 0 _ rfl) rfl rfl rfl (by decide) ⟨by decide, by decide⟩ (Nat.le_of_ble_eq_true rfl)
set_option maxHeartbeats 4000000 in
set_option maxRecDepth 100000 in
theorem c_X8_beginN {l : Launch} {Y0 : x_Y} (hO : x_Ok Y0) (hX : x_Ex l Y0) {M : x_M} {a p : Nat} {P : PL} {A : HS} {hx sk : Nat → Int32} {ht : Int32} {Q : HS} (hP : p_ok P) (hQ : q_is Q P) (hb : x_bk M a (hvT a p P A hx sk ht)) (hp : x_bk M p (plT p Q)) {c : Nat} {fs : List Value} (hc : x_bk M c [.inr (8, fs)]) (hc2 : fs[2]? = some (.ref p)) (hc4 : fs[4]? = some (.ref a)) (hk9 : h_ok P A) {x : Int32} (hv : h_inR x (p_nk P) = false) : x_T l Y0 yX8_begin cX8_begin 2 (some .int) 7 1 6 [.ref c, .int x] M "java/lang/IndexOutOfBoundsException" := by
  refine x_startT hO (by decide +kernel) (Nat.le_of_ble_eq_true rfl) (fun K C E => ?_)
  refine x_aload_n C dX8_begin_0 rfl rfl ?_
  refine x_iload_n C dX8_begin_1 rfl rfl ?_
  exact x_callVT (As := [_]) C E dX8_begin_2 kX8_127 nX8_127 (c_X8_requireDealT hO hX hP hQ hb hp hc hc2 hc4 hk9 hv) (hc 0 _ rfl) rfl rfl rfl (by decide) ⟨by decide, by decide⟩ (Nat.le_of_ble_eq_true rfl)
set_option maxHeartbeats 4000000 in
set_option maxRecDepth 100000 in
theorem c_X8_honeyAfterN {l : Launch} {Y0 : x_Y} (hO : x_Ok Y0) (hX : x_Ex l Y0) {M : x_M} {a p : Nat} {P : PL} {A : HS} {hx sk : Nat → Int32} {ht : Int32} {Q : HS} (hP : p_ok P) (hQ : q_is Q P) (hb : x_bk M a (hvT a p P A hx sk ht)) (hp : x_bk M p (plT p Q)) {c : Nat} {fs : List Value} (hc : x_bk M c [.inr (8, fs)]) (hc2 : fs[2]? = some (.ref p)) (hc4 : fs[4]? = some (.ref a)) (hk9 : h_ok P A) {x y : Int32} (hv : h_inR x (p_nd P) = false) : x_T l Y0 yX8_honeyAfter cX8_honeyAfter 3 (some .int) 7 1 6 [.ref c, .int x, .int y] M "java/lang/IndexOutOfBoundsException" := by
  refine x_startT hO (by decide +kernel) (Nat.le_of_ble_eq_true rfl) (fun K C E => ?_)
  refine x_aload_n C dX8_honeyAfter_0 rfl rfl ?_
  refine x_iload_n C dX8_honeyAfter_1 rfl rfl ?_
  exact x_callVT (As := [_]) C E dX8_honeyAfter_2 kX8_111 nX8_111 (c_X8_requireDroneT hO hX hP hQ hb hp hc hc2 hc4 hk9 hv) (hc 0 _ rfl) rfl rfl rfl (by decide) ⟨by decide, by decide⟩ (Nat.le_of_ble_eq_true rfl)
set_option maxHeartbeats 4000000 in
set_option maxRecDepth 100000 in
theorem c_X8_stateAfterN {l : Launch} {Y0 : x_Y} (hO : x_Ok Y0) (hX : x_Ex l Y0) {M : x_M} {a p : Nat} {P : PL} {A : HS} {hx sk : Nat → Int32} {ht : Int32} {Q : HS} (hP : p_ok P) (hQ : q_is Q P) (hb : x_bk M a (hvT a p P A hx sk ht)) (hp : x_bk M p (plT p Q)) {c : Nat} {fs : List Value} (hc : x_bk M c [.inr (8, fs)]) (hc2 : fs[2]? = some (.ref p)) (hc4 : fs[4]? = some (.ref a)) (hk9 : h_ok P A) {x y : Int32} (hv : h_inR x (p_nk P) = false) : x_T l Y0 yX8_stateAfter cX8_stateAfter 3 (some .int) 7 1 6 [.ref c, .int x, .int y] M "java/lang/IndexOutOfBoundsException" := by
  refine x_startT hO (by decide +kernel) (Nat.le_of_ble_eq_true rfl) (fun K C E => ?_)
  refine x_aload_n C dX8_stateAfter_0 rfl rfl ?_
  refine x_iload_n C dX8_stateAfter_1 rfl rfl ?_
  exact x_callVT (As := [_]) C E dX8_stateAfter_2 kX8_127 nX8_127 (c_X8_requireDealT hO hX hP hQ hb hp hc hc2 hc4 hk9 hv) (hc 0 _ rfl) rfl rfl rfl (by decide) ⟨by decide, by decide⟩ (Nat.le_of_ble_eq_true rfl)
set_option maxHeartbeats 4000000 in
set_option maxRecDepth 100000 in
theorem c_X8_droneInN {l : Launch} {Y0 : x_Y} (hO : x_Ok Y0) (hX : x_Ex l Y0) {M : x_M} {a p : Nat} {P : PL} {A : HS} {hx sk : Nat → Int32} {ht : Int32} {Q : HS} (hP : p_ok P) (hQ : q_is Q P) (hb : x_bk M a (hvT a p P A hx sk ht)) (hp : x_bk M p (plT p Q)) {c : Nat} {fs : List Value} (hc : x_bk M c [.inr (8, fs)]) (hc2 : fs[2]? = some (.ref p)) (hc4 : fs[4]? = some (.ref a)) (hk9 : h_ok P A) {x y : Int32} (hv : h_inR x (p_nk P) = false) : x_T l Y0 yX8_droneIn cX8_droneIn 3 (some .int) 8 1 6 [.ref c, .int x, .int y] M "java/lang/IndexOutOfBoundsException" := by
  refine x_startT hO (by decide +kernel) (Nat.le_of_ble_eq_true rfl) (fun K C E => ?_)
  refine x_aload_n C dX8_droneIn_0 rfl rfl ?_
  refine x_iload_n C dX8_droneIn_1 rfl rfl ?_
  refine x_iload_n C dX8_droneIn_2 rfl rfl ?_
  exact x_callVT (As := [_, _]) C E dX8_droneIn_3 kX8_139 nX8_139 (c_X8_requirePartN hO hX hP hQ hb hp hc hc2 hc4 hk9 hv) (hc 0 _ rfl) rfl rfl rfl (by decide) ⟨by decide, by decide⟩ (Nat.le_of_ble_eq_true rfl)
set_option maxHeartbeats 4000000 in
set_option maxRecDepth 100000 in
theorem c_X8_droneInM {l : Launch} {Y0 : x_Y} (hO : x_Ok Y0) (hX : x_Ex l Y0) {M : x_M} {a p : Nat} {P : PL} {A : HS} {hx sk : Nat → Int32} {ht : Int32} {Q : HS} (hP : p_ok P) (hQ : q_is Q P) (hb : x_bk M a (hvT a p P A hx sk ht)) (hp : x_bk M p (plT p Q)) {c : Nat} {fs : List Value} (hc : x_bk M c [.inr (8, fs)]) (hc2 : fs[2]? = some (.ref p)) (hc4 : fs[4]? = some (.ref a)) (hk9 : h_ok P A) {k : Nat} (hk : k < p_nk P) {x : Int32} (hv : h_inR x (p_np P k) = false) : x_T l Y0 yX8_droneIn cX8_droneIn 3 (some .int) 8 1 6 [.ref c, .int (nI k), .int x] M "java/lang/IndexOutOfBoundsException" := by
  refine x_startT hO (by decide +kernel) (Nat.le_of_ble_eq_true rfl) (fun K C E => ?_)
  refine x_aload_n C dX8_droneIn_0 rfl rfl ?_
  refine x_iload_n C dX8_droneIn_1 rfl rfl ?_
  refine x_iload_n C dX8_droneIn_2 rfl rfl ?_
  exact x_callVT (As := [_, _]) C E dX8_droneIn_3 kX8_139 nX8_139 (c_X8_requirePartM hO hX hP hQ hb hp hc hc2 hc4 hk9 hk hv) (hc 0 _ rfl) rfl rfl rfl (by decide) ⟨by decide, by decide⟩ (Nat.le_of_ble_eq_true rfl)
set_option maxHeartbeats 4000000 in
set_option maxRecDepth 100000 in
theorem c_X8_changeInN {l : Launch} {Y0 : x_Y} (hO : x_Ok Y0) (hX : x_Ex l Y0) {M : x_M} {a p : Nat} {P : PL} {A : HS} {hx sk : Nat → Int32} {ht : Int32} {Q : HS} (hP : p_ok P) (hQ : q_is Q P) (hb : x_bk M a (hvT a p P A hx sk ht)) (hp : x_bk M p (plT p Q)) {c : Nat} {fs : List Value} (hc : x_bk M c [.inr (8, fs)]) (hc2 : fs[2]? = some (.ref p)) (hc4 : fs[4]? = some (.ref a)) (hk9 : h_ok P A) {x y : Int32} (hv : h_inR x (p_nk P) = false) : x_T l Y0 yX8_changeIn cX8_changeIn 3 (some .int) 8 1 6 [.ref c, .int x, .int y] M "java/lang/IndexOutOfBoundsException" := by
  refine x_startT hO (by decide +kernel) (Nat.le_of_ble_eq_true rfl) (fun K C E => ?_)
  refine x_aload_n C dX8_changeIn_0 rfl rfl ?_
  refine x_iload_n C dX8_changeIn_1 rfl rfl ?_
  refine x_iload_n C dX8_changeIn_2 rfl rfl ?_
  exact x_callVT (As := [_, _]) C E dX8_changeIn_3 kX8_139 nX8_139 (c_X8_requirePartN hO hX hP hQ hb hp hc hc2 hc4 hk9 hv) (hc 0 _ rfl) rfl rfl rfl (by decide) ⟨by decide, by decide⟩ (Nat.le_of_ble_eq_true rfl)
set_option maxHeartbeats 4000000 in
set_option maxRecDepth 100000 in
theorem c_X8_changeInM {l : Launch} {Y0 : x_Y} (hO : x_Ok Y0) (hX : x_Ex l Y0) {M : x_M} {a p : Nat} {P : PL} {A : HS} {hx sk : Nat → Int32} {ht : Int32} {Q : HS} (hP : p_ok P) (hQ : q_is Q P) (hb : x_bk M a (hvT a p P A hx sk ht)) (hp : x_bk M p (plT p Q)) {c : Nat} {fs : List Value} (hc : x_bk M c [.inr (8, fs)]) (hc2 : fs[2]? = some (.ref p)) (hc4 : fs[4]? = some (.ref a)) (hk9 : h_ok P A) {k : Nat} (hk : k < p_nk P) {x : Int32} (hv : h_inR x (p_np P k) = false) : x_T l Y0 yX8_changeIn cX8_changeIn 3 (some .int) 8 1 6 [.ref c, .int (nI k), .int x] M "java/lang/IndexOutOfBoundsException" := by
  refine x_startT hO (by decide +kernel) (Nat.le_of_ble_eq_true rfl) (fun K C E => ?_)
  refine x_aload_n C dX8_changeIn_0 rfl rfl ?_
  refine x_iload_n C dX8_changeIn_1 rfl rfl ?_
  refine x_iload_n C dX8_changeIn_2 rfl rfl ?_
  exact x_callVT (As := [_, _]) C E dX8_changeIn_3 kX8_139 nX8_139 (c_X8_requirePartM hO hX hP hQ hb hp hc hc2 hc4 hk9 hk hv) (hc 0 _ rfl) rfl rfl rfl (by decide) ⟨by decide, by decide⟩ (Nat.le_of_ble_eq_true rfl)
set_option maxHeartbeats 4000000 in
set_option maxRecDepth 100000 in
theorem c_X8_voteInN {l : Launch} {Y0 : x_Y} (hO : x_Ok Y0) (hX : x_Ex l Y0) {M : x_M} {a p : Nat} {P : PL} {A : HS} {hx sk : Nat → Int32} {ht : Int32} {Q : HS} (hP : p_ok P) (hQ : q_is Q P) (hb : x_bk M a (hvT a p P A hx sk ht)) (hp : x_bk M p (plT p Q)) {c : Nat} {fs : List Value} (hc : x_bk M c [.inr (8, fs)]) (hc2 : fs[2]? = some (.ref p)) (hc4 : fs[4]? = some (.ref a)) (hk9 : h_ok P A) {x y : Int32} (hv : h_inR x (p_nk P) = false) : x_T l Y0 yX8_voteIn cX8_voteIn 3 (some .int) 8 1 6 [.ref c, .int x, .int y] M "java/lang/IndexOutOfBoundsException" := by
  refine x_startT hO (by decide +kernel) (Nat.le_of_ble_eq_true rfl) (fun K C E => ?_)
  refine x_aload_n C dX8_voteIn_0 rfl rfl ?_
  refine x_iload_n C dX8_voteIn_1 rfl rfl ?_
  refine x_iload_n C dX8_voteIn_2 rfl rfl ?_
  exact x_callVT (As := [_, _]) C E dX8_voteIn_3 kX8_139 nX8_139 (c_X8_requirePartN hO hX hP hQ hb hp hc hc2 hc4 hk9 hv) (hc 0 _ rfl) rfl rfl rfl (by decide) ⟨by decide, by decide⟩ (Nat.le_of_ble_eq_true rfl)
set_option maxHeartbeats 4000000 in
set_option maxRecDepth 100000 in
theorem c_X8_voteInM {l : Launch} {Y0 : x_Y} (hO : x_Ok Y0) (hX : x_Ex l Y0) {M : x_M} {a p : Nat} {P : PL} {A : HS} {hx sk : Nat → Int32} {ht : Int32} {Q : HS} (hP : p_ok P) (hQ : q_is Q P) (hb : x_bk M a (hvT a p P A hx sk ht)) (hp : x_bk M p (plT p Q)) {c : Nat} {fs : List Value} (hc : x_bk M c [.inr (8, fs)]) (hc2 : fs[2]? = some (.ref p)) (hc4 : fs[4]? = some (.ref a)) (hk9 : h_ok P A) {k : Nat} (hk : k < p_nk P) {x : Int32} (hv : h_inR x (p_np P k) = false) : x_T l Y0 yX8_voteIn cX8_voteIn 3 (some .int) 8 1 6 [.ref c, .int (nI k), .int x] M "java/lang/IndexOutOfBoundsException" := by
  refine x_startT hO (by decide +kernel) (Nat.le_of_ble_eq_true rfl) (fun K C E => ?_)
  refine x_aload_n C dX8_voteIn_0 rfl rfl ?_
  refine x_iload_n C dX8_voteIn_1 rfl rfl ?_
  refine x_iload_n C dX8_voteIn_2 rfl rfl ?_
  exact x_callVT (As := [_, _]) C E dX8_voteIn_3 kX8_139 nX8_139 (c_X8_requirePartM hO hX hP hQ hb hp hc hc2 hc4 hk9 hk hv) (hc 0 _ rfl) rfl rfl rfl (by decide) ⟨by decide, by decide⟩ (Nat.le_of_ble_eq_true rfl)
set_option maxHeartbeats 4000000 in
set_option maxRecDepth 100000 in
theorem c_X8_hasHeardN {l : Launch} {Y0 : x_Y} (hO : x_Ok Y0) (hX : x_Ex l Y0) {M : x_M} {a p : Nat} {P : PL} {A : HS} {hx sk : Nat → Int32} {ht : Int32} {Q : HS} (hP : p_ok P) (hQ : q_is Q P) (hb : x_bk M a (hvT a p P A hx sk ht)) (hp : x_bk M p (plT p Q)) {c : Nat} {fs : List Value} (hc : x_bk M c [.inr (8, fs)]) (hc2 : fs[2]? = some (.ref p)) (hc4 : fs[4]? = some (.ref a)) (hk9 : h_ok P A) {x y : Int32} (hv : h_inR x (p_nk P) = false) : x_T l Y0 yX8_hasHeard cX8_hasHeard 3 (some .boolean) 8 1 6 [.ref c, .int x, .int y] M "java/lang/IndexOutOfBoundsException" := by
  refine x_startT hO (by decide +kernel) (Nat.le_of_ble_eq_true rfl) (fun K C E => ?_)
  refine x_aload_n C dX8_hasHeard_0 rfl rfl ?_
  refine x_iload_n C dX8_hasHeard_1 rfl rfl ?_
  refine x_iload_n C dX8_hasHeard_2 rfl rfl ?_
  exact x_callVT (As := [_, _]) C E dX8_hasHeard_3 kX8_139 nX8_139 (c_X8_requirePartN hO hX hP hQ hb hp hc hc2 hc4 hk9 hv) (hc 0 _ rfl) rfl rfl rfl (by decide) ⟨by decide, by decide⟩ (Nat.le_of_ble_eq_true rfl)
set_option maxHeartbeats 4000000 in
set_option maxRecDepth 100000 in
theorem c_X8_hasHeardM {l : Launch} {Y0 : x_Y} (hO : x_Ok Y0) (hX : x_Ex l Y0) {M : x_M} {a p : Nat} {P : PL} {A : HS} {hx sk : Nat → Int32} {ht : Int32} {Q : HS} (hP : p_ok P) (hQ : q_is Q P) (hb : x_bk M a (hvT a p P A hx sk ht)) (hp : x_bk M p (plT p Q)) {c : Nat} {fs : List Value} (hc : x_bk M c [.inr (8, fs)]) (hc2 : fs[2]? = some (.ref p)) (hc4 : fs[4]? = some (.ref a)) (hk9 : h_ok P A) {k : Nat} (hk : k < p_nk P) {x : Int32} (hv : h_inR x (p_np P k) = false) : x_T l Y0 yX8_hasHeard cX8_hasHeard 3 (some .boolean) 8 1 6 [.ref c, .int (nI k), .int x] M "java/lang/IndexOutOfBoundsException" := by
  refine x_startT hO (by decide +kernel) (Nat.le_of_ble_eq_true rfl) (fun K C E => ?_)
  refine x_aload_n C dX8_hasHeard_0 rfl rfl ?_
  refine x_iload_n C dX8_hasHeard_1 rfl rfl ?_
  refine x_iload_n C dX8_hasHeard_2 rfl rfl ?_
  exact x_callVT (As := [_, _]) C E dX8_hasHeard_3 kX8_139 nX8_139 (c_X8_requirePartM hO hX hP hQ hb hp hc hc2 hc4 hk9 hk hv) (hc 0 _ rfl) rfl rfl rfl (by decide) ⟨by decide, by decide⟩ (Nat.le_of_ble_eq_true rfl)
set_option maxHeartbeats 4000000 in
set_option maxRecDepth 100000 in
theorem c_X8_beginE {l : Launch} {Y0 : x_Y} (hO : x_Ok Y0) (hX : x_Ex l Y0) {M : x_M} {a p : Nat} {P : PL} {A : HS} {hx sk : Nat → Int32} {ht : Int32} {Q : HS} (hP : p_ok P) (hQ : q_is Q P) (hb : x_bk M a (hvT a p P A hx sk ht)) (hp : x_bk M p (plT p Q)) {c : Nat} {fs : List Value} (hc : x_bk M c [.inr (8, fs)]) (hc2 : fs[2]? = some (.ref p)) (hc4 : fs[4]? = some (.ref a)) (hk9 : h_ok P A) (hd : p + 21 ≤ a ∨ a + 20 ≤ p) {k : Nat} (hk : k < p_nk P) (hcan : h_can P A k = false) : x_T l Y0 yX8_begin cX8_begin 2 (some .int) 6 1 6 [.ref c, .int (nI k)] M "java/lang/IllegalStateException" := by
  refine x_startT hO (by decide +kernel) (Nat.le_of_ble_eq_true rfl) (fun K C E => ?_)
  have hP0 := hP
  have hQ0 := hQ
  obtain ⟨h8, h6, h16, hnp, hwho, hvb, hts⟩ := hP
  obtain ⟨hq0, hq1, hq2, hq3, hq4, hq5, hq6⟩ := hQ
  refine x_aload_n C dX8_begin_0 rfl rfl ?_
  refine x_iload_n C dX8_begin_1 rfl rfl ?_
  refine x_callV1 C dX8_begin_2 kX8_127 (c_X8_requireDeal hO hP0 hQ0 hb hp hc hc2 hc4 hk9 hk) (hc 0 _ rfl) rfl (by decide) ⟨Nat.zero_le _, Nat.zero_le _⟩ (Nat.le_of_ble_eq_true rfl) ?_
  rintro _ _ ⟨rfl, rfl⟩
  refine x_aload_n C dX8_begin_5 rfl rfl ?_
  refine x_getfield C dX8_begin_6 fX8_40 (hc 0 _ rfl) hc4 ?_
  refine x_iload_n C dX8_begin_9 rfl rfl ?_
  refine x_callV1 C dX8_begin_10 kX8_165 (c_X0_startDeal hO hP0 hQ0 hb hp hd hk9 hk) (hb 0 _ rfl) rfl (by decide) ⟨Nat.zero_le _, Nat.zero_le _⟩ (Nat.le_of_ble_eq_true rfl) ?_
  rintro _ _ ⟨rfl, rfl⟩
  rw [if_neg (show ¬ h_can P A k = true by rw [hcan]; decide), hcan]
  refine x_to (x_ov_self hb) ?_
  refine x_if_ne (tgt := 26) C dX8_begin_13 (by decide) (fun c13 => absurd c13 (fun q => q rfl)) (fun c13 => ?_)
  exact x_throwS C E hX ex_IS (hX.2.2.2.1 (168, "the deal cannot be begun") (List.mem_of_getElem? (i := 5) rfl)) dX8_begin_16 dX8_begin_19 dX8_begin_20 dX8_begin_22 dX8_begin_25 (by decide) ⟨by decide, by decide⟩ (Nat.le_of_ble_eq_true rfl)
set_option maxHeartbeats 4000000 in
set_option maxRecDepth 100000 in
theorem c_X8_crashE {l : Launch} {Y0 : x_Y} (hO : x_Ok Y0) (hX : x_Ex l Y0) {M : x_M} {a p : Nat} {P : PL} {A : HS} {hx sk : Nat → Int32} {ht : Int32} {Q : HS} (hP : p_ok P) (hQ : q_is Q P) (hb : x_bk M a (hvT a p P A hx sk ht)) (hp : x_bk M p (plT p Q)) {c : Nat} {fs : List Value} (hc : x_bk M c [.inr (8, fs)]) (hc2 : fs[2]? = some (.ref p)) (hc4 : fs[4]? = some (.ref a)) (hk9 : h_ok P A) (hd : p + 21 ≤ a ∨ a + 20 ≤ p) {d : Nat} (hd9 : d < p_nd P) (hu : ¬ A 1 d = 0) : x_T l Y0 yX8_crash cX8_crash 2 (some .int) 6 1 6 [.ref c, .int (nI d)] M "java/lang/IllegalStateException" := by
  refine x_startT hO (by decide +kernel) (Nat.le_of_ble_eq_true rfl) (fun K C E => ?_)
  have hP0 := hP
  have hQ0 := hQ
  obtain ⟨h8, h6, h16, hnp, hwho, hvb, hts⟩ := hP
  obtain ⟨hq0, hq1, hq2, hq3, hq4, hq5, hq6⟩ := hQ
  refine x_aload_n C dX8_crash_0 rfl rfl ?_
  refine x_iload_n C dX8_crash_1 rfl rfl ?_
  refine x_callV1 C dX8_crash_2 kX8_111 (c_X8_requireDrone hO hP0 hQ0 hb hp hc hc2 hc4 hk9 hd9) (hc 0 _ rfl) rfl (by decide) ⟨Nat.zero_le _, Nat.zero_le _⟩ (Nat.le_of_ble_eq_true rfl) ?_
  rintro _ _ ⟨rfl, rfl⟩
  refine x_aload_n C dX8_crash_5 rfl rfl ?_
  refine x_getfield C dX8_crash_6 fX8_40 (hc 0 _ rfl) hc4 ?_
  refine x_iload_n C dX8_crash_9 rfl rfl ?_
  refine x_callV1 C dX8_crash_10 kX8_173 (c_X0_putToSleep hO hP0 hQ0 hb hp hd hk9 (show d ≤ 8 by omega)) (hb 0 _ rfl) rfl (by decide) ⟨Nat.zero_le _, Nat.zero_le _⟩ (Nat.le_of_ble_eq_true rfl) ?_
  rintro _ _ ⟨rfl, rfl⟩
  rw [show h_upI A d = 0 from if_neg hu, show h_sleep A d = A from if_neg hu]
  refine x_to (x_ov_self hb) ?_
  refine x_if_ne (tgt := 26) C dX8_crash_13 (by decide) (fun c13 => absurd c13 (fun q => q rfl)) (fun c13 => ?_)
  exact x_throwS C E hX ex_IS (hX.2.2.2.1 (176, "the drone is asleep") (List.mem_of_getElem? (i := 6) rfl)) dX8_crash_16 dX8_crash_19 dX8_crash_20 dX8_crash_22 dX8_crash_25 (by decide) ⟨by decide, by decide⟩ (Nat.le_of_ble_eq_true rfl)
set_option maxHeartbeats 4000000 in
set_option maxRecDepth 100000 in
theorem c_X8_wakeE {l : Launch} {Y0 : x_Y} (hO : x_Ok Y0) (hX : x_Ex l Y0) {M : x_M} {a p : Nat} {P : PL} {A : HS} {hx sk : Nat → Int32} {ht : Int32} {Q : HS} (hP : p_ok P) (hQ : q_is Q P) (hb : x_bk M a (hvT a p P A hx sk ht)) (hp : x_bk M p (plT p Q)) {c : Nat} {fs : List Value} (hc : x_bk M c [.inr (8, fs)]) (hc2 : fs[2]? = some (.ref p)) (hc4 : fs[4]? = some (.ref a)) (hk9 : h_ok P A) (hd : p + 21 ≤ a ∨ a + 20 ≤ p) {d : Nat} (hd9 : d < p_nd P) (hu : A 1 d = 0) : x_T l Y0 yX8_wake cX8_wake 2 (some .int) 6 1 6 [.ref c, .int (nI d)] M "java/lang/IllegalStateException" := by
  refine x_startT hO (by decide +kernel) (Nat.le_of_ble_eq_true rfl) (fun K C E => ?_)
  have hP0 := hP
  have hQ0 := hQ
  obtain ⟨h8, h6, h16, hnp, hwho, hvb, hts⟩ := hP
  obtain ⟨hq0, hq1, hq2, hq3, hq4, hq5, hq6⟩ := hQ
  refine x_aload_n C dX8_wake_0 rfl rfl ?_
  refine x_iload_n C dX8_wake_1 rfl rfl ?_
  refine x_callV1 C dX8_wake_2 kX8_111 (c_X8_requireDrone hO hP0 hQ0 hb hp hc hc2 hc4 hk9 hd9) (hc 0 _ rfl) rfl (by decide) ⟨Nat.zero_le _, Nat.zero_le _⟩ (Nat.le_of_ble_eq_true rfl) ?_
  rintro _ _ ⟨rfl, rfl⟩
  refine x_aload_n C dX8_wake_5 rfl rfl ?_
  refine x_getfield C dX8_wake_6 fX8_40 (hc 0 _ rfl) hc4 ?_
  refine x_iload_n C dX8_wake_9 rfl rfl ?_
  refine x_callV1 C dX8_wake_10 kX8_181 (c_X0_rouse hO hP0 hQ0 hb hp hd hk9 (show d ≤ 8 by omega)) (hb 0 _ rfl) rfl (by decide) ⟨Nat.zero_le _, Nat.zero_le _⟩ (Nat.le_of_ble_eq_true rfl) ?_
  rintro _ _ ⟨rfl, rfl⟩
  rw [show h_upI A d = 1 from if_pos hu, show h_rouse P A d = A from if_pos hu]
  refine x_to (x_ov_self hb) ?_
  refine x_if_ne (tgt := 26) C dX8_wake_13 (by decide) (fun c13 => absurd c13 (fun q => q (by decide))) (fun c13 => ?_)
  exact x_throwS C E hX ex_IS (hX.2.2.2.1 (184, "the drone is awake") (List.mem_of_getElem? (i := 7) rfl)) dX8_wake_16 dX8_wake_19 dX8_wake_20 dX8_wake_22 dX8_wake_25 (by decide) ⟨by decide, by decide⟩ (Nat.le_of_ble_eq_true rfl)
set_option maxHeartbeats 4000000 in
set_option maxRecDepth 100000 in
theorem c_X8_crashQueenE {l : Launch} {Y0 : x_Y} (hO : x_Ok Y0) (hX : x_Ex l Y0) {M : x_M} {a p : Nat} {P : PL} {A : HS} {hx sk : Nat → Int32} {ht : Int32} {Q : HS} (hP : p_ok P) (hQ : q_is Q P) (hb : x_bk M a (hvT a p P A hx sk ht)) (hp : x_bk M p (plT p Q)) {c : Nat} {fs : List Value} (hc : x_bk M c [.inr (8, fs)]) (hc2 : fs[2]? = some (.ref p)) (hc4 : fs[4]? = some (.ref a)) (hk9 : h_ok P A) (hd : p + 21 ≤ a ∨ a + 20 ≤ p) (hu : ¬ A 1 8 = 0) : x_T l Y0 yX8_crashQueen cX8_crashQueen 1 (some .int) 6 1 6 [.ref c] M "java/lang/IllegalStateException" := by
  refine x_startT hO (by decide +kernel) (Nat.le_of_ble_eq_true rfl) (fun K C E => ?_)
  have hP0 := hP
  have hQ0 := hQ
  obtain ⟨h8, h6, h16, hnp, hwho, hvb, hts⟩ := hP
  obtain ⟨hq0, hq1, hq2, hq3, hq4, hq5, hq6⟩ := hQ
  refine x_aload_n C dX8_crashQueen_0 rfl rfl ?_
  refine x_getfield C dX8_crashQueen_1 fX8_40 (hc 0 _ rfl) hc4 ?_
  refine x_bipush (v := 8) C dX8_crashQueen_4 (by decide) ?_
  refine x_callV1 C dX8_crashQueen_6 kX8_173 (c_X0_putToSleep hO hP0 hQ0 hb hp hd hk9 (Nat.le_refl 8)) (hb 0 _ rfl) rfl (by decide) ⟨Nat.zero_le _, Nat.zero_le _⟩ (Nat.le_of_ble_eq_true rfl) ?_
  rintro _ _ ⟨rfl, rfl⟩
  rw [show h_upI A 8 = 0 from if_neg hu, show h_sleep A 8 = A from if_neg hu]
  refine x_to (x_ov_self hb) ?_
  refine x_if_ne (tgt := 22) C dX8_crashQueen_9 (by decide) (fun c9 => absurd c9 (fun q => q rfl)) (fun c9 => ?_)
  exact x_throwS C E hX ex_IS (hX.2.2.2.1 (186, "the queen is asleep") (List.mem_of_getElem? (i := 8) rfl)) dX8_crashQueen_12 dX8_crashQueen_15 dX8_crashQueen_16 dX8_crashQueen_18 dX8_crashQueen_21 (by decide) ⟨by decide, by decide⟩ (Nat.le_of_ble_eq_true rfl)
set_option maxHeartbeats 4000000 in
set_option maxRecDepth 100000 in
theorem c_X8_wakeQueenE {l : Launch} {Y0 : x_Y} (hO : x_Ok Y0) (hX : x_Ex l Y0) {M : x_M} {a p : Nat} {P : PL} {A : HS} {hx sk : Nat → Int32} {ht : Int32} {Q : HS} (hP : p_ok P) (hQ : q_is Q P) (hb : x_bk M a (hvT a p P A hx sk ht)) (hp : x_bk M p (plT p Q)) {c : Nat} {fs : List Value} (hc : x_bk M c [.inr (8, fs)]) (hc2 : fs[2]? = some (.ref p)) (hc4 : fs[4]? = some (.ref a)) (hk9 : h_ok P A) (hd : p + 21 ≤ a ∨ a + 20 ≤ p) (hu : A 1 8 = 0) : x_T l Y0 yX8_wakeQueen cX8_wakeQueen 2 (some .int) 6 1 6 [.ref c] M "java/lang/IllegalStateException" := by
  refine x_startT hO (by decide +kernel) (Nat.le_of_ble_eq_true rfl) (fun K C E => ?_)
  have hP0 := hP
  have hQ0 := hQ
  obtain ⟨h8, h6, h16, hnp, hwho, hvb, hts⟩ := hP
  obtain ⟨hq0, hq1, hq2, hq3, hq4, hq5, hq6⟩ := hQ
  refine x_aload_n C dX8_wakeQueen_0 rfl rfl ?_
  refine x_getfield C dX8_wakeQueen_1 fX8_40 (hc 0 _ rfl) hc4 ?_
  refine x_callV0 C dX8_wakeQueen_4 kX8_170 (c_X0_countBegun hO hP0 hQ0 hb hp) (hb 0 _ rfl) rfl (by decide) ⟨Nat.zero_le _, Nat.zero_le _⟩ (Nat.le_of_ble_eq_true rfl) ?_
  rintro _ _ ⟨rfl, rfl⟩
  refine x_istore_n C dX8_wakeQueen_7 rfl rfl (by decide) ?_
  refine x_aload_n C dX8_wakeQueen_8 rfl rfl ?_
  refine x_getfield C dX8_wakeQueen_9 fX8_40 (hc 0 _ rfl) hc4 ?_
  refine x_bipush (v := 8) C dX8_wakeQueen_12 (by decide) ?_
  refine x_callV1 C dX8_wakeQueen_14 kX8_181 (c_X0_rouse hO hP0 hQ0 hb hp hd hk9 (Nat.le_refl 8)) (hb 0 _ rfl) rfl (by decide) ⟨Nat.zero_le _, Nat.zero_le _⟩ (Nat.le_of_ble_eq_true rfl) ?_
  rintro _ _ ⟨rfl, rfl⟩
  rw [show h_upI A 8 = 1 from if_pos hu, show h_rouse P A 8 = A from if_pos hu]
  refine x_to (x_ov_self hb) ?_
  refine x_if_ne (tgt := 30) C dX8_wakeQueen_17 (by decide) (fun c17 => absurd c17 (fun q => q (by decide))) (fun c17 => ?_)
  exact x_throwS C E hX ex_IS (hX.2.2.2.1 (188, "the queen is awake") (List.mem_of_getElem? (i := 9) rfl)) dX8_wakeQueen_20 dX8_wakeQueen_23 dX8_wakeQueen_24 dX8_wakeQueen_26 dX8_wakeQueen_29 (by decide) ⟨by decide, by decide⟩ (Nat.le_of_ble_eq_true rfl)
set_option maxHeartbeats 4000000 in
set_option maxRecDepth 100000 in
theorem c_X8_passDaysN {l : Launch} {Y0 : x_Y} (hO : x_Ok Y0) (hX : x_Ex l Y0) {M : x_M} {a p : Nat} {P : PL} {A : HS} {hx sk : Nat → Int32} {ht : Int32} {Q : HS} (hP : p_ok P) (hQ : q_is Q P) (hb : x_bk M a (hvT a p P A hx sk ht)) (hp : x_bk M p (plT p Q)) {c : Nat} {fs : List Value} (hc : x_bk M c [.inr (8, fs)]) (hc2 : fs[2]? = some (.ref p)) (hc4 : fs[4]? = some (.ref a)) (hk9 : h_ok P A) {x : Int32} (hv30 : (!decide (x < 1) && !decide (30 < x)) = false) : x_T l Y0 yX8_passDays cX8_passDays 4 (some .int) 7 1 6 [.ref c, .int x] M "java/lang/IllegalArgumentException" := by
  refine x_startT hO (by decide +kernel) (Nat.le_of_ble_eq_true rfl) (fun K C E => ?_)
  refine x_iload_n C dX8_passDays_0 rfl rfl ?_
  exact x_callST (As := [_]) C E dX8_passDays_1 kX8_190 nX8_190 (c_X8_requireDaysT hO hX hv30) rfl rfl (by decide) ⟨by decide, by decide⟩ (Nat.le_of_ble_eq_true rfl)
set_option maxHeartbeats 4000000 in
set_option maxRecDepth 100000 in
theorem c_X8_honeyAfterE {l : Launch} {Y0 : x_Y} (hO : x_Ok Y0) (hX : x_Ex l Y0) {M : x_M} {a p : Nat} {P : PL} {A : HS} {hx sk : Nat → Int32} {ht : Int32} {Q : HS} (hP : p_ok P) (hQ : q_is Q P) (hb : x_bk M a (hvT a p P A hx sk ht)) (hp : x_bk M p (plT p Q)) {c : Nat} {fs : List Value} (hc : x_bk M c [.inr (8, fs)]) (hc2 : fs[2]? = some (.ref p)) (hc4 : fs[4]? = some (.ref a)) (hk9 : h_ok P A) {d : Nat} (hd9 : d < p_nd P) {x : Int32} (hv30 : (!decide (x < 1) && !decide (30 < x)) = false) : x_T l Y0 yX8_honeyAfter cX8_honeyAfter 3 (some .int) 7 1 6 [.ref c, .int (nI d), .int x] M "java/lang/IllegalArgumentException" := by
  refine x_startT hO (by decide +kernel) (Nat.le_of_ble_eq_true rfl) (fun K C E => ?_)
  have hP0 := hP
  have hQ0 := hQ
  obtain ⟨h8, h6, h16, hnp, hwho, hvb, hts⟩ := hP
  obtain ⟨hq0, hq1, hq2, hq3, hq4, hq5, hq6⟩ := hQ
  refine x_aload_n C dX8_honeyAfter_0 rfl rfl ?_
  refine x_iload_n C dX8_honeyAfter_1 rfl rfl ?_
  refine x_callV1 C dX8_honeyAfter_2 kX8_111 (c_X8_requireDrone hO hP0 hQ0 hb hp hc hc2 hc4 hk9 hd9) (hc 0 _ rfl) rfl (by decide) ⟨Nat.zero_le _, Nat.zero_le _⟩ (Nat.le_of_ble_eq_true rfl) ?_
  rintro _ _ ⟨rfl, rfl⟩
  refine x_iload_n C dX8_honeyAfter_5 rfl rfl ?_
  exact x_callST (As := [_]) C E dX8_honeyAfter_6 kX8_190 nX8_190 (c_X8_requireDaysT hO hX hv30) rfl rfl (by decide) ⟨by decide, by decide⟩ (Nat.le_of_ble_eq_true rfl)
set_option maxHeartbeats 4000000 in
set_option maxRecDepth 100000 in
theorem c_X8_stateAfterE {l : Launch} {Y0 : x_Y} (hO : x_Ok Y0) (hX : x_Ex l Y0) {M : x_M} {a p : Nat} {P : PL} {A : HS} {hx sk : Nat → Int32} {ht : Int32} {Q : HS} (hP : p_ok P) (hQ : q_is Q P) (hb : x_bk M a (hvT a p P A hx sk ht)) (hp : x_bk M p (plT p Q)) {c : Nat} {fs : List Value} (hc : x_bk M c [.inr (8, fs)]) (hc2 : fs[2]? = some (.ref p)) (hc4 : fs[4]? = some (.ref a)) (hk9 : h_ok P A) {k : Nat} (hk : k < p_nk P) {x : Int32} (hv30 : (!decide (x < 1) && !decide (30 < x)) = false) : x_T l Y0 yX8_stateAfter cX8_stateAfter 3 (some .int) 7 1 6 [.ref c, .int (nI k), .int x] M "java/lang/IllegalArgumentException" := by
  refine x_startT hO (by decide +kernel) (Nat.le_of_ble_eq_true rfl) (fun K C E => ?_)
  have hP0 := hP
  have hQ0 := hQ
  obtain ⟨h8, h6, h16, hnp, hwho, hvb, hts⟩ := hP
  obtain ⟨hq0, hq1, hq2, hq3, hq4, hq5, hq6⟩ := hQ
  refine x_aload_n C dX8_stateAfter_0 rfl rfl ?_
  refine x_iload_n C dX8_stateAfter_1 rfl rfl ?_
  refine x_callV1 C dX8_stateAfter_2 kX8_127 (c_X8_requireDeal hO hP0 hQ0 hb hp hc hc2 hc4 hk9 hk) (hc 0 _ rfl) rfl (by decide) ⟨Nat.zero_le _, Nat.zero_le _⟩ (Nat.le_of_ble_eq_true rfl) ?_
  rintro _ _ ⟨rfl, rfl⟩
  refine x_iload_n C dX8_stateAfter_5 rfl rfl ?_
  exact x_callST (As := [_]) C E dX8_stateAfter_6 kX8_190 nX8_190 (c_X8_requireDaysT hO hX hv30) rfl rfl (by decide) ⟨by decide, by decide⟩ (Nat.le_of_ble_eq_true rfl)
set_option maxHeartbeats 4000000 in
set_option maxRecDepth 100000 in
theorem c_X8_feedN {l : Launch} {Y0 : x_Y} (hO : x_Ok Y0) (hX : x_Ex l Y0) {M : x_M} {b n : Nat} {f : Nat → Int32} (hb : x_bk M b (tpT b (nI n) f)) {c : Nat} {fs : List Value} (hc : x_bk M c [.inr (8, fs)]) (hc0 : fs[0]? = some (.ref b)) {w1 w2 w3 w4 w5 : Int32} (h80 : ¬ nI n ≤ (1980 : Int32)) : x_T l Y0 yX8_feed cX8_feed 6 (some .int) 6 1 6 [.ref c, .int w1, .int w2, .int w3, .int w4, .int w5] M "java/lang/IllegalStateException" := by
  refine x_startT hO (by decide +kernel) (Nat.le_of_ble_eq_true rfl) (fun K C E => ?_)
  refine x_aload_n C dX8_feed_0 rfl rfl ?_
  refine x_getfield C dX8_feed_1 fX8_12 (hc 0 _ rfl) hc0 ?_
  refine x_getfield C dX8_feed_4 fX8_51 (hb 0 _ rfl) rfl ?_
  refine x_sipush (v := 1980) C dX8_feed_7 (by decide) ?_
  refine x_icmp_le (tgt := 23) C dX8_feed_10 (by decide) (fun c10 => absurd c10 h80) (fun c10 => ?_)
  exact x_throwS C E hX ex_IS (hX.2.2.2.1 (56, "the tape would be longer than 2000 bytes") (List.mem_of_getElem? (i := 3) rfl)) dX8_feed_13 dX8_feed_16 dX8_feed_17 dX8_feed_19 dX8_feed_22 (by decide) ⟨by decide, by decide⟩ (Nat.le_of_ble_eq_true rfl)
set_option maxHeartbeats 4000000 in
set_option maxRecDepth 100000 in
theorem c_X8_trimN {l : Launch} {Y0 : x_Y} (hO : x_Ok Y0) (hX : x_Ex l Y0) {M : x_M} {b n : Nat} {f : Nat → Int32} (hb : x_bk M b (tpT b (nI n) f)) {c : Nat} {fs : List Value} (hc : x_bk M c [.inr (8, fs)]) (hc0 : fs[0]? = some (.ref b)) {x : Int32} (hv30 : (!decide (x < 0) && !decide (nI n < x)) = false) : x_T l Y0 yX8_trim cX8_trim 2 (some .int) 6 1 6 [.ref c, .int x] M "java/lang/IllegalArgumentException" := by
  refine x_startT hO (by decide +kernel) (Nat.le_of_ble_eq_true rfl) (fun K C E => ?_)
  refine x_iload_n C dX8_trim_0 rfl rfl ?_
  refine x_if_lt (tgt := 15) C dX8_trim_1 (by decide) (fun c1 => ?_) (fun c1 => ?_)
  · exact x_throwS C E hX ex_IA (hX.2.2.2.1 (67, "the tape does not have so many bytes") (List.mem_of_getElem? (i := 4) rfl)) dX8_trim_15 dX8_trim_18 dX8_trim_19 dX8_trim_21 dX8_trim_24 (by decide) ⟨by decide, by decide⟩ (Nat.le_of_ble_eq_true rfl)
  · refine x_iload_n C dX8_trim_4 rfl rfl ?_
    refine x_aload_n C dX8_trim_5 rfl rfl ?_
    refine x_getfield C dX8_trim_6 fX8_12 (hc 0 _ rfl) hc0 ?_
    refine x_getfield C dX8_trim_9 fX8_51 (hb 0 _ rfl) rfl ?_
    refine x_icmp_le (tgt := 25) C dX8_trim_12 (by decide) (fun c12 => ?_) (fun c12 => ?_)
    · exact absurd hv30 (by rw [decide_eq_false c1, decide_eq_false (Int32.not_lt.mpr c12)]; decide)
    · exact x_throwS C E hX ex_IA (hX.2.2.2.1 (67, "the tape does not have so many bytes") (List.mem_of_getElem? (i := 4) rfl)) dX8_trim_15 dX8_trim_18 dX8_trim_19 dX8_trim_21 dX8_trim_24 (by decide) ⟨by decide, by decide⟩ (Nat.le_of_ble_eq_true rfl)
set_option maxHeartbeats 4000000 in
set_option maxRecDepth 100000 in
theorem c_X8_errorAt {l : Launch} {Y0 : x_Y} (hO : x_Ok Y0) {M : x_M} {c : Nat} {fs : List Value} (hc : x_bk M c [.inr (8, fs)]) {ep : Int32} (hc6 : fs[6]? = some (.int ep)) : x_C l Y0 yX8_errorAt cX8_errorAt 1 (some .int) 1 0 0 [.ref c] M (fun u M1 => u = some (.int ep) ∧ M1 = M) := by
  refine x_start hO (by decide +kernel) (Nat.le_of_ble_eq_true rfl) (fun K C E => ?_)
  refine x_aload_n C dX8_errorAt_0 rfl rfl ?_
  refine x_getfield C dX8_errorAt_1 fX8_47 (hc 0 _ rfl) hc6 ?_
  refine x_iret C E dX8_errorAt_4 ?_
  exact ⟨rfl, rfl⟩
