theorem cL_l24 : Cond.classLink RL 24 "java/lang/IndexOutOfBoundsException" ∈ lw_tbl := (x_t5 _ (List.mem_of_getElem? (i := 53) (by decide +kernel)))
theorem cL_c24 : Cond.castable "java/lang/IndexOutOfBoundsException" "java/lang/IndexOutOfBoundsException" ∈ lw_tbl := (x_t4 _ (List.mem_of_getElem? (i := 114) (by decide +kernel)))
theorem cL_l13 : Cond.classLink RL 13 "java/lang/IllegalStateException" ∈ lw_tbl := (x_t5 _ (List.mem_of_getElem? (i := 0) (by decide +kernel)))
theorem cL_c13 : Cond.castable "java/lang/IllegalStateException" "java/lang/IllegalStateException" ∈ lw_tbl := (x_t5 _ (List.mem_of_getElem? (i := 7) (by decide +kernel)))
theorem cL_l19 : Cond.classLink RL 19 "java/lang/IllegalArgumentException" ∈ lw_tbl := (x_t5 _ (List.mem_of_getElem? (i := 29) (by decide +kernel)))
theorem cL_c19 : Cond.castable "java/lang/IllegalArgumentException" "java/lang/IllegalArgumentException" ∈ lw_tbl := (x_t5 _ (List.mem_of_getElem? (i := 36) (by decide +kernel)))
theorem h_in0 : vp_in (0 : Int32) 1 := vp_in_nI (n := 0) (N := 1) (by decide) (by decide)
theorem h_out0 (g : Nat → Int64) (x : Int64) : vp_updL g (0 : Int32).toNatClampNeg x 0 = x := by
  rw [show (0 : Int32).toNatClampNeg = 0 by decide]
  simp [vp_updL]
theorem nL_7 : Cond.methodLink RL 7 yX8_feed ∈ lw_tbl := (x_t5 _ (List.mem_of_getElem? (i := 1) (by decide +kernel)))
theorem lh_feed {l : Launch} {Y0 : x_Y} (hO : x_Ok Y0) {M : x_M} {c w : Nat} {fs : List Value} (hc : x_bk M c [.inr (8, fs)]) {x1 x2 x3 x4 x5 : Int32} {r : Int32} {Qm : x_M → Prop} {dc : Nat} (hM : x_C l Y0 yX8_feed cX8_feed 6 (some .int) dc 0 0 [.ref c, .int x1, .int x2, .int x3, .int x4, .int x5] M (fun u M1 => u = some (.int r) ∧ Qm M1)) (hdc : dc + 1 ≤ 9) (hw : ∀ M1, Qm M1 → ∃ g : Nat → Int64, x_bk M1 w [.inl (1, 1, .inr (.inl g))]) : x_H l Y0 yL_feed cL_feed 8 (some .int) [(0, 16, 19, 13)] 9 1 6 [.ref c, .int x1, .int x2, .int x3, .int x4, .int x5, .ref w] M (fun u M1 => u = some (.int 0) ∧ ∃ (M2 : x_M) (g : Nat → Int64), Qm M2 ∧ g 0 = r.toInt64 ∧ M1 = x_ov M2 w [.inl (1, 1, .inr (.inl g))]) := by
  refine x_startH hO (by decide +kernel) (Nat.le_of_ble_eq_true rfl) (fun K C E hT9 => ?_)
  refine x_aload C dL_feed_0 rfl ?_
  refine x_iconst (v := 0) C dL_feed_2 (by decide) ?_
  refine x_aload_n C dL_feed_3 rfl rfl ?_
  refine x_iload_n C dL_feed_4 rfl rfl ?_
  refine x_iload_n C dL_feed_5 rfl rfl ?_
  refine x_iload_n C dL_feed_6 rfl rfl ?_
  refine x_iload C dL_feed_7 rfl ?_
  refine x_iload C dL_feed_9 rfl ?_
  refine x_callV5 C dL_feed_11 kL_7 hM (hc 0 _ rfl) rfl hdc ⟨Nat.zero_le _, Nat.zero_le _⟩ (Nat.le_of_ble_eq_true rfl) ?_
  rintro _ M1 ⟨rfl, hq⟩
  obtain ⟨g, hg⟩ := hw M1 hq
  refine x_i2l C dL_feed_14 ?_
  refine x_lastore C dL_feed_15 (hg 0 _ rfl) h_in0 ?_
  refine x_goto (tgt := 23) C dL_feed_16 (by decide) ?_
  refine x_iconst (v := 0) C dL_feed_23 (by decide) ?_
  refine x_widen (k := 1) (n := 6) (by decide) (by decide) ?_
  refine x_iret C E dL_feed_24 ?_
  exact ⟨rfl, M1, _, hq, (h_out0 _ _).trans rfl, x_st_ov1⟩
theorem lh_feedT {l : Launch} {Y0 : x_Y} (hO : x_Ok Y0) {M : x_M} {c w : Nat} {fs : List Value} (hc : x_bk M c [.inr (8, fs)]) {x1 x2 x3 x4 x5 : Int32} {dc : Nat} (hM : x_T l Y0 yX8_feed cX8_feed 6 (some .int) dc 1 6 [.ref c, .int x1, .int x2, .int x3, .int x4, .int x5] M "java/lang/IllegalStateException") (hdc : dc + 1 ≤ 9) : x_H l Y0 yL_feed cL_feed 8 (some .int) [(0, 16, 19, 13)] 9 1 6 [.ref c, .int x1, .int x2, .int x3, .int x4, .int x5, .ref w] M (fun u M1 => u = some (.int 1) ∧ ∃ k : Nat, M1 = x_nx M k) := by
  refine x_startH hO (by decide +kernel) (Nat.le_of_ble_eq_true rfl) (fun K C E hT9 => ?_)
  refine x_aload C dL_feed_0 rfl ?_
  refine x_iconst (v := 0) C dL_feed_2 (by decide) ?_
  refine x_aload_n C dL_feed_3 rfl rfl ?_
  refine x_iload_n C dL_feed_4 rfl rfl ?_
  refine x_iload_n C dL_feed_5 rfl rfl ?_
  refine x_iload_n C dL_feed_6 rfl rfl ?_
  refine x_iload C dL_feed_7 rfl ?_
  refine x_iload C dL_feed_9 rfl ?_
  refine x_callVC (As := [_, _, _, _, _]) C hT9 dL_feed_11 kL_7 nL_7 hM (hc 0 _ rfl) rfl rfl rfl hdc ⟨by decide, by decide⟩ (Nat.le_of_ble_eq_true rfl) (pre := []) (suf := []) (x := ⟨0, 16, 19, 13⟩) (name := "java/lang/IllegalStateException") rfl (fun z h => nomatch h) (by decide) (by decide) cL_l13 cL_c13 (fun q k => ?_)
  refine x_astore C dL_feed_19 rfl (by decide) ?_
  refine x_iconst (v := 1) C dL_feed_21 (by decide) ?_
  refine x_iret C E dL_feed_22 ?_
  exact ⟨rfl, k, rfl⟩
theorem hL_97 : x_LH RL 97 yL_feed cL_feed 8 7 (some .int) [(0, 16, 19, 13)] := ⟨(x_t4 _ (List.mem_of_getElem? (i := 237) (by decide +kernel))), (x_t4 _ (List.mem_of_getElem? (i := 239) (by decide +kernel))), (x_t1 _ (List.mem_of_getElem? (i := 0) (by decide +kernel))), ⟨by decide +kernel, by decide +kernel⟩, by decide +kernel, by decide, (x_t4 _ (List.mem_of_getElem? (i := 238) (by decide +kernel)))⟩
theorem nL_15 : Cond.methodLink RL 15 yX8_trim ∈ lw_tbl := (x_t5 _ (List.mem_of_getElem? (i := 30) (by decide +kernel)))
theorem lh_trim {l : Launch} {Y0 : x_Y} (hO : x_Ok Y0) {M : x_M} {c w : Nat} {fs : List Value} (hc : x_bk M c [.inr (8, fs)]) {x1 : Int32} {r : Int32} {Qm : x_M → Prop} {dc : Nat} (hM : x_C l Y0 yX8_trim cX8_trim 2 (some .int) dc 0 0 [.ref c, .int x1] M (fun u M1 => u = some (.int r) ∧ Qm M1)) (hdc : dc + 1 ≤ 9) (hw : ∀ M1, Qm M1 → ∃ g : Nat → Int64, x_bk M1 w [.inl (1, 1, .inr (.inl g))]) : x_H l Y0 yL_trim cL_trim 4 (some .int) [(0, 9, 12, 19)] 9 1 6 [.ref c, .int x1, .ref w] M (fun u M1 => u = some (.int 0) ∧ ∃ (M2 : x_M) (g : Nat → Int64), Qm M2 ∧ g 0 = r.toInt64 ∧ M1 = x_ov M2 w [.inl (1, 1, .inr (.inl g))]) := by
  refine x_startH hO (by decide +kernel) (Nat.le_of_ble_eq_true rfl) (fun K C E hT9 => ?_)
  refine x_aload_n C dL_trim_0 rfl rfl ?_
  refine x_iconst (v := 0) C dL_trim_1 (by decide) ?_
  refine x_aload_n C dL_trim_2 rfl rfl ?_
  refine x_iload_n C dL_trim_3 rfl rfl ?_
  refine x_callV1 C dL_trim_4 kL_15 hM (hc 0 _ rfl) rfl hdc ⟨Nat.zero_le _, Nat.zero_le _⟩ (Nat.le_of_ble_eq_true rfl) ?_
  rintro _ M1 ⟨rfl, hq⟩
  obtain ⟨g, hg⟩ := hw M1 hq
  refine x_i2l C dL_trim_7 ?_
  refine x_lastore C dL_trim_8 (hg 0 _ rfl) h_in0 ?_
  refine x_goto (tgt := 15) C dL_trim_9 (by decide) ?_
  refine x_iconst (v := 0) C dL_trim_15 (by decide) ?_
  refine x_widen (k := 1) (n := 6) (by decide) (by decide) ?_
  refine x_iret C E dL_trim_16 ?_
  exact ⟨rfl, M1, _, hq, (h_out0 _ _).trans rfl, x_st_ov1⟩
theorem lh_trimT {l : Launch} {Y0 : x_Y} (hO : x_Ok Y0) {M : x_M} {c w : Nat} {fs : List Value} (hc : x_bk M c [.inr (8, fs)]) {x1 : Int32} {dc : Nat} (hM : x_T l Y0 yX8_trim cX8_trim 2 (some .int) dc 1 6 [.ref c, .int x1] M "java/lang/IllegalArgumentException") (hdc : dc + 1 ≤ 9) : x_H l Y0 yL_trim cL_trim 4 (some .int) [(0, 9, 12, 19)] 9 1 6 [.ref c, .int x1, .ref w] M (fun u M1 => u = some (.int 1) ∧ ∃ k : Nat, M1 = x_nx M k) := by
  refine x_startH hO (by decide +kernel) (Nat.le_of_ble_eq_true rfl) (fun K C E hT9 => ?_)
  refine x_aload_n C dL_trim_0 rfl rfl ?_
  refine x_iconst (v := 0) C dL_trim_1 (by decide) ?_
  refine x_aload_n C dL_trim_2 rfl rfl ?_
  refine x_iload_n C dL_trim_3 rfl rfl ?_
  refine x_callVC (As := [_]) C hT9 dL_trim_4 kL_15 nL_15 hM (hc 0 _ rfl) rfl rfl rfl hdc ⟨by decide, by decide⟩ (Nat.le_of_ble_eq_true rfl) (pre := []) (suf := []) (x := ⟨0, 9, 12, 19⟩) (name := "java/lang/IllegalArgumentException") rfl (fun z h => nomatch h) (by decide) (by decide) cL_l19 cL_c19 (fun q k => ?_)
  refine x_astore_n C dL_trim_12 rfl rfl (by decide) ?_
  refine x_iconst (v := 1) C dL_trim_13 (by decide) ?_
  refine x_iret C E dL_trim_14 ?_
  exact ⟨rfl, k, rfl⟩
theorem hL_106 : x_LH RL 106 yL_trim cL_trim 4 3 (some .int) [(0, 9, 12, 19)] := ⟨(x_t5 _ (List.mem_of_getElem? (i := 26) (by decide +kernel))), (x_t5 _ (List.mem_of_getElem? (i := 28) (by decide +kernel))), (x_t1 _ (List.mem_of_getElem? (i := 0) (by decide +kernel))), ⟨by decide +kernel, by decide +kernel⟩, by decide +kernel, by decide, (x_t5 _ (List.mem_of_getElem? (i := 27) (by decide +kernel)))⟩
theorem nL_21 : Cond.methodLink RL 21 yX8_honeyOf ∈ lw_tbl := (x_t5 _ (List.mem_of_getElem? (i := 54) (by decide +kernel)))
theorem lh_honeyOf {l : Launch} {Y0 : x_Y} (hO : x_Ok Y0) {M : x_M} {c w : Nat} {fs : List Value} (hc : x_bk M c [.inr (8, fs)]) {x1 : Int32} {r : Int32} {Qm : x_M → Prop} {dc : Nat} (hM : x_C l Y0 yX8_honeyOf cX8_honeyOf 2 (some .int) dc 0 0 [.ref c, .int x1] M (fun u M1 => u = some (.int r) ∧ Qm M1)) (hdc : dc + 1 ≤ 9) (hw : ∀ M1, Qm M1 → ∃ g : Nat → Int64, x_bk M1 w [.inl (1, 1, .inr (.inl g))]) : x_H l Y0 yL_honeyOf cL_honeyOf 4 (some .int) [(0, 9, 12, 24)] 9 1 6 [.ref c, .int x1, .ref w] M (fun u M1 => u = some (.int 0) ∧ ∃ (M2 : x_M) (g : Nat → Int64), Qm M2 ∧ g 0 = r.toInt64 ∧ M1 = x_ov M2 w [.inl (1, 1, .inr (.inl g))]) := by
  refine x_startH hO (by decide +kernel) (Nat.le_of_ble_eq_true rfl) (fun K C E hT9 => ?_)
  refine x_aload_n C dL_honeyOf_0 rfl rfl ?_
  refine x_iconst (v := 0) C dL_honeyOf_1 (by decide) ?_
  refine x_aload_n C dL_honeyOf_2 rfl rfl ?_
  refine x_iload_n C dL_honeyOf_3 rfl rfl ?_
  refine x_callV1 C dL_honeyOf_4 kL_21 hM (hc 0 _ rfl) rfl hdc ⟨Nat.zero_le _, Nat.zero_le _⟩ (Nat.le_of_ble_eq_true rfl) ?_
  rintro _ M1 ⟨rfl, hq⟩
  obtain ⟨g, hg⟩ := hw M1 hq
  refine x_i2l C dL_honeyOf_7 ?_
  refine x_lastore C dL_honeyOf_8 (hg 0 _ rfl) h_in0 ?_
  refine x_goto (tgt := 15) C dL_honeyOf_9 (by decide) ?_
  refine x_iconst (v := 0) C dL_honeyOf_15 (by decide) ?_
  refine x_widen (k := 1) (n := 6) (by decide) (by decide) ?_
  refine x_iret C E dL_honeyOf_16 ?_
  exact ⟨rfl, M1, _, hq, (h_out0 _ _).trans rfl, x_st_ov1⟩
theorem lh_honeyOfT {l : Launch} {Y0 : x_Y} (hO : x_Ok Y0) {M : x_M} {c w : Nat} {fs : List Value} (hc : x_bk M c [.inr (8, fs)]) {x1 : Int32} {dc : Nat} (hM : x_T l Y0 yX8_honeyOf cX8_honeyOf 2 (some .int) dc 1 6 [.ref c, .int x1] M "java/lang/IndexOutOfBoundsException") (hdc : dc + 1 ≤ 9) : x_H l Y0 yL_honeyOf cL_honeyOf 4 (some .int) [(0, 9, 12, 24)] 9 1 6 [.ref c, .int x1, .ref w] M (fun u M1 => u = some (.int 1) ∧ ∃ k : Nat, M1 = x_nx M k) := by
  refine x_startH hO (by decide +kernel) (Nat.le_of_ble_eq_true rfl) (fun K C E hT9 => ?_)
  refine x_aload_n C dL_honeyOf_0 rfl rfl ?_
  refine x_iconst (v := 0) C dL_honeyOf_1 (by decide) ?_
  refine x_aload_n C dL_honeyOf_2 rfl rfl ?_
  refine x_iload_n C dL_honeyOf_3 rfl rfl ?_
  refine x_callVC (As := [_]) C hT9 dL_honeyOf_4 kL_21 nL_21 hM (hc 0 _ rfl) rfl rfl rfl hdc ⟨by decide, by decide⟩ (Nat.le_of_ble_eq_true rfl) (pre := []) (suf := []) (x := ⟨0, 9, 12, 24⟩) (name := "java/lang/IndexOutOfBoundsException") rfl (fun z h => nomatch h) (by decide) (by decide) cL_l24 cL_c24 (fun q k => ?_)
  refine x_astore_n C dL_honeyOf_12 rfl rfl (by decide) ?_
  refine x_iconst (v := 1) C dL_honeyOf_13 (by decide) ?_
  refine x_iret C E dL_honeyOf_14 ?_
  exact ⟨rfl, k, rfl⟩
theorem hL_147 : x_LH RL 147 yL_honeyOf cL_honeyOf 4 3 (some .int) [(0, 9, 12, 24)] := ⟨(x_t5 _ (List.mem_of_getElem? (i := 50) (by decide +kernel))), (x_t5 _ (List.mem_of_getElem? (i := 52) (by decide +kernel))), (x_t1 _ (List.mem_of_getElem? (i := 0) (by decide +kernel))), ⟨by decide +kernel, by decide +kernel⟩, by decide +kernel, by decide, (x_t5 _ (List.mem_of_getElem? (i := 51) (by decide +kernel)))⟩
theorem nL_26 : Cond.methodLink RL 26 yX8_isAwake ∈ lw_tbl := (x_t5 _ (List.mem_of_getElem? (i := 58) (by decide +kernel)))
theorem lh_isAwake {l : Launch} {Y0 : x_Y} (hO : x_Ok Y0) {M : x_M} {c w : Nat} {fs : List Value} (hc : x_bk M c [.inr (8, fs)]) {x1 : Int32} {r : Int32} {Qm : x_M → Prop} {dc : Nat} (hM : x_C l Y0 yX8_isAwake cX8_isAwake 2 (some .boolean) dc 0 0 [.ref c, .int x1] M (fun u M1 => u = some (.int r) ∧ Qm M1)) (hdc : dc + 1 ≤ 9) (hw : ∀ M1, Qm M1 → ∃ g : Nat → Int64, x_bk M1 w [.inl (1, 1, .inr (.inl g))]) : x_H l Y0 yL_isAwake cL_isAwake 4 (some .int) [(0, 16, 19, 24)] 9 1 6 [.ref c, .int x1, .ref w] M (fun u M1 => u = some (.int 0) ∧ ∃ (M2 : x_M) (g : Nat → Int64), Qm M2 ∧ g 0 = (if r = 0 then (0 : Int64) else 1) ∧ M1 = x_ov M2 w [.inl (1, 1, .inr (.inl g))]) := by
  refine x_startH hO (by decide +kernel) (Nat.le_of_ble_eq_true rfl) (fun K C E hT9 => ?_)
  refine x_aload_n C dL_isAwake_0 rfl rfl ?_
  refine x_iconst (v := 0) C dL_isAwake_1 (by decide) ?_
  refine x_aload_n C dL_isAwake_2 rfl rfl ?_
  refine x_iload_n C dL_isAwake_3 rfl rfl ?_
  refine x_callV1 C dL_isAwake_4 kL_26 hM (hc 0 _ rfl) rfl hdc ⟨Nat.zero_le _, Nat.zero_le _⟩ (Nat.le_of_ble_eq_true rfl) ?_
  rintro _ M1 ⟨rfl, hq⟩
  obtain ⟨g, hg⟩ := hw M1 hq
  refine x_if_eq (tgt := 14) C dL_isAwake_7 (by decide) (fun c7 => ?_) (fun c7 => ?_)
  · refine x_lconst (v := 0) C dL_isAwake_14 (by decide) ?_
    refine x_lastore C dL_isAwake_15 (hg 0 _ rfl) h_in0 ?_
    refine x_goto (tgt := 22) C dL_isAwake_16 (by decide) ?_
    refine x_iconst (v := 0) C dL_isAwake_22 (by decide) ?_
    refine x_widen (k := 1) (n := 6) (by decide) (by decide) ?_
    refine x_iret C E dL_isAwake_23 ?_
    exact ⟨rfl, M1, _, hq, (h_out0 _ _).trans (if_pos c7).symm, x_st_ov1⟩
  · refine x_lconst (v := 1) C dL_isAwake_10 (by decide) ?_
    refine x_goto (tgt := 15) C dL_isAwake_11 (by decide) ?_
    refine x_lastore C dL_isAwake_15 (hg 0 _ rfl) h_in0 ?_
    refine x_goto (tgt := 22) C dL_isAwake_16 (by decide) ?_
    refine x_iconst (v := 0) C dL_isAwake_22 (by decide) ?_
    refine x_widen (k := 1) (n := 6) (by decide) (by decide) ?_
    refine x_iret C E dL_isAwake_23 ?_
    exact ⟨rfl, M1, _, hq, (h_out0 _ _).trans (if_neg c7).symm, x_st_ov1⟩
theorem lh_isAwakeT {l : Launch} {Y0 : x_Y} (hO : x_Ok Y0) {M : x_M} {c w : Nat} {fs : List Value} (hc : x_bk M c [.inr (8, fs)]) {x1 : Int32} {dc : Nat} (hM : x_T l Y0 yX8_isAwake cX8_isAwake 2 (some .boolean) dc 1 6 [.ref c, .int x1] M "java/lang/IndexOutOfBoundsException") (hdc : dc + 1 ≤ 9) : x_H l Y0 yL_isAwake cL_isAwake 4 (some .int) [(0, 16, 19, 24)] 9 1 6 [.ref c, .int x1, .ref w] M (fun u M1 => u = some (.int 1) ∧ ∃ k : Nat, M1 = x_nx M k) := by
  refine x_startH hO (by decide +kernel) (Nat.le_of_ble_eq_true rfl) (fun K C E hT9 => ?_)
  refine x_aload_n C dL_isAwake_0 rfl rfl ?_
  refine x_iconst (v := 0) C dL_isAwake_1 (by decide) ?_
  refine x_aload_n C dL_isAwake_2 rfl rfl ?_
  refine x_iload_n C dL_isAwake_3 rfl rfl ?_
  refine x_callVC (As := [_]) C hT9 dL_isAwake_4 kL_26 nL_26 hM (hc 0 _ rfl) rfl rfl rfl hdc ⟨by decide, by decide⟩ (Nat.le_of_ble_eq_true rfl) (pre := []) (suf := []) (x := ⟨0, 16, 19, 24⟩) (name := "java/lang/IndexOutOfBoundsException") rfl (fun z h => nomatch h) (by decide) (by decide) cL_l24 cL_c24 (fun q k => ?_)
  refine x_astore_n C dL_isAwake_19 rfl rfl (by decide) ?_
  refine x_iconst (v := 1) C dL_isAwake_20 (by decide) ?_
  refine x_iret C E dL_isAwake_21 ?_
  exact ⟨rfl, k, rfl⟩
theorem hL_150 : x_LH RL 150 yL_isAwake cL_isAwake 4 3 (some .int) [(0, 16, 19, 24)] := ⟨(x_t5 _ (List.mem_of_getElem? (i := 55) (by decide +kernel))), (x_t5 _ (List.mem_of_getElem? (i := 57) (by decide +kernel))), (x_t1 _ (List.mem_of_getElem? (i := 0) (by decide +kernel))), ⟨by decide +kernel, by decide +kernel⟩, by decide +kernel, by decide, (x_t5 _ (List.mem_of_getElem? (i := 56) (by decide +kernel)))⟩
theorem nL_30 : Cond.methodLink RL 30 yX8_blockedBy ∈ lw_tbl := (x_t5 _ (List.mem_of_getElem? (i := 62) (by decide +kernel)))
theorem lh_blockedBy {l : Launch} {Y0 : x_Y} (hO : x_Ok Y0) {M : x_M} {c w : Nat} {fs : List Value} (hc : x_bk M c [.inr (8, fs)]) {x1 : Int32} {r : Int32} {Qm : x_M → Prop} {dc : Nat} (hM : x_C l Y0 yX8_blockedBy cX8_blockedBy 2 (some .int) dc 0 0 [.ref c, .int x1] M (fun u M1 => u = some (.int r) ∧ Qm M1)) (hdc : dc + 1 ≤ 9) (hw : ∀ M1, Qm M1 → ∃ g : Nat → Int64, x_bk M1 w [.inl (1, 1, .inr (.inl g))]) : x_H l Y0 yL_blockedBy cL_blockedBy 4 (some .int) [(0, 9, 12, 24)] 9 1 6 [.ref c, .int x1, .ref w] M (fun u M1 => u = some (.int 0) ∧ ∃ (M2 : x_M) (g : Nat → Int64), Qm M2 ∧ g 0 = r.toInt64 ∧ M1 = x_ov M2 w [.inl (1, 1, .inr (.inl g))]) := by
  refine x_startH hO (by decide +kernel) (Nat.le_of_ble_eq_true rfl) (fun K C E hT9 => ?_)
  refine x_aload_n C dL_blockedBy_0 rfl rfl ?_
  refine x_iconst (v := 0) C dL_blockedBy_1 (by decide) ?_
  refine x_aload_n C dL_blockedBy_2 rfl rfl ?_
  refine x_iload_n C dL_blockedBy_3 rfl rfl ?_
  refine x_callV1 C dL_blockedBy_4 kL_30 hM (hc 0 _ rfl) rfl hdc ⟨Nat.zero_le _, Nat.zero_le _⟩ (Nat.le_of_ble_eq_true rfl) ?_
  rintro _ M1 ⟨rfl, hq⟩
  obtain ⟨g, hg⟩ := hw M1 hq
  refine x_i2l C dL_blockedBy_7 ?_
  refine x_lastore C dL_blockedBy_8 (hg 0 _ rfl) h_in0 ?_
  refine x_goto (tgt := 15) C dL_blockedBy_9 (by decide) ?_
  refine x_iconst (v := 0) C dL_blockedBy_15 (by decide) ?_
  refine x_widen (k := 1) (n := 6) (by decide) (by decide) ?_
  refine x_iret C E dL_blockedBy_16 ?_
  exact ⟨rfl, M1, _, hq, (h_out0 _ _).trans rfl, x_st_ov1⟩
theorem lh_blockedByT {l : Launch} {Y0 : x_Y} (hO : x_Ok Y0) {M : x_M} {c w : Nat} {fs : List Value} (hc : x_bk M c [.inr (8, fs)]) {x1 : Int32} {dc : Nat} (hM : x_T l Y0 yX8_blockedBy cX8_blockedBy 2 (some .int) dc 1 6 [.ref c, .int x1] M "java/lang/IndexOutOfBoundsException") (hdc : dc + 1 ≤ 9) : x_H l Y0 yL_blockedBy cL_blockedBy 4 (some .int) [(0, 9, 12, 24)] 9 1 6 [.ref c, .int x1, .ref w] M (fun u M1 => u = some (.int 1) ∧ ∃ k : Nat, M1 = x_nx M k) := by
  refine x_startH hO (by decide +kernel) (Nat.le_of_ble_eq_true rfl) (fun K C E hT9 => ?_)
  refine x_aload_n C dL_blockedBy_0 rfl rfl ?_
  refine x_iconst (v := 0) C dL_blockedBy_1 (by decide) ?_
  refine x_aload_n C dL_blockedBy_2 rfl rfl ?_
  refine x_iload_n C dL_blockedBy_3 rfl rfl ?_
  refine x_callVC (As := [_]) C hT9 dL_blockedBy_4 kL_30 nL_30 hM (hc 0 _ rfl) rfl rfl rfl hdc ⟨by decide, by decide⟩ (Nat.le_of_ble_eq_true rfl) (pre := []) (suf := []) (x := ⟨0, 9, 12, 24⟩) (name := "java/lang/IndexOutOfBoundsException") rfl (fun z h => nomatch h) (by decide) (by decide) cL_l24 cL_c24 (fun q k => ?_)
  refine x_astore_n C dL_blockedBy_12 rfl rfl (by decide) ?_
  refine x_iconst (v := 1) C dL_blockedBy_13 (by decide) ?_
  refine x_iret C E dL_blockedBy_14 ?_
  exact ⟨rfl, k, rfl⟩
theorem hL_153 : x_LH RL 153 yL_blockedBy cL_blockedBy 4 3 (some .int) [(0, 9, 12, 24)] := ⟨(x_t5 _ (List.mem_of_getElem? (i := 59) (by decide +kernel))), (x_t5 _ (List.mem_of_getElem? (i := 61) (by decide +kernel))), (x_t1 _ (List.mem_of_getElem? (i := 0) (by decide +kernel))), ⟨by decide +kernel, by decide +kernel⟩, by decide +kernel, by decide, (x_t5 _ (List.mem_of_getElem? (i := 60) (by decide +kernel)))⟩
theorem nL_33 : Cond.methodLink RL 33 yX8_logOf ∈ lw_tbl := (x_t5 _ (List.mem_of_getElem? (i := 66) (by decide +kernel)))
theorem lh_logOf {l : Launch} {Y0 : x_Y} (hO : x_Ok Y0) {M : x_M} {c w : Nat} {fs : List Value} (hc : x_bk M c [.inr (8, fs)]) {x1 : Int32} {r : Int32} {Qm : x_M → Prop} {dc : Nat} (hM : x_C l Y0 yX8_logOf cX8_logOf 2 (some .int) dc 0 0 [.ref c, .int x1] M (fun u M1 => u = some (.int r) ∧ Qm M1)) (hdc : dc + 1 ≤ 9) (hw : ∀ M1, Qm M1 → ∃ g : Nat → Int64, x_bk M1 w [.inl (1, 1, .inr (.inl g))]) : x_H l Y0 yL_logOf cL_logOf 4 (some .int) [(0, 9, 12, 24)] 9 1 6 [.ref c, .int x1, .ref w] M (fun u M1 => u = some (.int 0) ∧ ∃ (M2 : x_M) (g : Nat → Int64), Qm M2 ∧ g 0 = r.toInt64 ∧ M1 = x_ov M2 w [.inl (1, 1, .inr (.inl g))]) := by
  refine x_startH hO (by decide +kernel) (Nat.le_of_ble_eq_true rfl) (fun K C E hT9 => ?_)
  refine x_aload_n C dL_logOf_0 rfl rfl ?_
  refine x_iconst (v := 0) C dL_logOf_1 (by decide) ?_
  refine x_aload_n C dL_logOf_2 rfl rfl ?_
  refine x_iload_n C dL_logOf_3 rfl rfl ?_
  refine x_callV1 C dL_logOf_4 kL_33 hM (hc 0 _ rfl) rfl hdc ⟨Nat.zero_le _, Nat.zero_le _⟩ (Nat.le_of_ble_eq_true rfl) ?_
  rintro _ M1 ⟨rfl, hq⟩
  obtain ⟨g, hg⟩ := hw M1 hq
  refine x_i2l C dL_logOf_7 ?_
  refine x_lastore C dL_logOf_8 (hg 0 _ rfl) h_in0 ?_
  refine x_goto (tgt := 15) C dL_logOf_9 (by decide) ?_
  refine x_iconst (v := 0) C dL_logOf_15 (by decide) ?_
  refine x_widen (k := 1) (n := 6) (by decide) (by decide) ?_
  refine x_iret C E dL_logOf_16 ?_
  exact ⟨rfl, M1, _, hq, (h_out0 _ _).trans rfl, x_st_ov1⟩
theorem lh_logOfT {l : Launch} {Y0 : x_Y} (hO : x_Ok Y0) {M : x_M} {c w : Nat} {fs : List Value} (hc : x_bk M c [.inr (8, fs)]) {x1 : Int32} {dc : Nat} (hM : x_T l Y0 yX8_logOf cX8_logOf 2 (some .int) dc 1 6 [.ref c, .int x1] M "java/lang/IndexOutOfBoundsException") (hdc : dc + 1 ≤ 9) : x_H l Y0 yL_logOf cL_logOf 4 (some .int) [(0, 9, 12, 24)] 9 1 6 [.ref c, .int x1, .ref w] M (fun u M1 => u = some (.int 1) ∧ ∃ k : Nat, M1 = x_nx M k) := by
  refine x_startH hO (by decide +kernel) (Nat.le_of_ble_eq_true rfl) (fun K C E hT9 => ?_)
  refine x_aload_n C dL_logOf_0 rfl rfl ?_
  refine x_iconst (v := 0) C dL_logOf_1 (by decide) ?_
  refine x_aload_n C dL_logOf_2 rfl rfl ?_
  refine x_iload_n C dL_logOf_3 rfl rfl ?_
  refine x_callVC (As := [_]) C hT9 dL_logOf_4 kL_33 nL_33 hM (hc 0 _ rfl) rfl rfl rfl hdc ⟨by decide, by decide⟩ (Nat.le_of_ble_eq_true rfl) (pre := []) (suf := []) (x := ⟨0, 9, 12, 24⟩) (name := "java/lang/IndexOutOfBoundsException") rfl (fun z h => nomatch h) (by decide) (by decide) cL_l24 cL_c24 (fun q k => ?_)
  refine x_astore_n C dL_logOf_12 rfl rfl (by decide) ?_
  refine x_iconst (v := 1) C dL_logOf_13 (by decide) ?_
  refine x_iret C E dL_logOf_14 ?_
  exact ⟨rfl, k, rfl⟩
theorem hL_156 : x_LH RL 156 yL_logOf cL_logOf 4 3 (some .int) [(0, 9, 12, 24)] := ⟨(x_t5 _ (List.mem_of_getElem? (i := 63) (by decide +kernel))), (x_t5 _ (List.mem_of_getElem? (i := 65) (by decide +kernel))), (x_t1 _ (List.mem_of_getElem? (i := 0) (by decide +kernel))), ⟨by decide +kernel, by decide +kernel⟩, by decide +kernel, by decide, (x_t5 _ (List.mem_of_getElem? (i := 64) (by decide +kernel)))⟩
theorem nL_36 : Cond.methodLink RL 36 yX8_stateOf ∈ lw_tbl := (x_t5 _ (List.mem_of_getElem? (i := 70) (by decide +kernel)))
theorem lh_stateOf {l : Launch} {Y0 : x_Y} (hO : x_Ok Y0) {M : x_M} {c w : Nat} {fs : List Value} (hc : x_bk M c [.inr (8, fs)]) {x1 : Int32} {r : Int32} {Qm : x_M → Prop} {dc : Nat} (hM : x_C l Y0 yX8_stateOf cX8_stateOf 2 (some .int) dc 0 0 [.ref c, .int x1] M (fun u M1 => u = some (.int r) ∧ Qm M1)) (hdc : dc + 1 ≤ 9) (hw : ∀ M1, Qm M1 → ∃ g : Nat → Int64, x_bk M1 w [.inl (1, 1, .inr (.inl g))]) : x_H l Y0 yL_stateOf cL_stateOf 4 (some .int) [(0, 9, 12, 24)] 9 1 6 [.ref c, .int x1, .ref w] M (fun u M1 => u = some (.int 0) ∧ ∃ (M2 : x_M) (g : Nat → Int64), Qm M2 ∧ g 0 = r.toInt64 ∧ M1 = x_ov M2 w [.inl (1, 1, .inr (.inl g))]) := by
  refine x_startH hO (by decide +kernel) (Nat.le_of_ble_eq_true rfl) (fun K C E hT9 => ?_)
  refine x_aload_n C dL_stateOf_0 rfl rfl ?_
  refine x_iconst (v := 0) C dL_stateOf_1 (by decide) ?_
  refine x_aload_n C dL_stateOf_2 rfl rfl ?_
  refine x_iload_n C dL_stateOf_3 rfl rfl ?_
  refine x_callV1 C dL_stateOf_4 kL_36 hM (hc 0 _ rfl) rfl hdc ⟨Nat.zero_le _, Nat.zero_le _⟩ (Nat.le_of_ble_eq_true rfl) ?_
  rintro _ M1 ⟨rfl, hq⟩
  obtain ⟨g, hg⟩ := hw M1 hq
  refine x_i2l C dL_stateOf_7 ?_
  refine x_lastore C dL_stateOf_8 (hg 0 _ rfl) h_in0 ?_
  refine x_goto (tgt := 15) C dL_stateOf_9 (by decide) ?_
  refine x_iconst (v := 0) C dL_stateOf_15 (by decide) ?_
  refine x_widen (k := 1) (n := 6) (by decide) (by decide) ?_
  refine x_iret C E dL_stateOf_16 ?_
  exact ⟨rfl, M1, _, hq, (h_out0 _ _).trans rfl, x_st_ov1⟩
theorem lh_stateOfT {l : Launch} {Y0 : x_Y} (hO : x_Ok Y0) {M : x_M} {c w : Nat} {fs : List Value} (hc : x_bk M c [.inr (8, fs)]) {x1 : Int32} {dc : Nat} (hM : x_T l Y0 yX8_stateOf cX8_stateOf 2 (some .int) dc 1 6 [.ref c, .int x1] M "java/lang/IndexOutOfBoundsException") (hdc : dc + 1 ≤ 9) : x_H l Y0 yL_stateOf cL_stateOf 4 (some .int) [(0, 9, 12, 24)] 9 1 6 [.ref c, .int x1, .ref w] M (fun u M1 => u = some (.int 1) ∧ ∃ k : Nat, M1 = x_nx M k) := by
  refine x_startH hO (by decide +kernel) (Nat.le_of_ble_eq_true rfl) (fun K C E hT9 => ?_)
  refine x_aload_n C dL_stateOf_0 rfl rfl ?_
  refine x_iconst (v := 0) C dL_stateOf_1 (by decide) ?_
  refine x_aload_n C dL_stateOf_2 rfl rfl ?_
  refine x_iload_n C dL_stateOf_3 rfl rfl ?_
  refine x_callVC (As := [_]) C hT9 dL_stateOf_4 kL_36 nL_36 hM (hc 0 _ rfl) rfl rfl rfl hdc ⟨by decide, by decide⟩ (Nat.le_of_ble_eq_true rfl) (pre := []) (suf := []) (x := ⟨0, 9, 12, 24⟩) (name := "java/lang/IndexOutOfBoundsException") rfl (fun z h => nomatch h) (by decide) (by decide) cL_l24 cL_c24 (fun q k => ?_)
  refine x_astore_n C dL_stateOf_12 rfl rfl (by decide) ?_
  refine x_iconst (v := 1) C dL_stateOf_13 (by decide) ?_
  refine x_iret C E dL_stateOf_14 ?_
  exact ⟨rfl, k, rfl⟩
theorem hL_159 : x_LH RL 159 yL_stateOf cL_stateOf 4 3 (some .int) [(0, 9, 12, 24)] := ⟨(x_t5 _ (List.mem_of_getElem? (i := 67) (by decide +kernel))), (x_t5 _ (List.mem_of_getElem? (i := 69) (by decide +kernel))), (x_t1 _ (List.mem_of_getElem? (i := 0) (by decide +kernel))), ⟨by decide +kernel, by decide +kernel⟩, by decide +kernel, by decide, (x_t5 _ (List.mem_of_getElem? (i := 68) (by decide +kernel)))⟩
theorem nL_39 : Cond.methodLink RL 39 yX8_waitsOf ∈ lw_tbl := (x_t5 _ (List.mem_of_getElem? (i := 74) (by decide +kernel)))
theorem lh_waitsOf {l : Launch} {Y0 : x_Y} (hO : x_Ok Y0) {M : x_M} {c w : Nat} {fs : List Value} (hc : x_bk M c [.inr (8, fs)]) {x1 : Int32} {r : Int32} {Qm : x_M → Prop} {dc : Nat} (hM : x_C l Y0 yX8_waitsOf cX8_waitsOf 2 (some .int) dc 0 0 [.ref c, .int x1] M (fun u M1 => u = some (.int r) ∧ Qm M1)) (hdc : dc + 1 ≤ 9) (hw : ∀ M1, Qm M1 → ∃ g : Nat → Int64, x_bk M1 w [.inl (1, 1, .inr (.inl g))]) : x_H l Y0 yL_waitsOf cL_waitsOf 4 (some .int) [(0, 9, 12, 24)] 9 1 6 [.ref c, .int x1, .ref w] M (fun u M1 => u = some (.int 0) ∧ ∃ (M2 : x_M) (g : Nat → Int64), Qm M2 ∧ g 0 = r.toInt64 ∧ M1 = x_ov M2 w [.inl (1, 1, .inr (.inl g))]) := by
  refine x_startH hO (by decide +kernel) (Nat.le_of_ble_eq_true rfl) (fun K C E hT9 => ?_)
  refine x_aload_n C dL_waitsOf_0 rfl rfl ?_
  refine x_iconst (v := 0) C dL_waitsOf_1 (by decide) ?_
  refine x_aload_n C dL_waitsOf_2 rfl rfl ?_
  refine x_iload_n C dL_waitsOf_3 rfl rfl ?_
  refine x_callV1 C dL_waitsOf_4 kL_39 hM (hc 0 _ rfl) rfl hdc ⟨Nat.zero_le _, Nat.zero_le _⟩ (Nat.le_of_ble_eq_true rfl) ?_
  rintro _ M1 ⟨rfl, hq⟩
  obtain ⟨g, hg⟩ := hw M1 hq
  refine x_i2l C dL_waitsOf_7 ?_
  refine x_lastore C dL_waitsOf_8 (hg 0 _ rfl) h_in0 ?_
  refine x_goto (tgt := 15) C dL_waitsOf_9 (by decide) ?_
  refine x_iconst (v := 0) C dL_waitsOf_15 (by decide) ?_
  refine x_widen (k := 1) (n := 6) (by decide) (by decide) ?_
  refine x_iret C E dL_waitsOf_16 ?_
  exact ⟨rfl, M1, _, hq, (h_out0 _ _).trans rfl, x_st_ov1⟩
theorem lh_waitsOfT {l : Launch} {Y0 : x_Y} (hO : x_Ok Y0) {M : x_M} {c w : Nat} {fs : List Value} (hc : x_bk M c [.inr (8, fs)]) {x1 : Int32} {dc : Nat} (hM : x_T l Y0 yX8_waitsOf cX8_waitsOf 2 (some .int) dc 1 6 [.ref c, .int x1] M "java/lang/IndexOutOfBoundsException") (hdc : dc + 1 ≤ 9) : x_H l Y0 yL_waitsOf cL_waitsOf 4 (some .int) [(0, 9, 12, 24)] 9 1 6 [.ref c, .int x1, .ref w] M (fun u M1 => u = some (.int 1) ∧ ∃ k : Nat, M1 = x_nx M k) := by
  refine x_startH hO (by decide +kernel) (Nat.le_of_ble_eq_true rfl) (fun K C E hT9 => ?_)
  refine x_aload_n C dL_waitsOf_0 rfl rfl ?_
  refine x_iconst (v := 0) C dL_waitsOf_1 (by decide) ?_
  refine x_aload_n C dL_waitsOf_2 rfl rfl ?_
  refine x_iload_n C dL_waitsOf_3 rfl rfl ?_
  refine x_callVC (As := [_]) C hT9 dL_waitsOf_4 kL_39 nL_39 hM (hc 0 _ rfl) rfl rfl rfl hdc ⟨by decide, by decide⟩ (Nat.le_of_ble_eq_true rfl) (pre := []) (suf := []) (x := ⟨0, 9, 12, 24⟩) (name := "java/lang/IndexOutOfBoundsException") rfl (fun z h => nomatch h) (by decide) (by decide) cL_l24 cL_c24 (fun q k => ?_)
  refine x_astore_n C dL_waitsOf_12 rfl rfl (by decide) ?_
  refine x_iconst (v := 1) C dL_waitsOf_13 (by decide) ?_
  refine x_iret C E dL_waitsOf_14 ?_
  exact ⟨rfl, k, rfl⟩
theorem hL_162 : x_LH RL 162 yL_waitsOf cL_waitsOf 4 3 (some .int) [(0, 9, 12, 24)] := ⟨(x_t5 _ (List.mem_of_getElem? (i := 71) (by decide +kernel))), (x_t5 _ (List.mem_of_getElem? (i := 73) (by decide +kernel))), (x_t1 _ (List.mem_of_getElem? (i := 0) (by decide +kernel))), ⟨by decide +kernel, by decide +kernel⟩, by decide +kernel, by decide, (x_t5 _ (List.mem_of_getElem? (i := 72) (by decide +kernel)))⟩
theorem nL_42 : Cond.methodLink RL 42 yX8_partsOf ∈ lw_tbl := (x_t5 _ (List.mem_of_getElem? (i := 78) (by decide +kernel)))
theorem lh_partsOf {l : Launch} {Y0 : x_Y} (hO : x_Ok Y0) {M : x_M} {c w : Nat} {fs : List Value} (hc : x_bk M c [.inr (8, fs)]) {x1 : Int32} {r : Int32} {Qm : x_M → Prop} {dc : Nat} (hM : x_C l Y0 yX8_partsOf cX8_partsOf 2 (some .int) dc 0 0 [.ref c, .int x1] M (fun u M1 => u = some (.int r) ∧ Qm M1)) (hdc : dc + 1 ≤ 9) (hw : ∀ M1, Qm M1 → ∃ g : Nat → Int64, x_bk M1 w [.inl (1, 1, .inr (.inl g))]) : x_H l Y0 yL_partsOf cL_partsOf 4 (some .int) [(0, 9, 12, 24)] 9 1 6 [.ref c, .int x1, .ref w] M (fun u M1 => u = some (.int 0) ∧ ∃ (M2 : x_M) (g : Nat → Int64), Qm M2 ∧ g 0 = r.toInt64 ∧ M1 = x_ov M2 w [.inl (1, 1, .inr (.inl g))]) := by
  refine x_startH hO (by decide +kernel) (Nat.le_of_ble_eq_true rfl) (fun K C E hT9 => ?_)
  refine x_aload_n C dL_partsOf_0 rfl rfl ?_
  refine x_iconst (v := 0) C dL_partsOf_1 (by decide) ?_
  refine x_aload_n C dL_partsOf_2 rfl rfl ?_
  refine x_iload_n C dL_partsOf_3 rfl rfl ?_
  refine x_callV1 C dL_partsOf_4 kL_42 hM (hc 0 _ rfl) rfl hdc ⟨Nat.zero_le _, Nat.zero_le _⟩ (Nat.le_of_ble_eq_true rfl) ?_
  rintro _ M1 ⟨rfl, hq⟩
  obtain ⟨g, hg⟩ := hw M1 hq
  refine x_i2l C dL_partsOf_7 ?_
  refine x_lastore C dL_partsOf_8 (hg 0 _ rfl) h_in0 ?_
  refine x_goto (tgt := 15) C dL_partsOf_9 (by decide) ?_
  refine x_iconst (v := 0) C dL_partsOf_15 (by decide) ?_
  refine x_widen (k := 1) (n := 6) (by decide) (by decide) ?_
  refine x_iret C E dL_partsOf_16 ?_
  exact ⟨rfl, M1, _, hq, (h_out0 _ _).trans rfl, x_st_ov1⟩
theorem lh_partsOfT {l : Launch} {Y0 : x_Y} (hO : x_Ok Y0) {M : x_M} {c w : Nat} {fs : List Value} (hc : x_bk M c [.inr (8, fs)]) {x1 : Int32} {dc : Nat} (hM : x_T l Y0 yX8_partsOf cX8_partsOf 2 (some .int) dc 1 6 [.ref c, .int x1] M "java/lang/IndexOutOfBoundsException") (hdc : dc + 1 ≤ 9) : x_H l Y0 yL_partsOf cL_partsOf 4 (some .int) [(0, 9, 12, 24)] 9 1 6 [.ref c, .int x1, .ref w] M (fun u M1 => u = some (.int 1) ∧ ∃ k : Nat, M1 = x_nx M k) := by
  refine x_startH hO (by decide +kernel) (Nat.le_of_ble_eq_true rfl) (fun K C E hT9 => ?_)
  refine x_aload_n C dL_partsOf_0 rfl rfl ?_
  refine x_iconst (v := 0) C dL_partsOf_1 (by decide) ?_
  refine x_aload_n C dL_partsOf_2 rfl rfl ?_
  refine x_iload_n C dL_partsOf_3 rfl rfl ?_
  refine x_callVC (As := [_]) C hT9 dL_partsOf_4 kL_42 nL_42 hM (hc 0 _ rfl) rfl rfl rfl hdc ⟨by decide, by decide⟩ (Nat.le_of_ble_eq_true rfl) (pre := []) (suf := []) (x := ⟨0, 9, 12, 24⟩) (name := "java/lang/IndexOutOfBoundsException") rfl (fun z h => nomatch h) (by decide) (by decide) cL_l24 cL_c24 (fun q k => ?_)
  refine x_astore_n C dL_partsOf_12 rfl rfl (by decide) ?_
  refine x_iconst (v := 1) C dL_partsOf_13 (by decide) ?_
  refine x_iret C E dL_partsOf_14 ?_
  exact ⟨rfl, k, rfl⟩
theorem hL_165 : x_LH RL 165 yL_partsOf cL_partsOf 4 3 (some .int) [(0, 9, 12, 24)] := ⟨(x_t5 _ (List.mem_of_getElem? (i := 75) (by decide +kernel))), (x_t5 _ (List.mem_of_getElem? (i := 77) (by decide +kernel))), (x_t1 _ (List.mem_of_getElem? (i := 0) (by decide +kernel))), ⟨by decide +kernel, by decide +kernel⟩, by decide +kernel, by decide, (x_t5 _ (List.mem_of_getElem? (i := 76) (by decide +kernel)))⟩
theorem nL_45 : Cond.methodLink RL 45 yX8_droneIn ∈ lw_tbl := (x_t5 _ (List.mem_of_getElem? (i := 85) (by decide +kernel)))
theorem lh_droneIn {l : Launch} {Y0 : x_Y} (hO : x_Ok Y0) {M : x_M} {c w : Nat} {fs : List Value} (hc : x_bk M c [.inr (8, fs)]) {x1 x2 : Int32} {r : Int32} {Qm : x_M → Prop} {dc : Nat} (hM : x_C l Y0 yX8_droneIn cX8_droneIn 3 (some .int) dc 0 0 [.ref c, .int x1, .int x2] M (fun u M1 => u = some (.int r) ∧ Qm M1)) (hdc : dc + 1 ≤ 9) (hw : ∀ M1, Qm M1 → ∃ g : Nat → Int64, x_bk M1 w [.inl (1, 1, .inr (.inl g))]) : x_H l Y0 yL_droneIn cL_droneIn 5 (some .int) [(0, 10, 13, 24)] 9 1 6 [.ref c, .int x1, .int x2, .ref w] M (fun u M1 => u = some (.int 0) ∧ ∃ (M2 : x_M) (g : Nat → Int64), Qm M2 ∧ g 0 = r.toInt64 ∧ M1 = x_ov M2 w [.inl (1, 1, .inr (.inl g))]) := by
  refine x_startH hO (by decide +kernel) (Nat.le_of_ble_eq_true rfl) (fun K C E hT9 => ?_)
  refine x_aload_n C dL_droneIn_0 rfl rfl ?_
  refine x_iconst (v := 0) C dL_droneIn_1 (by decide) ?_
  refine x_aload_n C dL_droneIn_2 rfl rfl ?_
  refine x_iload_n C dL_droneIn_3 rfl rfl ?_
  refine x_iload_n C dL_droneIn_4 rfl rfl ?_
  refine x_callV2 C dL_droneIn_5 kL_45 hM (hc 0 _ rfl) rfl hdc ⟨Nat.zero_le _, Nat.zero_le _⟩ (Nat.le_of_ble_eq_true rfl) ?_
  rintro _ M1 ⟨rfl, hq⟩
  obtain ⟨g, hg⟩ := hw M1 hq
  refine x_i2l C dL_droneIn_8 ?_
  refine x_lastore C dL_droneIn_9 (hg 0 _ rfl) h_in0 ?_
  refine x_goto (tgt := 17) C dL_droneIn_10 (by decide) ?_
  refine x_iconst (v := 0) C dL_droneIn_17 (by decide) ?_
  refine x_widen (k := 1) (n := 6) (by decide) (by decide) ?_
  refine x_iret C E dL_droneIn_18 ?_
  exact ⟨rfl, M1, _, hq, (h_out0 _ _).trans rfl, x_st_ov1⟩
theorem lh_droneInT {l : Launch} {Y0 : x_Y} (hO : x_Ok Y0) {M : x_M} {c w : Nat} {fs : List Value} (hc : x_bk M c [.inr (8, fs)]) {x1 x2 : Int32} {dc : Nat} (hM : x_T l Y0 yX8_droneIn cX8_droneIn 3 (some .int) dc 1 6 [.ref c, .int x1, .int x2] M "java/lang/IndexOutOfBoundsException") (hdc : dc + 1 ≤ 9) : x_H l Y0 yL_droneIn cL_droneIn 5 (some .int) [(0, 10, 13, 24)] 9 1 6 [.ref c, .int x1, .int x2, .ref w] M (fun u M1 => u = some (.int 1) ∧ ∃ k : Nat, M1 = x_nx M k) := by
  refine x_startH hO (by decide +kernel) (Nat.le_of_ble_eq_true rfl) (fun K C E hT9 => ?_)
  refine x_aload_n C dL_droneIn_0 rfl rfl ?_
  refine x_iconst (v := 0) C dL_droneIn_1 (by decide) ?_
  refine x_aload_n C dL_droneIn_2 rfl rfl ?_
  refine x_iload_n C dL_droneIn_3 rfl rfl ?_
  refine x_iload_n C dL_droneIn_4 rfl rfl ?_
  refine x_callVC (As := [_, _]) C hT9 dL_droneIn_5 kL_45 nL_45 hM (hc 0 _ rfl) rfl rfl rfl hdc ⟨by decide, by decide⟩ (Nat.le_of_ble_eq_true rfl) (pre := []) (suf := []) (x := ⟨0, 10, 13, 24⟩) (name := "java/lang/IndexOutOfBoundsException") rfl (fun z h => nomatch h) (by decide) (by decide) cL_l24 cL_c24 (fun q k => ?_)
  refine x_astore C dL_droneIn_13 rfl (by decide) ?_
  refine x_iconst (v := 1) C dL_droneIn_15 (by decide) ?_
  refine x_iret C E dL_droneIn_16 ?_
  exact ⟨rfl, k, rfl⟩
theorem hL_168 : x_LH RL 168 yL_droneIn cL_droneIn 5 4 (some .int) [(0, 10, 13, 24)] := ⟨(x_t5 _ (List.mem_of_getElem? (i := 82) (by decide +kernel))), (x_t5 _ (List.mem_of_getElem? (i := 84) (by decide +kernel))), (x_t1 _ (List.mem_of_getElem? (i := 0) (by decide +kernel))), ⟨by decide +kernel, by decide +kernel⟩, by decide +kernel, by decide, (x_t5 _ (List.mem_of_getElem? (i := 83) (by decide +kernel)))⟩
theorem nL_49 : Cond.methodLink RL 49 yX8_changeIn ∈ lw_tbl := (x_t5 _ (List.mem_of_getElem? (i := 92) (by decide +kernel)))
theorem lh_changeIn {l : Launch} {Y0 : x_Y} (hO : x_Ok Y0) {M : x_M} {c w : Nat} {fs : List Value} (hc : x_bk M c [.inr (8, fs)]) {x1 x2 : Int32} {r : Int32} {Qm : x_M → Prop} {dc : Nat} (hM : x_C l Y0 yX8_changeIn cX8_changeIn 3 (some .int) dc 0 0 [.ref c, .int x1, .int x2] M (fun u M1 => u = some (.int r) ∧ Qm M1)) (hdc : dc + 1 ≤ 9) (hw : ∀ M1, Qm M1 → ∃ g : Nat → Int64, x_bk M1 w [.inl (1, 1, .inr (.inl g))]) : x_H l Y0 yL_changeIn cL_changeIn 5 (some .int) [(0, 10, 13, 24)] 9 1 6 [.ref c, .int x1, .int x2, .ref w] M (fun u M1 => u = some (.int 0) ∧ ∃ (M2 : x_M) (g : Nat → Int64), Qm M2 ∧ g 0 = r.toInt64 ∧ M1 = x_ov M2 w [.inl (1, 1, .inr (.inl g))]) := by
  refine x_startH hO (by decide +kernel) (Nat.le_of_ble_eq_true rfl) (fun K C E hT9 => ?_)
  refine x_aload_n C dL_changeIn_0 rfl rfl ?_
  refine x_iconst (v := 0) C dL_changeIn_1 (by decide) ?_
  refine x_aload_n C dL_changeIn_2 rfl rfl ?_
  refine x_iload_n C dL_changeIn_3 rfl rfl ?_
  refine x_iload_n C dL_changeIn_4 rfl rfl ?_
  refine x_callV2 C dL_changeIn_5 kL_49 hM (hc 0 _ rfl) rfl hdc ⟨Nat.zero_le _, Nat.zero_le _⟩ (Nat.le_of_ble_eq_true rfl) ?_
  rintro _ M1 ⟨rfl, hq⟩
  obtain ⟨g, hg⟩ := hw M1 hq
  refine x_i2l C dL_changeIn_8 ?_
  refine x_lastore C dL_changeIn_9 (hg 0 _ rfl) h_in0 ?_
  refine x_goto (tgt := 17) C dL_changeIn_10 (by decide) ?_
  refine x_iconst (v := 0) C dL_changeIn_17 (by decide) ?_
  refine x_widen (k := 1) (n := 6) (by decide) (by decide) ?_
  refine x_iret C E dL_changeIn_18 ?_
  exact ⟨rfl, M1, _, hq, (h_out0 _ _).trans rfl, x_st_ov1⟩
theorem lh_changeInT {l : Launch} {Y0 : x_Y} (hO : x_Ok Y0) {M : x_M} {c w : Nat} {fs : List Value} (hc : x_bk M c [.inr (8, fs)]) {x1 x2 : Int32} {dc : Nat} (hM : x_T l Y0 yX8_changeIn cX8_changeIn 3 (some .int) dc 1 6 [.ref c, .int x1, .int x2] M "java/lang/IndexOutOfBoundsException") (hdc : dc + 1 ≤ 9) : x_H l Y0 yL_changeIn cL_changeIn 5 (some .int) [(0, 10, 13, 24)] 9 1 6 [.ref c, .int x1, .int x2, .ref w] M (fun u M1 => u = some (.int 1) ∧ ∃ k : Nat, M1 = x_nx M k) := by
  refine x_startH hO (by decide +kernel) (Nat.le_of_ble_eq_true rfl) (fun K C E hT9 => ?_)
  refine x_aload_n C dL_changeIn_0 rfl rfl ?_
  refine x_iconst (v := 0) C dL_changeIn_1 (by decide) ?_
  refine x_aload_n C dL_changeIn_2 rfl rfl ?_
  refine x_iload_n C dL_changeIn_3 rfl rfl ?_
  refine x_iload_n C dL_changeIn_4 rfl rfl ?_
  refine x_callVC (As := [_, _]) C hT9 dL_changeIn_5 kL_49 nL_49 hM (hc 0 _ rfl) rfl rfl rfl hdc ⟨by decide, by decide⟩ (Nat.le_of_ble_eq_true rfl) (pre := []) (suf := []) (x := ⟨0, 10, 13, 24⟩) (name := "java/lang/IndexOutOfBoundsException") rfl (fun z h => nomatch h) (by decide) (by decide) cL_l24 cL_c24 (fun q k => ?_)
  refine x_astore C dL_changeIn_13 rfl (by decide) ?_
  refine x_iconst (v := 1) C dL_changeIn_15 (by decide) ?_
  refine x_iret C E dL_changeIn_16 ?_
  exact ⟨rfl, k, rfl⟩
theorem hL_172 : x_LH RL 172 yL_changeIn cL_changeIn 5 4 (some .int) [(0, 10, 13, 24)] := ⟨(x_t5 _ (List.mem_of_getElem? (i := 89) (by decide +kernel))), (x_t5 _ (List.mem_of_getElem? (i := 91) (by decide +kernel))), (x_t1 _ (List.mem_of_getElem? (i := 0) (by decide +kernel))), ⟨by decide +kernel, by decide +kernel⟩, by decide +kernel, by decide, (x_t5 _ (List.mem_of_getElem? (i := 90) (by decide +kernel)))⟩
theorem nL_52 : Cond.methodLink RL 52 yX8_voteIn ∈ lw_tbl := (x_t5 _ (List.mem_of_getElem? (i := 99) (by decide +kernel)))
theorem lh_voteIn {l : Launch} {Y0 : x_Y} (hO : x_Ok Y0) {M : x_M} {c w : Nat} {fs : List Value} (hc : x_bk M c [.inr (8, fs)]) {x1 x2 : Int32} {r : Int32} {Qm : x_M → Prop} {dc : Nat} (hM : x_C l Y0 yX8_voteIn cX8_voteIn 3 (some .int) dc 0 0 [.ref c, .int x1, .int x2] M (fun u M1 => u = some (.int r) ∧ Qm M1)) (hdc : dc + 1 ≤ 9) (hw : ∀ M1, Qm M1 → ∃ g : Nat → Int64, x_bk M1 w [.inl (1, 1, .inr (.inl g))]) : x_H l Y0 yL_voteIn cL_voteIn 5 (some .int) [(0, 10, 13, 24)] 9 1 6 [.ref c, .int x1, .int x2, .ref w] M (fun u M1 => u = some (.int 0) ∧ ∃ (M2 : x_M) (g : Nat → Int64), Qm M2 ∧ g 0 = r.toInt64 ∧ M1 = x_ov M2 w [.inl (1, 1, .inr (.inl g))]) := by
  refine x_startH hO (by decide +kernel) (Nat.le_of_ble_eq_true rfl) (fun K C E hT9 => ?_)
  refine x_aload_n C dL_voteIn_0 rfl rfl ?_
  refine x_iconst (v := 0) C dL_voteIn_1 (by decide) ?_
  refine x_aload_n C dL_voteIn_2 rfl rfl ?_
  refine x_iload_n C dL_voteIn_3 rfl rfl ?_
  refine x_iload_n C dL_voteIn_4 rfl rfl ?_
  refine x_callV2 C dL_voteIn_5 kL_52 hM (hc 0 _ rfl) rfl hdc ⟨Nat.zero_le _, Nat.zero_le _⟩ (Nat.le_of_ble_eq_true rfl) ?_
  rintro _ M1 ⟨rfl, hq⟩
  obtain ⟨g, hg⟩ := hw M1 hq
  refine x_i2l C dL_voteIn_8 ?_
  refine x_lastore C dL_voteIn_9 (hg 0 _ rfl) h_in0 ?_
  refine x_goto (tgt := 17) C dL_voteIn_10 (by decide) ?_
  refine x_iconst (v := 0) C dL_voteIn_17 (by decide) ?_
  refine x_widen (k := 1) (n := 6) (by decide) (by decide) ?_
  refine x_iret C E dL_voteIn_18 ?_
  exact ⟨rfl, M1, _, hq, (h_out0 _ _).trans rfl, x_st_ov1⟩
theorem lh_voteInT {l : Launch} {Y0 : x_Y} (hO : x_Ok Y0) {M : x_M} {c w : Nat} {fs : List Value} (hc : x_bk M c [.inr (8, fs)]) {x1 x2 : Int32} {dc : Nat} (hM : x_T l Y0 yX8_voteIn cX8_voteIn 3 (some .int) dc 1 6 [.ref c, .int x1, .int x2] M "java/lang/IndexOutOfBoundsException") (hdc : dc + 1 ≤ 9) : x_H l Y0 yL_voteIn cL_voteIn 5 (some .int) [(0, 10, 13, 24)] 9 1 6 [.ref c, .int x1, .int x2, .ref w] M (fun u M1 => u = some (.int 1) ∧ ∃ k : Nat, M1 = x_nx M k) := by
  refine x_startH hO (by decide +kernel) (Nat.le_of_ble_eq_true rfl) (fun K C E hT9 => ?_)
  refine x_aload_n C dL_voteIn_0 rfl rfl ?_
  refine x_iconst (v := 0) C dL_voteIn_1 (by decide) ?_
  refine x_aload_n C dL_voteIn_2 rfl rfl ?_
  refine x_iload_n C dL_voteIn_3 rfl rfl ?_
  refine x_iload_n C dL_voteIn_4 rfl rfl ?_
  refine x_callVC (As := [_, _]) C hT9 dL_voteIn_5 kL_52 nL_52 hM (hc 0 _ rfl) rfl rfl rfl hdc ⟨by decide, by decide⟩ (Nat.le_of_ble_eq_true rfl) (pre := []) (suf := []) (x := ⟨0, 10, 13, 24⟩) (name := "java/lang/IndexOutOfBoundsException") rfl (fun z h => nomatch h) (by decide) (by decide) cL_l24 cL_c24 (fun q k => ?_)
  refine x_astore C dL_voteIn_13 rfl (by decide) ?_
  refine x_iconst (v := 1) C dL_voteIn_15 (by decide) ?_
  refine x_iret C E dL_voteIn_16 ?_
  exact ⟨rfl, k, rfl⟩
theorem hL_175 : x_LH RL 175 yL_voteIn cL_voteIn 5 4 (some .int) [(0, 10, 13, 24)] := ⟨(x_t5 _ (List.mem_of_getElem? (i := 96) (by decide +kernel))), (x_t5 _ (List.mem_of_getElem? (i := 98) (by decide +kernel))), (x_t1 _ (List.mem_of_getElem? (i := 0) (by decide +kernel))), ⟨by decide +kernel, by decide +kernel⟩, by decide +kernel, by decide, (x_t5 _ (List.mem_of_getElem? (i := 97) (by decide +kernel)))⟩
theorem nL_55 : Cond.methodLink RL 55 yX8_hasHeard ∈ lw_tbl := (x_t5 _ (List.mem_of_getElem? (i := 103) (by decide +kernel)))
theorem lh_hasHeard {l : Launch} {Y0 : x_Y} (hO : x_Ok Y0) {M : x_M} {c w : Nat} {fs : List Value} (hc : x_bk M c [.inr (8, fs)]) {x1 x2 : Int32} {r : Int32} {Qm : x_M → Prop} {dc : Nat} (hM : x_C l Y0 yX8_hasHeard cX8_hasHeard 3 (some .boolean) dc 0 0 [.ref c, .int x1, .int x2] M (fun u M1 => u = some (.int r) ∧ Qm M1)) (hdc : dc + 1 ≤ 9) (hw : ∀ M1, Qm M1 → ∃ g : Nat → Int64, x_bk M1 w [.inl (1, 1, .inr (.inl g))]) : x_H l Y0 yL_hasHeard cL_hasHeard 5 (some .int) [(0, 17, 20, 24)] 9 1 6 [.ref c, .int x1, .int x2, .ref w] M (fun u M1 => u = some (.int 0) ∧ ∃ (M2 : x_M) (g : Nat → Int64), Qm M2 ∧ g 0 = (if r = 0 then (0 : Int64) else 1) ∧ M1 = x_ov M2 w [.inl (1, 1, .inr (.inl g))]) := by
  refine x_startH hO (by decide +kernel) (Nat.le_of_ble_eq_true rfl) (fun K C E hT9 => ?_)
  refine x_aload_n C dL_hasHeard_0 rfl rfl ?_
  refine x_iconst (v := 0) C dL_hasHeard_1 (by decide) ?_
  refine x_aload_n C dL_hasHeard_2 rfl rfl ?_
  refine x_iload_n C dL_hasHeard_3 rfl rfl ?_
  refine x_iload_n C dL_hasHeard_4 rfl rfl ?_
  refine x_callV2 C dL_hasHeard_5 kL_55 hM (hc 0 _ rfl) rfl hdc ⟨Nat.zero_le _, Nat.zero_le _⟩ (Nat.le_of_ble_eq_true rfl) ?_
  rintro _ M1 ⟨rfl, hq⟩
  obtain ⟨g, hg⟩ := hw M1 hq
  refine x_if_eq (tgt := 15) C dL_hasHeard_8 (by decide) (fun c7 => ?_) (fun c7 => ?_)
  · refine x_lconst (v := 0) C dL_hasHeard_15 (by decide) ?_
    refine x_lastore C dL_hasHeard_16 (hg 0 _ rfl) h_in0 ?_
    refine x_goto (tgt := 24) C dL_hasHeard_17 (by decide) ?_
    refine x_iconst (v := 0) C dL_hasHeard_24 (by decide) ?_
    refine x_widen (k := 1) (n := 6) (by decide) (by decide) ?_
    refine x_iret C E dL_hasHeard_25 ?_
    exact ⟨rfl, M1, _, hq, (h_out0 _ _).trans (if_pos c7).symm, x_st_ov1⟩
  · refine x_lconst (v := 1) C dL_hasHeard_11 (by decide) ?_
    refine x_goto (tgt := 16) C dL_hasHeard_12 (by decide) ?_
    refine x_lastore C dL_hasHeard_16 (hg 0 _ rfl) h_in0 ?_
    refine x_goto (tgt := 24) C dL_hasHeard_17 (by decide) ?_
    refine x_iconst (v := 0) C dL_hasHeard_24 (by decide) ?_
    refine x_widen (k := 1) (n := 6) (by decide) (by decide) ?_
    refine x_iret C E dL_hasHeard_25 ?_
    exact ⟨rfl, M1, _, hq, (h_out0 _ _).trans (if_neg c7).symm, x_st_ov1⟩
theorem lh_hasHeardT {l : Launch} {Y0 : x_Y} (hO : x_Ok Y0) {M : x_M} {c w : Nat} {fs : List Value} (hc : x_bk M c [.inr (8, fs)]) {x1 x2 : Int32} {dc : Nat} (hM : x_T l Y0 yX8_hasHeard cX8_hasHeard 3 (some .boolean) dc 1 6 [.ref c, .int x1, .int x2] M "java/lang/IndexOutOfBoundsException") (hdc : dc + 1 ≤ 9) : x_H l Y0 yL_hasHeard cL_hasHeard 5 (some .int) [(0, 17, 20, 24)] 9 1 6 [.ref c, .int x1, .int x2, .ref w] M (fun u M1 => u = some (.int 1) ∧ ∃ k : Nat, M1 = x_nx M k) := by
  refine x_startH hO (by decide +kernel) (Nat.le_of_ble_eq_true rfl) (fun K C E hT9 => ?_)
  refine x_aload_n C dL_hasHeard_0 rfl rfl ?_
  refine x_iconst (v := 0) C dL_hasHeard_1 (by decide) ?_
  refine x_aload_n C dL_hasHeard_2 rfl rfl ?_
  refine x_iload_n C dL_hasHeard_3 rfl rfl ?_
  refine x_iload_n C dL_hasHeard_4 rfl rfl ?_
  refine x_callVC (As := [_, _]) C hT9 dL_hasHeard_5 kL_55 nL_55 hM (hc 0 _ rfl) rfl rfl rfl hdc ⟨by decide, by decide⟩ (Nat.le_of_ble_eq_true rfl) (pre := []) (suf := []) (x := ⟨0, 17, 20, 24⟩) (name := "java/lang/IndexOutOfBoundsException") rfl (fun z h => nomatch h) (by decide) (by decide) cL_l24 cL_c24 (fun q k => ?_)
  refine x_astore C dL_hasHeard_20 rfl (by decide) ?_
  refine x_iconst (v := 1) C dL_hasHeard_22 (by decide) ?_
  refine x_iret C E dL_hasHeard_23 ?_
  exact ⟨rfl, k, rfl⟩
theorem hL_178 : x_LH RL 178 yL_hasHeard cL_hasHeard 5 4 (some .int) [(0, 17, 20, 24)] := ⟨(x_t5 _ (List.mem_of_getElem? (i := 100) (by decide +kernel))), (x_t5 _ (List.mem_of_getElem? (i := 102) (by decide +kernel))), (x_t1 _ (List.mem_of_getElem? (i := 0) (by decide +kernel))), ⟨by decide +kernel, by decide +kernel⟩, by decide +kernel, by decide, (x_t5 _ (List.mem_of_getElem? (i := 101) (by decide +kernel)))⟩
theorem nL_59 : Cond.methodLink RL 59 yX8_votesFor ∈ lw_tbl := (x_t5 _ (List.mem_of_getElem? (i := 107) (by decide +kernel)))
theorem lh_votesFor {l : Launch} {Y0 : x_Y} (hO : x_Ok Y0) {M : x_M} {c w : Nat} {fs : List Value} (hc : x_bk M c [.inr (8, fs)]) {x1 : Int32} {r : Int32} {Qm : x_M → Prop} {dc : Nat} (hM : x_C l Y0 yX8_votesFor cX8_votesFor 2 (some .int) dc 0 0 [.ref c, .int x1] M (fun u M1 => u = some (.int r) ∧ Qm M1)) (hdc : dc + 1 ≤ 9) (hw : ∀ M1, Qm M1 → ∃ g : Nat → Int64, x_bk M1 w [.inl (1, 1, .inr (.inl g))]) : x_H l Y0 yL_votesFor cL_votesFor 4 (some .int) [(0, 9, 12, 24)] 9 1 6 [.ref c, .int x1, .ref w] M (fun u M1 => u = some (.int 0) ∧ ∃ (M2 : x_M) (g : Nat → Int64), Qm M2 ∧ g 0 = r.toInt64 ∧ M1 = x_ov M2 w [.inl (1, 1, .inr (.inl g))]) := by
  refine x_startH hO (by decide +kernel) (Nat.le_of_ble_eq_true rfl) (fun K C E hT9 => ?_)
  refine x_aload_n C dL_votesFor_0 rfl rfl ?_
  refine x_iconst (v := 0) C dL_votesFor_1 (by decide) ?_
  refine x_aload_n C dL_votesFor_2 rfl rfl ?_
  refine x_iload_n C dL_votesFor_3 rfl rfl ?_
  refine x_callV1 C dL_votesFor_4 kL_59 hM (hc 0 _ rfl) rfl hdc ⟨Nat.zero_le _, Nat.zero_le _⟩ (Nat.le_of_ble_eq_true rfl) ?_
  rintro _ M1 ⟨rfl, hq⟩
  obtain ⟨g, hg⟩ := hw M1 hq
  refine x_i2l C dL_votesFor_7 ?_
  refine x_lastore C dL_votesFor_8 (hg 0 _ rfl) h_in0 ?_
  refine x_goto (tgt := 15) C dL_votesFor_9 (by decide) ?_
  refine x_iconst (v := 0) C dL_votesFor_15 (by decide) ?_
  refine x_widen (k := 1) (n := 6) (by decide) (by decide) ?_
  refine x_iret C E dL_votesFor_16 ?_
  exact ⟨rfl, M1, _, hq, (h_out0 _ _).trans rfl, x_st_ov1⟩
theorem lh_votesForT {l : Launch} {Y0 : x_Y} (hO : x_Ok Y0) {M : x_M} {c w : Nat} {fs : List Value} (hc : x_bk M c [.inr (8, fs)]) {x1 : Int32} {dc : Nat} (hM : x_T l Y0 yX8_votesFor cX8_votesFor 2 (some .int) dc 1 6 [.ref c, .int x1] M "java/lang/IndexOutOfBoundsException") (hdc : dc + 1 ≤ 9) : x_H l Y0 yL_votesFor cL_votesFor 4 (some .int) [(0, 9, 12, 24)] 9 1 6 [.ref c, .int x1, .ref w] M (fun u M1 => u = some (.int 1) ∧ ∃ k : Nat, M1 = x_nx M k) := by
  refine x_startH hO (by decide +kernel) (Nat.le_of_ble_eq_true rfl) (fun K C E hT9 => ?_)
  refine x_aload_n C dL_votesFor_0 rfl rfl ?_
  refine x_iconst (v := 0) C dL_votesFor_1 (by decide) ?_
  refine x_aload_n C dL_votesFor_2 rfl rfl ?_
  refine x_iload_n C dL_votesFor_3 rfl rfl ?_
  refine x_callVC (As := [_]) C hT9 dL_votesFor_4 kL_59 nL_59 hM (hc 0 _ rfl) rfl rfl rfl hdc ⟨by decide, by decide⟩ (Nat.le_of_ble_eq_true rfl) (pre := []) (suf := []) (x := ⟨0, 9, 12, 24⟩) (name := "java/lang/IndexOutOfBoundsException") rfl (fun z h => nomatch h) (by decide) (by decide) cL_l24 cL_c24 (fun q k => ?_)
  refine x_astore_n C dL_votesFor_12 rfl rfl (by decide) ?_
  refine x_iconst (v := 1) C dL_votesFor_13 (by decide) ?_
  refine x_iret C E dL_votesFor_14 ?_
  exact ⟨rfl, k, rfl⟩
theorem hL_181 : x_LH RL 181 yL_votesFor cL_votesFor 4 3 (some .int) [(0, 9, 12, 24)] := ⟨(x_t5 _ (List.mem_of_getElem? (i := 104) (by decide +kernel))), (x_t5 _ (List.mem_of_getElem? (i := 106) (by decide +kernel))), (x_t1 _ (List.mem_of_getElem? (i := 0) (by decide +kernel))), ⟨by decide +kernel, by decide +kernel⟩, by decide +kernel, by decide, (x_t5 _ (List.mem_of_getElem? (i := 105) (by decide +kernel)))⟩
theorem nL_62 : Cond.methodLink RL 62 yX8_wouldAgree ∈ lw_tbl := (x_t5 _ (List.mem_of_getElem? (i := 111) (by decide +kernel)))
theorem lh_wouldAgree {l : Launch} {Y0 : x_Y} (hO : x_Ok Y0) {M : x_M} {c w : Nat} {fs : List Value} (hc : x_bk M c [.inr (8, fs)]) {x1 : Int32} {r : Int32} {Qm : x_M → Prop} {dc : Nat} (hM : x_C l Y0 yX8_wouldAgree cX8_wouldAgree 2 (some .boolean) dc 0 0 [.ref c, .int x1] M (fun u M1 => u = some (.int r) ∧ Qm M1)) (hdc : dc + 1 ≤ 9) (hw : ∀ M1, Qm M1 → ∃ g : Nat → Int64, x_bk M1 w [.inl (1, 1, .inr (.inl g))]) : x_H l Y0 yL_wouldAgree cL_wouldAgree 4 (some .int) [(0, 16, 19, 24)] 9 1 6 [.ref c, .int x1, .ref w] M (fun u M1 => u = some (.int 0) ∧ ∃ (M2 : x_M) (g : Nat → Int64), Qm M2 ∧ g 0 = (if r = 0 then (0 : Int64) else 1) ∧ M1 = x_ov M2 w [.inl (1, 1, .inr (.inl g))]) := by
  refine x_startH hO (by decide +kernel) (Nat.le_of_ble_eq_true rfl) (fun K C E hT9 => ?_)
  refine x_aload_n C dL_wouldAgree_0 rfl rfl ?_
  refine x_iconst (v := 0) C dL_wouldAgree_1 (by decide) ?_
  refine x_aload_n C dL_wouldAgree_2 rfl rfl ?_
  refine x_iload_n C dL_wouldAgree_3 rfl rfl ?_
  refine x_callV1 C dL_wouldAgree_4 kL_62 hM (hc 0 _ rfl) rfl hdc ⟨Nat.zero_le _, Nat.zero_le _⟩ (Nat.le_of_ble_eq_true rfl) ?_
  rintro _ M1 ⟨rfl, hq⟩
  obtain ⟨g, hg⟩ := hw M1 hq
  refine x_if_eq (tgt := 14) C dL_wouldAgree_7 (by decide) (fun c7 => ?_) (fun c7 => ?_)
  · refine x_lconst (v := 0) C dL_wouldAgree_14 (by decide) ?_
    refine x_lastore C dL_wouldAgree_15 (hg 0 _ rfl) h_in0 ?_
    refine x_goto (tgt := 22) C dL_wouldAgree_16 (by decide) ?_
    refine x_iconst (v := 0) C dL_wouldAgree_22 (by decide) ?_
    refine x_widen (k := 1) (n := 6) (by decide) (by decide) ?_
    refine x_iret C E dL_wouldAgree_23 ?_
    exact ⟨rfl, M1, _, hq, (h_out0 _ _).trans (if_pos c7).symm, x_st_ov1⟩
  · refine x_lconst (v := 1) C dL_wouldAgree_10 (by decide) ?_
    refine x_goto (tgt := 15) C dL_wouldAgree_11 (by decide) ?_
    refine x_lastore C dL_wouldAgree_15 (hg 0 _ rfl) h_in0 ?_
    refine x_goto (tgt := 22) C dL_wouldAgree_16 (by decide) ?_
    refine x_iconst (v := 0) C dL_wouldAgree_22 (by decide) ?_
    refine x_widen (k := 1) (n := 6) (by decide) (by decide) ?_
    refine x_iret C E dL_wouldAgree_23 ?_
    exact ⟨rfl, M1, _, hq, (h_out0 _ _).trans (if_neg c7).symm, x_st_ov1⟩
theorem lh_wouldAgreeT {l : Launch} {Y0 : x_Y} (hO : x_Ok Y0) {M : x_M} {c w : Nat} {fs : List Value} (hc : x_bk M c [.inr (8, fs)]) {x1 : Int32} {dc : Nat} (hM : x_T l Y0 yX8_wouldAgree cX8_wouldAgree 2 (some .boolean) dc 1 6 [.ref c, .int x1] M "java/lang/IndexOutOfBoundsException") (hdc : dc + 1 ≤ 9) : x_H l Y0 yL_wouldAgree cL_wouldAgree 4 (some .int) [(0, 16, 19, 24)] 9 1 6 [.ref c, .int x1, .ref w] M (fun u M1 => u = some (.int 1) ∧ ∃ k : Nat, M1 = x_nx M k) := by
  refine x_startH hO (by decide +kernel) (Nat.le_of_ble_eq_true rfl) (fun K C E hT9 => ?_)
  refine x_aload_n C dL_wouldAgree_0 rfl rfl ?_
  refine x_iconst (v := 0) C dL_wouldAgree_1 (by decide) ?_
  refine x_aload_n C dL_wouldAgree_2 rfl rfl ?_
  refine x_iload_n C dL_wouldAgree_3 rfl rfl ?_
  refine x_callVC (As := [_]) C hT9 dL_wouldAgree_4 kL_62 nL_62 hM (hc 0 _ rfl) rfl rfl rfl hdc ⟨by decide, by decide⟩ (Nat.le_of_ble_eq_true rfl) (pre := []) (suf := []) (x := ⟨0, 16, 19, 24⟩) (name := "java/lang/IndexOutOfBoundsException") rfl (fun z h => nomatch h) (by decide) (by decide) cL_l24 cL_c24 (fun q k => ?_)
  refine x_astore_n C dL_wouldAgree_19 rfl rfl (by decide) ?_
  refine x_iconst (v := 1) C dL_wouldAgree_20 (by decide) ?_
  refine x_iret C E dL_wouldAgree_21 ?_
  exact ⟨rfl, k, rfl⟩
theorem hL_184 : x_LH RL 184 yL_wouldAgree cL_wouldAgree 4 3 (some .int) [(0, 16, 19, 24)] := ⟨(x_t5 _ (List.mem_of_getElem? (i := 108) (by decide +kernel))), (x_t5 _ (List.mem_of_getElem? (i := 110) (by decide +kernel))), (x_t1 _ (List.mem_of_getElem? (i := 0) (by decide +kernel))), ⟨by decide +kernel, by decide +kernel⟩, by decide +kernel, by decide, (x_t5 _ (List.mem_of_getElem? (i := 109) (by decide +kernel)))⟩
theorem nL_65 : Cond.methodLink RL 65 yX8_begin ∈ lw_tbl := (x_t5 _ (List.mem_of_getElem? (i := 115) (by decide +kernel)))
theorem lh_begin {l : Launch} {Y0 : x_Y} (hO : x_Ok Y0) {M : x_M} {c w : Nat} {fs : List Value} (hc : x_bk M c [.inr (8, fs)]) {x1 : Int32} {r : Int32} {Qm : x_M → Prop} {dc : Nat} (hM : x_C l Y0 yX8_begin cX8_begin 2 (some .int) dc 0 0 [.ref c, .int x1] M (fun u M1 => u = some (.int r) ∧ Qm M1)) (hdc : dc + 1 ≤ 9) (hw : ∀ M1, Qm M1 → ∃ g : Nat → Int64, x_bk M1 w [.inl (1, 1, .inr (.inl g))]) : x_H l Y0 yL_begin cL_begin 4 (some .int) [(0, 9, 12, 24), (0, 9, 15, 13)] 9 1 6 [.ref c, .int x1, .ref w] M (fun u M1 => u = some (.int 0) ∧ ∃ (M2 : x_M) (g : Nat → Int64), Qm M2 ∧ g 0 = r.toInt64 ∧ M1 = x_ov M2 w [.inl (1, 1, .inr (.inl g))]) := by
  refine x_startH hO (by decide +kernel) (Nat.le_of_ble_eq_true rfl) (fun K C E hT9 => ?_)
  refine x_aload_n C dL_begin_0 rfl rfl ?_
  refine x_iconst (v := 0) C dL_begin_1 (by decide) ?_
  refine x_aload_n C dL_begin_2 rfl rfl ?_
  refine x_iload_n C dL_begin_3 rfl rfl ?_
  refine x_callV1 C dL_begin_4 kL_65 hM (hc 0 _ rfl) rfl hdc ⟨Nat.zero_le _, Nat.zero_le _⟩ (Nat.le_of_ble_eq_true rfl) ?_
  rintro _ M1 ⟨rfl, hq⟩
  obtain ⟨g, hg⟩ := hw M1 hq
  refine x_i2l C dL_begin_7 ?_
  refine x_lastore C dL_begin_8 (hg 0 _ rfl) h_in0 ?_
  refine x_goto (tgt := 18) C dL_begin_9 (by decide) ?_
  refine x_iconst (v := 0) C dL_begin_18 (by decide) ?_
  refine x_widen (k := 1) (n := 6) (by decide) (by decide) ?_
  refine x_iret C E dL_begin_19 ?_
  exact ⟨rfl, M1, _, hq, (h_out0 _ _).trans rfl, x_st_ov1⟩
theorem lh_beginT {l : Launch} {Y0 : x_Y} (hO : x_Ok Y0) {M : x_M} {c w : Nat} {fs : List Value} (hc : x_bk M c [.inr (8, fs)]) {x1 : Int32} {dc : Nat} (hM : x_T l Y0 yX8_begin cX8_begin 2 (some .int) dc 1 6 [.ref c, .int x1] M "java/lang/IndexOutOfBoundsException") (hdc : dc + 1 ≤ 9) : x_H l Y0 yL_begin cL_begin 4 (some .int) [(0, 9, 12, 24), (0, 9, 15, 13)] 9 1 6 [.ref c, .int x1, .ref w] M (fun u M1 => u = some (.int 1) ∧ ∃ k : Nat, M1 = x_nx M k) := by
  refine x_startH hO (by decide +kernel) (Nat.le_of_ble_eq_true rfl) (fun K C E hT9 => ?_)
  refine x_aload_n C dL_begin_0 rfl rfl ?_
  refine x_iconst (v := 0) C dL_begin_1 (by decide) ?_
  refine x_aload_n C dL_begin_2 rfl rfl ?_
  refine x_iload_n C dL_begin_3 rfl rfl ?_
  refine x_callVC (As := [_]) C hT9 dL_begin_4 kL_65 nL_65 hM (hc 0 _ rfl) rfl rfl rfl hdc ⟨by decide, by decide⟩ (Nat.le_of_ble_eq_true rfl) (pre := []) (suf := [⟨0, 9, 15, 13⟩]) (x := ⟨0, 9, 12, 24⟩) (name := "java/lang/IndexOutOfBoundsException") rfl (fun z h => nomatch h) (by decide) (by decide) cL_l24 cL_c24 (fun q k => ?_)
  refine x_astore_n C dL_begin_12 rfl rfl (by decide) ?_
  refine x_iconst (v := 1) C dL_begin_13 (by decide) ?_
  refine x_iret C E dL_begin_14 ?_
  exact ⟨rfl, k, rfl⟩
theorem lh_beginS {l : Launch} {Y0 : x_Y} (hO : x_Ok Y0) (hX : x_Ex l Y0) {M : x_M} {c w : Nat} {fs : List Value} (hc : x_bk M c [.inr (8, fs)]) {x1 : Int32} {dc : Nat} (hM : x_T l Y0 yX8_begin cX8_begin 2 (some .int) dc 1 6 [.ref c, .int x1] M "java/lang/IllegalStateException") (hdc : dc + 1 ≤ 9) : x_H l Y0 yL_begin cL_begin 4 (some .int) [(0, 9, 12, 24), (0, 9, 15, 13)] 9 1 6 [.ref c, .int x1, .ref w] M (fun u M1 => u = some (.int 2) ∧ ∃ k : Nat, M1 = x_nx M k) := by
  refine x_startH hO (by decide +kernel) (Nat.le_of_ble_eq_true rfl) (fun K C E hT9 => ?_)
  refine x_aload_n C dL_begin_0 rfl rfl ?_
  refine x_iconst (v := 0) C dL_begin_1 (by decide) ?_
  refine x_aload_n C dL_begin_2 rfl rfl ?_
  refine x_iload_n C dL_begin_3 rfl rfl ?_
  refine x_callVC (As := [_]) C hT9 dL_begin_4 kL_65 nL_65 hM (hc 0 _ rfl) rfl rfl rfl hdc ⟨by decide, by decide⟩ (Nat.le_of_ble_eq_true rfl) (pre := [⟨0, 9, 12, 24⟩]) (suf := []) (x := ⟨0, 9, 15, 13⟩) (name := "java/lang/IllegalStateException") rfl (fun z h => by cases List.mem_singleton.mp h; exact Or.inr ⟨by decide, "java/lang/IndexOutOfBoundsException", cL_l24, hX.2.2.2.2.1⟩) (by decide) (by decide) cL_l13 cL_c13 (fun q k => ?_)
  refine x_astore_n C dL_begin_15 rfl rfl (by decide) ?_
  refine x_iconst (v := 2) C dL_begin_16 (by decide) ?_
  refine x_iret C E dL_begin_17 ?_
  exact ⟨rfl, k, rfl⟩
theorem hL_187 : x_LH RL 187 yL_begin cL_begin 4 3 (some .int) [(0, 9, 12, 24), (0, 9, 15, 13)] := ⟨(x_t5 _ (List.mem_of_getElem? (i := 112) (by decide +kernel))), (x_t5 _ (List.mem_of_getElem? (i := 114) (by decide +kernel))), (x_t1 _ (List.mem_of_getElem? (i := 0) (by decide +kernel))), ⟨by decide +kernel, by decide +kernel⟩, by decide +kernel, by decide, (x_t5 _ (List.mem_of_getElem? (i := 113) (by decide +kernel)))⟩
theorem nL_68 : Cond.methodLink RL 68 yX8_crash ∈ lw_tbl := (x_t5 _ (List.mem_of_getElem? (i := 128) (by decide +kernel)))
theorem lh_crash {l : Launch} {Y0 : x_Y} (hO : x_Ok Y0) {M : x_M} {c w : Nat} {fs : List Value} (hc : x_bk M c [.inr (8, fs)]) {x1 : Int32} {r : Int32} {Qm : x_M → Prop} {dc : Nat} (hM : x_C l Y0 yX8_crash cX8_crash 2 (some .int) dc 0 0 [.ref c, .int x1] M (fun u M1 => u = some (.int r) ∧ Qm M1)) (hdc : dc + 1 ≤ 9) (hw : ∀ M1, Qm M1 → ∃ g : Nat → Int64, x_bk M1 w [.inl (1, 1, .inr (.inl g))]) : x_H l Y0 yL_crash cL_crash 4 (some .int) [(0, 9, 12, 24), (0, 9, 15, 13)] 9 1 6 [.ref c, .int x1, .ref w] M (fun u M1 => u = some (.int 0) ∧ ∃ (M2 : x_M) (g : Nat → Int64), Qm M2 ∧ g 0 = r.toInt64 ∧ M1 = x_ov M2 w [.inl (1, 1, .inr (.inl g))]) := by
  refine x_startH hO (by decide +kernel) (Nat.le_of_ble_eq_true rfl) (fun K C E hT9 => ?_)
  refine x_aload_n C dL_crash_0 rfl rfl ?_
  refine x_iconst (v := 0) C dL_crash_1 (by decide) ?_
  refine x_aload_n C dL_crash_2 rfl rfl ?_
  refine x_iload_n C dL_crash_3 rfl rfl ?_
  refine x_callV1 C dL_crash_4 kL_68 hM (hc 0 _ rfl) rfl hdc ⟨Nat.zero_le _, Nat.zero_le _⟩ (Nat.le_of_ble_eq_true rfl) ?_
  rintro _ M1 ⟨rfl, hq⟩
  obtain ⟨g, hg⟩ := hw M1 hq
  refine x_i2l C dL_crash_7 ?_
  refine x_lastore C dL_crash_8 (hg 0 _ rfl) h_in0 ?_
  refine x_goto (tgt := 18) C dL_crash_9 (by decide) ?_
  refine x_iconst (v := 0) C dL_crash_18 (by decide) ?_
  refine x_widen (k := 1) (n := 6) (by decide) (by decide) ?_
  refine x_iret C E dL_crash_19 ?_
  exact ⟨rfl, M1, _, hq, (h_out0 _ _).trans rfl, x_st_ov1⟩
theorem lh_crashT {l : Launch} {Y0 : x_Y} (hO : x_Ok Y0) {M : x_M} {c w : Nat} {fs : List Value} (hc : x_bk M c [.inr (8, fs)]) {x1 : Int32} {dc : Nat} (hM : x_T l Y0 yX8_crash cX8_crash 2 (some .int) dc 1 6 [.ref c, .int x1] M "java/lang/IndexOutOfBoundsException") (hdc : dc + 1 ≤ 9) : x_H l Y0 yL_crash cL_crash 4 (some .int) [(0, 9, 12, 24), (0, 9, 15, 13)] 9 1 6 [.ref c, .int x1, .ref w] M (fun u M1 => u = some (.int 1) ∧ ∃ k : Nat, M1 = x_nx M k) := by
  refine x_startH hO (by decide +kernel) (Nat.le_of_ble_eq_true rfl) (fun K C E hT9 => ?_)
  refine x_aload_n C dL_crash_0 rfl rfl ?_
  refine x_iconst (v := 0) C dL_crash_1 (by decide) ?_
  refine x_aload_n C dL_crash_2 rfl rfl ?_
  refine x_iload_n C dL_crash_3 rfl rfl ?_
  refine x_callVC (As := [_]) C hT9 dL_crash_4 kL_68 nL_68 hM (hc 0 _ rfl) rfl rfl rfl hdc ⟨by decide, by decide⟩ (Nat.le_of_ble_eq_true rfl) (pre := []) (suf := [⟨0, 9, 15, 13⟩]) (x := ⟨0, 9, 12, 24⟩) (name := "java/lang/IndexOutOfBoundsException") rfl (fun z h => nomatch h) (by decide) (by decide) cL_l24 cL_c24 (fun q k => ?_)
  refine x_astore_n C dL_crash_12 rfl rfl (by decide) ?_
  refine x_iconst (v := 1) C dL_crash_13 (by decide) ?_
  refine x_iret C E dL_crash_14 ?_
  exact ⟨rfl, k, rfl⟩
theorem lh_crashS {l : Launch} {Y0 : x_Y} (hO : x_Ok Y0) (hX : x_Ex l Y0) {M : x_M} {c w : Nat} {fs : List Value} (hc : x_bk M c [.inr (8, fs)]) {x1 : Int32} {dc : Nat} (hM : x_T l Y0 yX8_crash cX8_crash 2 (some .int) dc 1 6 [.ref c, .int x1] M "java/lang/IllegalStateException") (hdc : dc + 1 ≤ 9) : x_H l Y0 yL_crash cL_crash 4 (some .int) [(0, 9, 12, 24), (0, 9, 15, 13)] 9 1 6 [.ref c, .int x1, .ref w] M (fun u M1 => u = some (.int 2) ∧ ∃ k : Nat, M1 = x_nx M k) := by
  refine x_startH hO (by decide +kernel) (Nat.le_of_ble_eq_true rfl) (fun K C E hT9 => ?_)
  refine x_aload_n C dL_crash_0 rfl rfl ?_
  refine x_iconst (v := 0) C dL_crash_1 (by decide) ?_
  refine x_aload_n C dL_crash_2 rfl rfl ?_
  refine x_iload_n C dL_crash_3 rfl rfl ?_
  refine x_callVC (As := [_]) C hT9 dL_crash_4 kL_68 nL_68 hM (hc 0 _ rfl) rfl rfl rfl hdc ⟨by decide, by decide⟩ (Nat.le_of_ble_eq_true rfl) (pre := [⟨0, 9, 12, 24⟩]) (suf := []) (x := ⟨0, 9, 15, 13⟩) (name := "java/lang/IllegalStateException") rfl (fun z h => by cases List.mem_singleton.mp h; exact Or.inr ⟨by decide, "java/lang/IndexOutOfBoundsException", cL_l24, hX.2.2.2.2.1⟩) (by decide) (by decide) cL_l13 cL_c13 (fun q k => ?_)
  refine x_astore_n C dL_crash_15 rfl rfl (by decide) ?_
  refine x_iconst (v := 2) C dL_crash_16 (by decide) ?_
  refine x_iret C E dL_crash_17 ?_
  exact ⟨rfl, k, rfl⟩
theorem hL_190 : x_LH RL 190 yL_crash cL_crash 4 3 (some .int) [(0, 9, 12, 24), (0, 9, 15, 13)] := ⟨(x_t5 _ (List.mem_of_getElem? (i := 125) (by decide +kernel))), (x_t5 _ (List.mem_of_getElem? (i := 127) (by decide +kernel))), (x_t1 _ (List.mem_of_getElem? (i := 0) (by decide +kernel))), ⟨by decide +kernel, by decide +kernel⟩, by decide +kernel, by decide, (x_t5 _ (List.mem_of_getElem? (i := 126) (by decide +kernel)))⟩
theorem nL_71 : Cond.methodLink RL 71 yX8_wake ∈ lw_tbl := (x_t5 _ (List.mem_of_getElem? (i := 142) (by decide +kernel)))
theorem lh_wake {l : Launch} {Y0 : x_Y} (hO : x_Ok Y0) {M : x_M} {c w : Nat} {fs : List Value} (hc : x_bk M c [.inr (8, fs)]) {x1 : Int32} {r : Int32} {Qm : x_M → Prop} {dc : Nat} (hM : x_C l Y0 yX8_wake cX8_wake 2 (some .int) dc 0 0 [.ref c, .int x1] M (fun u M1 => u = some (.int r) ∧ Qm M1)) (hdc : dc + 1 ≤ 9) (hw : ∀ M1, Qm M1 → ∃ g : Nat → Int64, x_bk M1 w [.inl (1, 1, .inr (.inl g))]) : x_H l Y0 yL_wake cL_wake 4 (some .int) [(0, 9, 12, 24), (0, 9, 15, 13)] 9 1 6 [.ref c, .int x1, .ref w] M (fun u M1 => u = some (.int 0) ∧ ∃ (M2 : x_M) (g : Nat → Int64), Qm M2 ∧ g 0 = r.toInt64 ∧ M1 = x_ov M2 w [.inl (1, 1, .inr (.inl g))]) := by
  refine x_startH hO (by decide +kernel) (Nat.le_of_ble_eq_true rfl) (fun K C E hT9 => ?_)
  refine x_aload_n C dL_wake_0 rfl rfl ?_
  refine x_iconst (v := 0) C dL_wake_1 (by decide) ?_
  refine x_aload_n C dL_wake_2 rfl rfl ?_
  refine x_iload_n C dL_wake_3 rfl rfl ?_
  refine x_callV1 C dL_wake_4 kL_71 hM (hc 0 _ rfl) rfl hdc ⟨Nat.zero_le _, Nat.zero_le _⟩ (Nat.le_of_ble_eq_true rfl) ?_
  rintro _ M1 ⟨rfl, hq⟩
  obtain ⟨g, hg⟩ := hw M1 hq
  refine x_i2l C dL_wake_7 ?_
  refine x_lastore C dL_wake_8 (hg 0 _ rfl) h_in0 ?_
  refine x_goto (tgt := 18) C dL_wake_9 (by decide) ?_
  refine x_iconst (v := 0) C dL_wake_18 (by decide) ?_
  refine x_widen (k := 1) (n := 6) (by decide) (by decide) ?_
  refine x_iret C E dL_wake_19 ?_
  exact ⟨rfl, M1, _, hq, (h_out0 _ _).trans rfl, x_st_ov1⟩
theorem lh_wakeT {l : Launch} {Y0 : x_Y} (hO : x_Ok Y0) {M : x_M} {c w : Nat} {fs : List Value} (hc : x_bk M c [.inr (8, fs)]) {x1 : Int32} {dc : Nat} (hM : x_T l Y0 yX8_wake cX8_wake 2 (some .int) dc 1 6 [.ref c, .int x1] M "java/lang/IndexOutOfBoundsException") (hdc : dc + 1 ≤ 9) : x_H l Y0 yL_wake cL_wake 4 (some .int) [(0, 9, 12, 24), (0, 9, 15, 13)] 9 1 6 [.ref c, .int x1, .ref w] M (fun u M1 => u = some (.int 1) ∧ ∃ k : Nat, M1 = x_nx M k) := by
  refine x_startH hO (by decide +kernel) (Nat.le_of_ble_eq_true rfl) (fun K C E hT9 => ?_)
  refine x_aload_n C dL_wake_0 rfl rfl ?_
  refine x_iconst (v := 0) C dL_wake_1 (by decide) ?_
  refine x_aload_n C dL_wake_2 rfl rfl ?_
  refine x_iload_n C dL_wake_3 rfl rfl ?_
  refine x_callVC (As := [_]) C hT9 dL_wake_4 kL_71 nL_71 hM (hc 0 _ rfl) rfl rfl rfl hdc ⟨by decide, by decide⟩ (Nat.le_of_ble_eq_true rfl) (pre := []) (suf := [⟨0, 9, 15, 13⟩]) (x := ⟨0, 9, 12, 24⟩) (name := "java/lang/IndexOutOfBoundsException") rfl (fun z h => nomatch h) (by decide) (by decide) cL_l24 cL_c24 (fun q k => ?_)
  refine x_astore_n C dL_wake_12 rfl rfl (by decide) ?_
  refine x_iconst (v := 1) C dL_wake_13 (by decide) ?_
  refine x_iret C E dL_wake_14 ?_
  exact ⟨rfl, k, rfl⟩
theorem lh_wakeS {l : Launch} {Y0 : x_Y} (hO : x_Ok Y0) (hX : x_Ex l Y0) {M : x_M} {c w : Nat} {fs : List Value} (hc : x_bk M c [.inr (8, fs)]) {x1 : Int32} {dc : Nat} (hM : x_T l Y0 yX8_wake cX8_wake 2 (some .int) dc 1 6 [.ref c, .int x1] M "java/lang/IllegalStateException") (hdc : dc + 1 ≤ 9) : x_H l Y0 yL_wake cL_wake 4 (some .int) [(0, 9, 12, 24), (0, 9, 15, 13)] 9 1 6 [.ref c, .int x1, .ref w] M (fun u M1 => u = some (.int 2) ∧ ∃ k : Nat, M1 = x_nx M k) := by
  refine x_startH hO (by decide +kernel) (Nat.le_of_ble_eq_true rfl) (fun K C E hT9 => ?_)
  refine x_aload_n C dL_wake_0 rfl rfl ?_
  refine x_iconst (v := 0) C dL_wake_1 (by decide) ?_
  refine x_aload_n C dL_wake_2 rfl rfl ?_
  refine x_iload_n C dL_wake_3 rfl rfl ?_
  refine x_callVC (As := [_]) C hT9 dL_wake_4 kL_71 nL_71 hM (hc 0 _ rfl) rfl rfl rfl hdc ⟨by decide, by decide⟩ (Nat.le_of_ble_eq_true rfl) (pre := [⟨0, 9, 12, 24⟩]) (suf := []) (x := ⟨0, 9, 15, 13⟩) (name := "java/lang/IllegalStateException") rfl (fun z h => by cases List.mem_singleton.mp h; exact Or.inr ⟨by decide, "java/lang/IndexOutOfBoundsException", cL_l24, hX.2.2.2.2.1⟩) (by decide) (by decide) cL_l13 cL_c13 (fun q k => ?_)
  refine x_astore_n C dL_wake_15 rfl rfl (by decide) ?_
  refine x_iconst (v := 2) C dL_wake_16 (by decide) ?_
  refine x_iret C E dL_wake_17 ?_
  exact ⟨rfl, k, rfl⟩
theorem hL_193 : x_LH RL 193 yL_wake cL_wake 4 3 (some .int) [(0, 9, 12, 24), (0, 9, 15, 13)] := ⟨(x_t5 _ (List.mem_of_getElem? (i := 139) (by decide +kernel))), (x_t5 _ (List.mem_of_getElem? (i := 141) (by decide +kernel))), (x_t1 _ (List.mem_of_getElem? (i := 0) (by decide +kernel))), ⟨by decide +kernel, by decide +kernel⟩, by decide +kernel, by decide, (x_t5 _ (List.mem_of_getElem? (i := 140) (by decide +kernel)))⟩
theorem nL_74 : Cond.methodLink RL 74 yX8_crashQueen ∈ lw_tbl := (x_t5 _ (List.mem_of_getElem? (i := 150) (by decide +kernel)))
theorem lh_crashQueen {l : Launch} {Y0 : x_Y} (hO : x_Ok Y0) {M : x_M} {c w : Nat} {fs : List Value} (hc : x_bk M c [.inr (8, fs)]) {r : Int32} {Qm : x_M → Prop} {dc : Nat} (hM : x_C l Y0 yX8_crashQueen cX8_crashQueen 1 (some .int) dc 0 0 [.ref c] M (fun u M1 => u = some (.int r) ∧ Qm M1)) (hdc : dc + 1 ≤ 9) (hw : ∀ M1, Qm M1 → ∃ g : Nat → Int64, x_bk M1 w [.inl (1, 1, .inr (.inl g))]) : x_H l Y0 yL_crashQueen cL_crashQueen 3 (some .int) [(0, 8, 11, 13)] 9 1 6 [.ref c, .ref w] M (fun u M1 => u = some (.int 0) ∧ ∃ (M2 : x_M) (g : Nat → Int64), Qm M2 ∧ g 0 = r.toInt64 ∧ M1 = x_ov M2 w [.inl (1, 1, .inr (.inl g))]) := by
  refine x_startH hO (by decide +kernel) (Nat.le_of_ble_eq_true rfl) (fun K C E hT9 => ?_)
  refine x_aload_n C dL_crashQueen_0 rfl rfl ?_
  refine x_iconst (v := 0) C dL_crashQueen_1 (by decide) ?_
  refine x_aload_n C dL_crashQueen_2 rfl rfl ?_
  refine x_callV0 C dL_crashQueen_3 kL_74 hM (hc 0 _ rfl) rfl hdc ⟨Nat.zero_le _, Nat.zero_le _⟩ (Nat.le_of_ble_eq_true rfl) ?_
  rintro _ M1 ⟨rfl, hq⟩
  obtain ⟨g, hg⟩ := hw M1 hq
  refine x_i2l C dL_crashQueen_6 ?_
  refine x_lastore C dL_crashQueen_7 (hg 0 _ rfl) h_in0 ?_
  refine x_goto (tgt := 14) C dL_crashQueen_8 (by decide) ?_
  refine x_iconst (v := 0) C dL_crashQueen_14 (by decide) ?_
  refine x_widen (k := 1) (n := 6) (by decide) (by decide) ?_
  refine x_iret C E dL_crashQueen_15 ?_
  exact ⟨rfl, M1, _, hq, (h_out0 _ _).trans rfl, x_st_ov1⟩
theorem lh_crashQueenT {l : Launch} {Y0 : x_Y} (hO : x_Ok Y0) {M : x_M} {c w : Nat} {fs : List Value} (hc : x_bk M c [.inr (8, fs)]) {dc : Nat} (hM : x_T l Y0 yX8_crashQueen cX8_crashQueen 1 (some .int) dc 1 6 [.ref c] M "java/lang/IllegalStateException") (hdc : dc + 1 ≤ 9) : x_H l Y0 yL_crashQueen cL_crashQueen 3 (some .int) [(0, 8, 11, 13)] 9 1 6 [.ref c, .ref w] M (fun u M1 => u = some (.int 1) ∧ ∃ k : Nat, M1 = x_nx M k) := by
  refine x_startH hO (by decide +kernel) (Nat.le_of_ble_eq_true rfl) (fun K C E hT9 => ?_)
  refine x_aload_n C dL_crashQueen_0 rfl rfl ?_
  refine x_iconst (v := 0) C dL_crashQueen_1 (by decide) ?_
  refine x_aload_n C dL_crashQueen_2 rfl rfl ?_
  refine x_callVC (As := []) C hT9 dL_crashQueen_3 kL_74 nL_74 hM (hc 0 _ rfl) rfl rfl rfl hdc ⟨by decide, by decide⟩ (Nat.le_of_ble_eq_true rfl) (pre := []) (suf := []) (x := ⟨0, 8, 11, 13⟩) (name := "java/lang/IllegalStateException") rfl (fun z h => nomatch h) (by decide) (by decide) cL_l13 cL_c13 (fun q k => ?_)
  refine x_astore_n C dL_crashQueen_11 rfl rfl (by decide) ?_
  refine x_iconst (v := 1) C dL_crashQueen_12 (by decide) ?_
  refine x_iret C E dL_crashQueen_13 ?_
  exact ⟨rfl, k, rfl⟩
theorem hL_196 : x_LH RL 196 yL_crashQueen cL_crashQueen 3 2 (some .int) [(0, 8, 11, 13)] := ⟨(x_t5 _ (List.mem_of_getElem? (i := 147) (by decide +kernel))), (x_t5 _ (List.mem_of_getElem? (i := 149) (by decide +kernel))), (x_t1 _ (List.mem_of_getElem? (i := 0) (by decide +kernel))), ⟨by decide +kernel, by decide +kernel⟩, by decide +kernel, by decide, (x_t5 _ (List.mem_of_getElem? (i := 148) (by decide +kernel)))⟩
theorem nL_78 : Cond.methodLink RL 78 yX8_wakeQueen ∈ lw_tbl := (x_t5 _ (List.mem_of_getElem? (i := 158) (by decide +kernel)))
theorem lh_wakeQueen {l : Launch} {Y0 : x_Y} (hO : x_Ok Y0) {M : x_M} {c w : Nat} {fs : List Value} (hc : x_bk M c [.inr (8, fs)]) {r : Int32} {Qm : x_M → Prop} {dc : Nat} (hM : x_C l Y0 yX8_wakeQueen cX8_wakeQueen 2 (some .int) dc 0 0 [.ref c] M (fun u M1 => u = some (.int r) ∧ Qm M1)) (hdc : dc + 1 ≤ 9) (hw : ∀ M1, Qm M1 → ∃ g : Nat → Int64, x_bk M1 w [.inl (1, 1, .inr (.inl g))]) : x_H l Y0 yL_wakeQueen cL_wakeQueen 3 (some .int) [(0, 8, 11, 13)] 9 1 6 [.ref c, .ref w] M (fun u M1 => u = some (.int 0) ∧ ∃ (M2 : x_M) (g : Nat → Int64), Qm M2 ∧ g 0 = r.toInt64 ∧ M1 = x_ov M2 w [.inl (1, 1, .inr (.inl g))]) := by
  refine x_startH hO (by decide +kernel) (Nat.le_of_ble_eq_true rfl) (fun K C E hT9 => ?_)
  refine x_aload_n C dL_wakeQueen_0 rfl rfl ?_
  refine x_iconst (v := 0) C dL_wakeQueen_1 (by decide) ?_
  refine x_aload_n C dL_wakeQueen_2 rfl rfl ?_
  refine x_callV0 C dL_wakeQueen_3 kL_78 hM (hc 0 _ rfl) rfl hdc ⟨Nat.zero_le _, Nat.zero_le _⟩ (Nat.le_of_ble_eq_true rfl) ?_
  rintro _ M1 ⟨rfl, hq⟩
  obtain ⟨g, hg⟩ := hw M1 hq
  refine x_i2l C dL_wakeQueen_6 ?_
  refine x_lastore C dL_wakeQueen_7 (hg 0 _ rfl) h_in0 ?_
  refine x_goto (tgt := 14) C dL_wakeQueen_8 (by decide) ?_
  refine x_iconst (v := 0) C dL_wakeQueen_14 (by decide) ?_
  refine x_widen (k := 1) (n := 6) (by decide) (by decide) ?_
  refine x_iret C E dL_wakeQueen_15 ?_
  exact ⟨rfl, M1, _, hq, (h_out0 _ _).trans rfl, x_st_ov1⟩
theorem lh_wakeQueenT {l : Launch} {Y0 : x_Y} (hO : x_Ok Y0) {M : x_M} {c w : Nat} {fs : List Value} (hc : x_bk M c [.inr (8, fs)]) {dc : Nat} (hM : x_T l Y0 yX8_wakeQueen cX8_wakeQueen 2 (some .int) dc 1 6 [.ref c] M "java/lang/IllegalStateException") (hdc : dc + 1 ≤ 9) : x_H l Y0 yL_wakeQueen cL_wakeQueen 3 (some .int) [(0, 8, 11, 13)] 9 1 6 [.ref c, .ref w] M (fun u M1 => u = some (.int 1) ∧ ∃ k : Nat, M1 = x_nx M k) := by
  refine x_startH hO (by decide +kernel) (Nat.le_of_ble_eq_true rfl) (fun K C E hT9 => ?_)
  refine x_aload_n C dL_wakeQueen_0 rfl rfl ?_
  refine x_iconst (v := 0) C dL_wakeQueen_1 (by decide) ?_
  refine x_aload_n C dL_wakeQueen_2 rfl rfl ?_
  refine x_callVC (As := []) C hT9 dL_wakeQueen_3 kL_78 nL_78 hM (hc 0 _ rfl) rfl rfl rfl hdc ⟨by decide, by decide⟩ (Nat.le_of_ble_eq_true rfl) (pre := []) (suf := []) (x := ⟨0, 8, 11, 13⟩) (name := "java/lang/IllegalStateException") rfl (fun z h => nomatch h) (by decide) (by decide) cL_l13 cL_c13 (fun q k => ?_)
  refine x_astore_n C dL_wakeQueen_11 rfl rfl (by decide) ?_
  refine x_iconst (v := 1) C dL_wakeQueen_12 (by decide) ?_
  refine x_iret C E dL_wakeQueen_13 ?_
  exact ⟨rfl, k, rfl⟩
theorem hL_200 : x_LH RL 200 yL_wakeQueen cL_wakeQueen 3 2 (some .int) [(0, 8, 11, 13)] := ⟨(x_t5 _ (List.mem_of_getElem? (i := 155) (by decide +kernel))), (x_t5 _ (List.mem_of_getElem? (i := 157) (by decide +kernel))), (x_t1 _ (List.mem_of_getElem? (i := 0) (by decide +kernel))), ⟨by decide +kernel, by decide +kernel⟩, by decide +kernel, by decide, (x_t5 _ (List.mem_of_getElem? (i := 156) (by decide +kernel)))⟩
theorem nL_81 : Cond.methodLink RL 81 yX8_passDays ∈ lw_tbl := (x_t5 _ (List.mem_of_getElem? (i := 166) (by decide +kernel)))
theorem lh_passDays {l : Launch} {Y0 : x_Y} (hO : x_Ok Y0) {M : x_M} {c w : Nat} {fs : List Value} (hc : x_bk M c [.inr (8, fs)]) {x1 : Int32} {r : Int32} {Qm : x_M → Prop} {dc : Nat} (hM : x_C l Y0 yX8_passDays cX8_passDays 4 (some .int) dc 0 0 [.ref c, .int x1] M (fun u M1 => u = some (.int r) ∧ Qm M1)) (hdc : dc + 1 ≤ 9) (hw : ∀ M1, Qm M1 → ∃ g : Nat → Int64, x_bk M1 w [.inl (1, 1, .inr (.inl g))]) : x_H l Y0 yL_passDays cL_passDays 4 (some .int) [(0, 9, 12, 19)] 9 1 6 [.ref c, .int x1, .ref w] M (fun u M1 => u = some (.int 0) ∧ ∃ (M2 : x_M) (g : Nat → Int64), Qm M2 ∧ g 0 = r.toInt64 ∧ M1 = x_ov M2 w [.inl (1, 1, .inr (.inl g))]) := by
  refine x_startH hO (by decide +kernel) (Nat.le_of_ble_eq_true rfl) (fun K C E hT9 => ?_)
  refine x_aload_n C dL_passDays_0 rfl rfl ?_
  refine x_iconst (v := 0) C dL_passDays_1 (by decide) ?_
  refine x_aload_n C dL_passDays_2 rfl rfl ?_
  refine x_iload_n C dL_passDays_3 rfl rfl ?_
  refine x_callV1 C dL_passDays_4 kL_81 hM (hc 0 _ rfl) rfl hdc ⟨Nat.zero_le _, Nat.zero_le _⟩ (Nat.le_of_ble_eq_true rfl) ?_
  rintro _ M1 ⟨rfl, hq⟩
  obtain ⟨g, hg⟩ := hw M1 hq
  refine x_i2l C dL_passDays_7 ?_
  refine x_lastore C dL_passDays_8 (hg 0 _ rfl) h_in0 ?_
  refine x_goto (tgt := 15) C dL_passDays_9 (by decide) ?_
  refine x_iconst (v := 0) C dL_passDays_15 (by decide) ?_
  refine x_widen (k := 1) (n := 6) (by decide) (by decide) ?_
  refine x_iret C E dL_passDays_16 ?_
  exact ⟨rfl, M1, _, hq, (h_out0 _ _).trans rfl, x_st_ov1⟩
theorem lh_passDaysT {l : Launch} {Y0 : x_Y} (hO : x_Ok Y0) {M : x_M} {c w : Nat} {fs : List Value} (hc : x_bk M c [.inr (8, fs)]) {x1 : Int32} {dc : Nat} (hM : x_T l Y0 yX8_passDays cX8_passDays 4 (some .int) dc 1 6 [.ref c, .int x1] M "java/lang/IllegalArgumentException") (hdc : dc + 1 ≤ 9) : x_H l Y0 yL_passDays cL_passDays 4 (some .int) [(0, 9, 12, 19)] 9 1 6 [.ref c, .int x1, .ref w] M (fun u M1 => u = some (.int 1) ∧ ∃ k : Nat, M1 = x_nx M k) := by
  refine x_startH hO (by decide +kernel) (Nat.le_of_ble_eq_true rfl) (fun K C E hT9 => ?_)
  refine x_aload_n C dL_passDays_0 rfl rfl ?_
  refine x_iconst (v := 0) C dL_passDays_1 (by decide) ?_
  refine x_aload_n C dL_passDays_2 rfl rfl ?_
  refine x_iload_n C dL_passDays_3 rfl rfl ?_
  refine x_callVC (As := [_]) C hT9 dL_passDays_4 kL_81 nL_81 hM (hc 0 _ rfl) rfl rfl rfl hdc ⟨by decide, by decide⟩ (Nat.le_of_ble_eq_true rfl) (pre := []) (suf := []) (x := ⟨0, 9, 12, 19⟩) (name := "java/lang/IllegalArgumentException") rfl (fun z h => nomatch h) (by decide) (by decide) cL_l19 cL_c19 (fun q k => ?_)
  refine x_astore_n C dL_passDays_12 rfl rfl (by decide) ?_
  refine x_iconst (v := 1) C dL_passDays_13 (by decide) ?_
  refine x_iret C E dL_passDays_14 ?_
  exact ⟨rfl, k, rfl⟩
theorem hL_203 : x_LH RL 203 yL_passDays cL_passDays 4 3 (some .int) [(0, 9, 12, 19)] := ⟨(x_t5 _ (List.mem_of_getElem? (i := 163) (by decide +kernel))), (x_t5 _ (List.mem_of_getElem? (i := 165) (by decide +kernel))), (x_t1 _ (List.mem_of_getElem? (i := 0) (by decide +kernel))), ⟨by decide +kernel, by decide +kernel⟩, by decide +kernel, by decide, (x_t5 _ (List.mem_of_getElem? (i := 164) (by decide +kernel)))⟩
theorem nL_84 : Cond.methodLink RL 84 yX8_honeyAfter ∈ lw_tbl := (x_t5 _ (List.mem_of_getElem? (i := 177) (by decide +kernel)))
theorem lh_honeyAfter {l : Launch} {Y0 : x_Y} (hO : x_Ok Y0) {M : x_M} {c w : Nat} {fs : List Value} (hc : x_bk M c [.inr (8, fs)]) {x1 x2 : Int32} {r : Int32} {Qm : x_M → Prop} {dc : Nat} (hM : x_C l Y0 yX8_honeyAfter cX8_honeyAfter 3 (some .int) dc 0 0 [.ref c, .int x1, .int x2] M (fun u M1 => u = some (.int r) ∧ Qm M1)) (hdc : dc + 1 ≤ 9) (hw : ∀ M1, Qm M1 → ∃ g : Nat → Int64, x_bk M1 w [.inl (1, 1, .inr (.inl g))]) : x_H l Y0 yL_honeyAfter cL_honeyAfter 5 (some .int) [(0, 10, 13, 24), (0, 10, 17, 19)] 9 1 6 [.ref c, .int x1, .int x2, .ref w] M (fun u M1 => u = some (.int 0) ∧ ∃ (M2 : x_M) (g : Nat → Int64), Qm M2 ∧ g 0 = r.toInt64 ∧ M1 = x_ov M2 w [.inl (1, 1, .inr (.inl g))]) := by
  refine x_startH hO (by decide +kernel) (Nat.le_of_ble_eq_true rfl) (fun K C E hT9 => ?_)
  refine x_aload_n C dL_honeyAfter_0 rfl rfl ?_
  refine x_iconst (v := 0) C dL_honeyAfter_1 (by decide) ?_
  refine x_aload_n C dL_honeyAfter_2 rfl rfl ?_
  refine x_iload_n C dL_honeyAfter_3 rfl rfl ?_
  refine x_iload_n C dL_honeyAfter_4 rfl rfl ?_
  refine x_callV2 C dL_honeyAfter_5 kL_84 hM (hc 0 _ rfl) rfl hdc ⟨Nat.zero_le _, Nat.zero_le _⟩ (Nat.le_of_ble_eq_true rfl) ?_
  rintro _ M1 ⟨rfl, hq⟩
  obtain ⟨g, hg⟩ := hw M1 hq
  refine x_i2l C dL_honeyAfter_8 ?_
  refine x_lastore C dL_honeyAfter_9 (hg 0 _ rfl) h_in0 ?_
  refine x_goto (tgt := 21) C dL_honeyAfter_10 (by decide) ?_
  refine x_iconst (v := 0) C dL_honeyAfter_21 (by decide) ?_
  refine x_widen (k := 1) (n := 6) (by decide) (by decide) ?_
  refine x_iret C E dL_honeyAfter_22 ?_
  exact ⟨rfl, M1, _, hq, (h_out0 _ _).trans rfl, x_st_ov1⟩
theorem lh_honeyAfterT {l : Launch} {Y0 : x_Y} (hO : x_Ok Y0) {M : x_M} {c w : Nat} {fs : List Value} (hc : x_bk M c [.inr (8, fs)]) {x1 x2 : Int32} {dc : Nat} (hM : x_T l Y0 yX8_honeyAfter cX8_honeyAfter 3 (some .int) dc 1 6 [.ref c, .int x1, .int x2] M "java/lang/IndexOutOfBoundsException") (hdc : dc + 1 ≤ 9) : x_H l Y0 yL_honeyAfter cL_honeyAfter 5 (some .int) [(0, 10, 13, 24), (0, 10, 17, 19)] 9 1 6 [.ref c, .int x1, .int x2, .ref w] M (fun u M1 => u = some (.int 1) ∧ ∃ k : Nat, M1 = x_nx M k) := by
  refine x_startH hO (by decide +kernel) (Nat.le_of_ble_eq_true rfl) (fun K C E hT9 => ?_)
  refine x_aload_n C dL_honeyAfter_0 rfl rfl ?_
  refine x_iconst (v := 0) C dL_honeyAfter_1 (by decide) ?_
  refine x_aload_n C dL_honeyAfter_2 rfl rfl ?_
  refine x_iload_n C dL_honeyAfter_3 rfl rfl ?_
  refine x_iload_n C dL_honeyAfter_4 rfl rfl ?_
  refine x_callVC (As := [_, _]) C hT9 dL_honeyAfter_5 kL_84 nL_84 hM (hc 0 _ rfl) rfl rfl rfl hdc ⟨by decide, by decide⟩ (Nat.le_of_ble_eq_true rfl) (pre := []) (suf := [⟨0, 10, 17, 19⟩]) (x := ⟨0, 10, 13, 24⟩) (name := "java/lang/IndexOutOfBoundsException") rfl (fun z h => nomatch h) (by decide) (by decide) cL_l24 cL_c24 (fun q k => ?_)
  refine x_astore C dL_honeyAfter_13 rfl (by decide) ?_
  refine x_iconst (v := 1) C dL_honeyAfter_15 (by decide) ?_
  refine x_iret C E dL_honeyAfter_16 ?_
  exact ⟨rfl, k, rfl⟩
theorem lh_honeyAfterS {l : Launch} {Y0 : x_Y} (hO : x_Ok Y0) (hX : x_Ex l Y0) {M : x_M} {c w : Nat} {fs : List Value} (hc : x_bk M c [.inr (8, fs)]) {x1 x2 : Int32} {dc : Nat} (hM : x_T l Y0 yX8_honeyAfter cX8_honeyAfter 3 (some .int) dc 1 6 [.ref c, .int x1, .int x2] M "java/lang/IllegalArgumentException") (hdc : dc + 1 ≤ 9) : x_H l Y0 yL_honeyAfter cL_honeyAfter 5 (some .int) [(0, 10, 13, 24), (0, 10, 17, 19)] 9 1 6 [.ref c, .int x1, .int x2, .ref w] M (fun u M1 => u = some (.int 2) ∧ ∃ k : Nat, M1 = x_nx M k) := by
  refine x_startH hO (by decide +kernel) (Nat.le_of_ble_eq_true rfl) (fun K C E hT9 => ?_)
  refine x_aload_n C dL_honeyAfter_0 rfl rfl ?_
  refine x_iconst (v := 0) C dL_honeyAfter_1 (by decide) ?_
  refine x_aload_n C dL_honeyAfter_2 rfl rfl ?_
  refine x_iload_n C dL_honeyAfter_3 rfl rfl ?_
  refine x_iload_n C dL_honeyAfter_4 rfl rfl ?_
  refine x_callVC (As := [_, _]) C hT9 dL_honeyAfter_5 kL_84 nL_84 hM (hc 0 _ rfl) rfl rfl rfl hdc ⟨by decide, by decide⟩ (Nat.le_of_ble_eq_true rfl) (pre := [⟨0, 10, 13, 24⟩]) (suf := []) (x := ⟨0, 10, 17, 19⟩) (name := "java/lang/IllegalArgumentException") rfl (fun z h => by cases List.mem_singleton.mp h; exact Or.inr ⟨by decide, "java/lang/IndexOutOfBoundsException", cL_l24, hX.2.2.2.2.2⟩) (by decide) (by decide) cL_l19 cL_c19 (fun q k => ?_)
  refine x_astore C dL_honeyAfter_17 rfl (by decide) ?_
  refine x_iconst (v := 2) C dL_honeyAfter_19 (by decide) ?_
  refine x_iret C E dL_honeyAfter_20 ?_
  exact ⟨rfl, k, rfl⟩
theorem hL_206 : x_LH RL 206 yL_honeyAfter cL_honeyAfter 5 4 (some .int) [(0, 10, 13, 24), (0, 10, 17, 19)] := ⟨(x_t5 _ (List.mem_of_getElem? (i := 174) (by decide +kernel))), (x_t5 _ (List.mem_of_getElem? (i := 176) (by decide +kernel))), (x_t1 _ (List.mem_of_getElem? (i := 0) (by decide +kernel))), ⟨by decide +kernel, by decide +kernel⟩, by decide +kernel, by decide, (x_t5 _ (List.mem_of_getElem? (i := 175) (by decide +kernel)))⟩
theorem nL_87 : Cond.methodLink RL 87 yX8_stateAfter ∈ lw_tbl := (x_t5 _ (List.mem_of_getElem? (i := 188) (by decide +kernel)))
theorem lh_stateAfter {l : Launch} {Y0 : x_Y} (hO : x_Ok Y0) {M : x_M} {c w : Nat} {fs : List Value} (hc : x_bk M c [.inr (8, fs)]) {x1 x2 : Int32} {r : Int32} {Qm : x_M → Prop} {dc : Nat} (hM : x_C l Y0 yX8_stateAfter cX8_stateAfter 3 (some .int) dc 0 0 [.ref c, .int x1, .int x2] M (fun u M1 => u = some (.int r) ∧ Qm M1)) (hdc : dc + 1 ≤ 9) (hw : ∀ M1, Qm M1 → ∃ g : Nat → Int64, x_bk M1 w [.inl (1, 1, .inr (.inl g))]) : x_H l Y0 yL_stateAfter cL_stateAfter 5 (some .int) [(0, 10, 13, 24), (0, 10, 17, 19)] 9 1 6 [.ref c, .int x1, .int x2, .ref w] M (fun u M1 => u = some (.int 0) ∧ ∃ (M2 : x_M) (g : Nat → Int64), Qm M2 ∧ g 0 = r.toInt64 ∧ M1 = x_ov M2 w [.inl (1, 1, .inr (.inl g))]) := by
  refine x_startH hO (by decide +kernel) (Nat.le_of_ble_eq_true rfl) (fun K C E hT9 => ?_)
  refine x_aload_n C dL_stateAfter_0 rfl rfl ?_
  refine x_iconst (v := 0) C dL_stateAfter_1 (by decide) ?_
  refine x_aload_n C dL_stateAfter_2 rfl rfl ?_
  refine x_iload_n C dL_stateAfter_3 rfl rfl ?_
  refine x_iload_n C dL_stateAfter_4 rfl rfl ?_
  refine x_callV2 C dL_stateAfter_5 kL_87 hM (hc 0 _ rfl) rfl hdc ⟨Nat.zero_le _, Nat.zero_le _⟩ (Nat.le_of_ble_eq_true rfl) ?_
  rintro _ M1 ⟨rfl, hq⟩
  obtain ⟨g, hg⟩ := hw M1 hq
  refine x_i2l C dL_stateAfter_8 ?_
  refine x_lastore C dL_stateAfter_9 (hg 0 _ rfl) h_in0 ?_
  refine x_goto (tgt := 21) C dL_stateAfter_10 (by decide) ?_
  refine x_iconst (v := 0) C dL_stateAfter_21 (by decide) ?_
  refine x_widen (k := 1) (n := 6) (by decide) (by decide) ?_
  refine x_iret C E dL_stateAfter_22 ?_
  exact ⟨rfl, M1, _, hq, (h_out0 _ _).trans rfl, x_st_ov1⟩
theorem lh_stateAfterT {l : Launch} {Y0 : x_Y} (hO : x_Ok Y0) {M : x_M} {c w : Nat} {fs : List Value} (hc : x_bk M c [.inr (8, fs)]) {x1 x2 : Int32} {dc : Nat} (hM : x_T l Y0 yX8_stateAfter cX8_stateAfter 3 (some .int) dc 1 6 [.ref c, .int x1, .int x2] M "java/lang/IndexOutOfBoundsException") (hdc : dc + 1 ≤ 9) : x_H l Y0 yL_stateAfter cL_stateAfter 5 (some .int) [(0, 10, 13, 24), (0, 10, 17, 19)] 9 1 6 [.ref c, .int x1, .int x2, .ref w] M (fun u M1 => u = some (.int 1) ∧ ∃ k : Nat, M1 = x_nx M k) := by
  refine x_startH hO (by decide +kernel) (Nat.le_of_ble_eq_true rfl) (fun K C E hT9 => ?_)
  refine x_aload_n C dL_stateAfter_0 rfl rfl ?_
  refine x_iconst (v := 0) C dL_stateAfter_1 (by decide) ?_
  refine x_aload_n C dL_stateAfter_2 rfl rfl ?_
  refine x_iload_n C dL_stateAfter_3 rfl rfl ?_
  refine x_iload_n C dL_stateAfter_4 rfl rfl ?_
  refine x_callVC (As := [_, _]) C hT9 dL_stateAfter_5 kL_87 nL_87 hM (hc 0 _ rfl) rfl rfl rfl hdc ⟨by decide, by decide⟩ (Nat.le_of_ble_eq_true rfl) (pre := []) (suf := [⟨0, 10, 17, 19⟩]) (x := ⟨0, 10, 13, 24⟩) (name := "java/lang/IndexOutOfBoundsException") rfl (fun z h => nomatch h) (by decide) (by decide) cL_l24 cL_c24 (fun q k => ?_)
  refine x_astore C dL_stateAfter_13 rfl (by decide) ?_
  refine x_iconst (v := 1) C dL_stateAfter_15 (by decide) ?_
  refine x_iret C E dL_stateAfter_16 ?_
  exact ⟨rfl, k, rfl⟩
theorem lh_stateAfterS {l : Launch} {Y0 : x_Y} (hO : x_Ok Y0) (hX : x_Ex l Y0) {M : x_M} {c w : Nat} {fs : List Value} (hc : x_bk M c [.inr (8, fs)]) {x1 x2 : Int32} {dc : Nat} (hM : x_T l Y0 yX8_stateAfter cX8_stateAfter 3 (some .int) dc 1 6 [.ref c, .int x1, .int x2] M "java/lang/IllegalArgumentException") (hdc : dc + 1 ≤ 9) : x_H l Y0 yL_stateAfter cL_stateAfter 5 (some .int) [(0, 10, 13, 24), (0, 10, 17, 19)] 9 1 6 [.ref c, .int x1, .int x2, .ref w] M (fun u M1 => u = some (.int 2) ∧ ∃ k : Nat, M1 = x_nx M k) := by
  refine x_startH hO (by decide +kernel) (Nat.le_of_ble_eq_true rfl) (fun K C E hT9 => ?_)
  refine x_aload_n C dL_stateAfter_0 rfl rfl ?_
  refine x_iconst (v := 0) C dL_stateAfter_1 (by decide) ?_
  refine x_aload_n C dL_stateAfter_2 rfl rfl ?_
  refine x_iload_n C dL_stateAfter_3 rfl rfl ?_
  refine x_iload_n C dL_stateAfter_4 rfl rfl ?_
  refine x_callVC (As := [_, _]) C hT9 dL_stateAfter_5 kL_87 nL_87 hM (hc 0 _ rfl) rfl rfl rfl hdc ⟨by decide, by decide⟩ (Nat.le_of_ble_eq_true rfl) (pre := [⟨0, 10, 13, 24⟩]) (suf := []) (x := ⟨0, 10, 17, 19⟩) (name := "java/lang/IllegalArgumentException") rfl (fun z h => by cases List.mem_singleton.mp h; exact Or.inr ⟨by decide, "java/lang/IndexOutOfBoundsException", cL_l24, hX.2.2.2.2.2⟩) (by decide) (by decide) cL_l19 cL_c19 (fun q k => ?_)
  refine x_astore C dL_stateAfter_17 rfl (by decide) ?_
  refine x_iconst (v := 2) C dL_stateAfter_19 (by decide) ?_
  refine x_iret C E dL_stateAfter_20 ?_
  exact ⟨rfl, k, rfl⟩
theorem hL_209 : x_LH RL 209 yL_stateAfter cL_stateAfter 5 4 (some .int) [(0, 10, 13, 24), (0, 10, 17, 19)] := ⟨(x_t5 _ (List.mem_of_getElem? (i := 185) (by decide +kernel))), (x_t5 _ (List.mem_of_getElem? (i := 187) (by decide +kernel))), (x_t1 _ (List.mem_of_getElem? (i := 0) (by decide +kernel))), ⟨by decide +kernel, by decide +kernel⟩, by decide +kernel, by decide, (x_t5 _ (List.mem_of_getElem? (i := 186) (by decide +kernel)))⟩
theorem nL_90 : Cond.methodLink RL 90 yX8_daysUntilFree ∈ lw_tbl := (x_t5 _ (List.mem_of_getElem? (i := 195) (by decide +kernel)))
theorem lh_daysUntilFree {l : Launch} {Y0 : x_Y} (hO : x_Ok Y0) {M : x_M} {c w : Nat} {fs : List Value} (hc : x_bk M c [.inr (8, fs)]) {x1 : Int32} {r : Int32} {Qm : x_M → Prop} {dc : Nat} (hM : x_C l Y0 yX8_daysUntilFree cX8_daysUntilFree 3 (some .int) dc 0 0 [.ref c, .int x1] M (fun u M1 => u = some (.int r) ∧ Qm M1)) (hdc : dc + 1 ≤ 9) (hw : ∀ M1, Qm M1 → ∃ g : Nat → Int64, x_bk M1 w [.inl (1, 1, .inr (.inl g))]) : x_H l Y0 yL_daysUntilFree cL_daysUntilFree 4 (some .int) [(0, 9, 12, 24)] 9 1 6 [.ref c, .int x1, .ref w] M (fun u M1 => u = some (.int 0) ∧ ∃ (M2 : x_M) (g : Nat → Int64), Qm M2 ∧ g 0 = r.toInt64 ∧ M1 = x_ov M2 w [.inl (1, 1, .inr (.inl g))]) := by
  refine x_startH hO (by decide +kernel) (Nat.le_of_ble_eq_true rfl) (fun K C E hT9 => ?_)
  refine x_aload_n C dL_daysUntilFree_0 rfl rfl ?_
  refine x_iconst (v := 0) C dL_daysUntilFree_1 (by decide) ?_
  refine x_aload_n C dL_daysUntilFree_2 rfl rfl ?_
  refine x_iload_n C dL_daysUntilFree_3 rfl rfl ?_
  refine x_callV1 C dL_daysUntilFree_4 kL_90 hM (hc 0 _ rfl) rfl hdc ⟨Nat.zero_le _, Nat.zero_le _⟩ (Nat.le_of_ble_eq_true rfl) ?_
  rintro _ M1 ⟨rfl, hq⟩
  obtain ⟨g, hg⟩ := hw M1 hq
  refine x_i2l C dL_daysUntilFree_7 ?_
  refine x_lastore C dL_daysUntilFree_8 (hg 0 _ rfl) h_in0 ?_
  refine x_goto (tgt := 15) C dL_daysUntilFree_9 (by decide) ?_
  refine x_iconst (v := 0) C dL_daysUntilFree_15 (by decide) ?_
  refine x_widen (k := 1) (n := 6) (by decide) (by decide) ?_
  refine x_iret C E dL_daysUntilFree_16 ?_
  exact ⟨rfl, M1, _, hq, (h_out0 _ _).trans rfl, x_st_ov1⟩
theorem lh_daysUntilFreeT {l : Launch} {Y0 : x_Y} (hO : x_Ok Y0) {M : x_M} {c w : Nat} {fs : List Value} (hc : x_bk M c [.inr (8, fs)]) {x1 : Int32} {dc : Nat} (hM : x_T l Y0 yX8_daysUntilFree cX8_daysUntilFree 3 (some .int) dc 1 6 [.ref c, .int x1] M "java/lang/IndexOutOfBoundsException") (hdc : dc + 1 ≤ 9) : x_H l Y0 yL_daysUntilFree cL_daysUntilFree 4 (some .int) [(0, 9, 12, 24)] 9 1 6 [.ref c, .int x1, .ref w] M (fun u M1 => u = some (.int 1) ∧ ∃ k : Nat, M1 = x_nx M k) := by
  refine x_startH hO (by decide +kernel) (Nat.le_of_ble_eq_true rfl) (fun K C E hT9 => ?_)
  refine x_aload_n C dL_daysUntilFree_0 rfl rfl ?_
  refine x_iconst (v := 0) C dL_daysUntilFree_1 (by decide) ?_
  refine x_aload_n C dL_daysUntilFree_2 rfl rfl ?_
  refine x_iload_n C dL_daysUntilFree_3 rfl rfl ?_
  refine x_callVC (As := [_]) C hT9 dL_daysUntilFree_4 kL_90 nL_90 hM (hc 0 _ rfl) rfl rfl rfl hdc ⟨by decide, by decide⟩ (Nat.le_of_ble_eq_true rfl) (pre := []) (suf := []) (x := ⟨0, 9, 12, 24⟩) (name := "java/lang/IndexOutOfBoundsException") rfl (fun z h => nomatch h) (by decide) (by decide) cL_l24 cL_c24 (fun q k => ?_)
  refine x_astore_n C dL_daysUntilFree_12 rfl rfl (by decide) ?_
  refine x_iconst (v := 1) C dL_daysUntilFree_13 (by decide) ?_
  refine x_iret C E dL_daysUntilFree_14 ?_
  exact ⟨rfl, k, rfl⟩
theorem hL_212 : x_LH RL 212 yL_daysUntilFree cL_daysUntilFree 4 3 (some .int) [(0, 9, 12, 24)] := ⟨(x_t5 _ (List.mem_of_getElem? (i := 192) (by decide +kernel))), (x_t5 _ (List.mem_of_getElem? (i := 194) (by decide +kernel))), (x_t1 _ (List.mem_of_getElem? (i := 0) (by decide +kernel))), ⟨by decide +kernel, by decide +kernel⟩, by decide +kernel, by decide, (x_t5 _ (List.mem_of_getElem? (i := 193) (by decide +kernel)))⟩
