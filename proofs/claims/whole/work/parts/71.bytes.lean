/-- the byte at a place of the tape, -1 behind its end -/
def r_by (f : Nat → Int32) (n i : Nat) : Int32 := if i < n then f i else -1
set_option maxHeartbeats 4000000 in
set_option maxRecDepth 100000 in
theorem c_X11_isLetter {l : Launch} {Y0 : x_Y} (hO : x_Ok Y0) {M : x_M} {x : Int32} : x_C l Y0 yX11_isLetter cX11_isLetter 1 (some .boolean) 1 0 0 [.int x] M (fun u M1 => u = some (.int (h_b (k_isL x))) ∧ M1 = M) := by
  refine x_start hO (by decide +kernel) (Nat.le_of_ble_eq_true rfl) (fun K C E => ?_)
  refine x_iload_n C dX11_isLetter_0 rfl rfl ?_
  refine x_bipush (v := 97) C dX11_isLetter_1 (by decide) ?_
  refine x_icmp_lt (tgt := 16) C dX11_isLetter_3 (by decide) (fun c3 => ?_) (fun c3 => ?_)
  · refine x_iconst (v := 0) C dX11_isLetter_16 (by decide) ?_
    refine x_zret C E dX11_isLetter_17 rfl ?_
    exact ⟨by simp [k_isL, h_b, c3], rfl⟩
  · refine x_iload_n C dX11_isLetter_6 rfl rfl ?_
    refine x_bipush (v := 122) C dX11_isLetter_7 (by decide) ?_
    refine x_icmp_gt (tgt := 16) C dX11_isLetter_9 (by decide) (fun c9 => ?_) (fun c9 => ?_)
    · refine x_iconst (v := 0) C dX11_isLetter_16 (by decide) ?_
      refine x_zret C E dX11_isLetter_17 rfl ?_
      exact ⟨by simp [k_isL, h_b, c3, c9], rfl⟩
    · refine x_iconst (v := 1) C dX11_isLetter_12 (by decide) ?_
      refine x_goto (tgt := 17) C dX11_isLetter_13 (by decide) ?_
      refine x_zret C E dX11_isLetter_17 rfl ?_
      exact ⟨by simp [k_isL, h_b, c3, c9], rfl⟩
set_option maxHeartbeats 4000000 in
set_option maxRecDepth 100000 in
theorem c_X11_isDigit {l : Launch} {Y0 : x_Y} (hO : x_Ok Y0) {M : x_M} {x : Int32} : x_C l Y0 yX11_isDigit cX11_isDigit 1 (some .boolean) 1 0 0 [.int x] M (fun u M1 => u = some (.int (h_b (k_isD x))) ∧ M1 = M) := by
  refine x_start hO (by decide +kernel) (Nat.le_of_ble_eq_true rfl) (fun K C E => ?_)
  refine x_iload_n C dX11_isDigit_0 rfl rfl ?_
  refine x_bipush (v := 48) C dX11_isDigit_1 (by decide) ?_
  refine x_icmp_lt (tgt := 16) C dX11_isDigit_3 (by decide) (fun c3 => ?_) (fun c3 => ?_)
  · refine x_iconst (v := 0) C dX11_isDigit_16 (by decide) ?_
    refine x_zret C E dX11_isDigit_17 rfl ?_
    exact ⟨by simp [k_isD, h_b, c3], rfl⟩
  · refine x_iload_n C dX11_isDigit_6 rfl rfl ?_
    refine x_bipush (v := 57) C dX11_isDigit_7 (by decide) ?_
    refine x_icmp_gt (tgt := 16) C dX11_isDigit_9 (by decide) (fun c9 => ?_) (fun c9 => ?_)
    · refine x_iconst (v := 0) C dX11_isDigit_16 (by decide) ?_
      refine x_zret C E dX11_isDigit_17 rfl ?_
      exact ⟨by simp [k_isD, h_b, c3, c9], rfl⟩
    · refine x_iconst (v := 1) C dX11_isDigit_12 (by decide) ?_
      refine x_goto (tgt := 17) C dX11_isDigit_13 (by decide) ?_
      refine x_zret C E dX11_isDigit_17 rfl ?_
      exact ⟨by simp [k_isD, h_b, c3, c9], rfl⟩
set_option maxHeartbeats 4000000 in
set_option maxRecDepth 100000 in
theorem c_X11_byteOf {l : Launch} {Y0 : x_Y} (hO : x_Ok Y0) {M : x_M} {o r n x : Nat} {Ev : rE} {R : rS} (hb : rB M o r Ev R) (hn : Ev.1.1.2.1 = nI n) (hn2 : n ≤ 2000) (hx : x < 2 ^ 20) : x_C l Y0 yX11_byteOf cX11_byteOf 2 (some .int) 1 0 0 [.ref o, .int (nI x)] M (fun u M1 => u = some (.int (r_by (Ev.2 20) n x)) ∧ M1 = M) := by
  refine x_start hO (by decide +kernel) (Nat.le_of_ble_eq_true rfl) (fun K C E => ?_)
  refine x_iload_n C dX11_byteOf_0 rfl rfl ?_
  refine x_aload_n C dX11_byteOf_1 rfl rfl ?_
  refine x_getfield C dX11_byteOf_2 fX11_93 (hb.1 0 _ rfl) rfl ?_
  refine x_topi (nI n) hn ?_
  refine x_icmp_ge (tgt := 17) C dX11_byteOf_5 (by decide) (fun c5 => ?_) (fun c5 => ?_)
  · have c5 : ¬ x < n := fun q => absurd c5 (nI_ge q (by omega))
    refine x_iconst (v := (-1)) C dX11_byteOf_17 (by decide) ?_
    refine x_iret C E dX11_byteOf_18 ?_
    exact ⟨by unfold r_by; rw [if_neg c5], rfl⟩
  · have c5 : x < n := Decidable.byContradiction fun q => c5 (nI_le (by omega) (by omega))
    refine x_aload_n C dX11_byteOf_8 rfl rfl ?_
    refine x_getfield C dX11_byteOf_9 fX11_9 (hb.1 0 _ rfl) rfl ?_
    refine x_iload_n C dX11_byteOf_12 rfl rfl ?_
    refine x_iaload C dX11_byteOf_13 (hb.1 1 _ rfl) (nI_in (show x < 2000 by omega) (by decide)) ?_
    rw [nI_clamp (show x < 2 ^ 31 by omega)]
    refine x_goto (tgt := 18) C dX11_byteOf_14 (by decide) ?_
    refine x_iret C E dX11_byteOf_18 ?_
    exact ⟨by unfold r_by; rw [if_pos c5], rfl⟩
