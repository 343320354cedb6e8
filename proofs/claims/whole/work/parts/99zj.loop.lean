theorem l_63 (y : Int32) : ∃ v, v < 64 ∧ y &&& 63 = nI v := by
  refine ⟨(y.toBitVec &&& 63#32).toNat, ?_, ?_⟩
  · rw [BitVec.toNat_and]
    exact Nat.lt_of_le_of_lt Nat.and_le_right (by decide)
  · apply Int32.toBitVec_inj.mp
    show y.toBitVec &&& 63#32 = (Int32.ofNat (y.toBitVec &&& 63#32).toNat).toBitVec
    rw [Int32.toBitVec_ofNat', BitVec.ofNat_toNat, BitVec.setWidth_eq]
theorem l_gt {i L : Nat} (hL : L ≤ 3072) (hi : i ≤ 3072) : nI L - 6 < nI i ↔ L < i + 6 := by
  by_cases h : 6 ≤ L
  · obtain ⟨k, rfl⟩ : ∃ k, L = k + 6 := ⟨L - 6, by omega⟩
    have e : nI (k + 6) - 6 = nI k := by
      rw [← nI_add k 6]
      show nI k + 6 - 6 = nI k
      simp
    rw [e, Int32.lt_iff_toInt_lt, nI_toInt (show k < 2 ^ 31 by omega), nI_toInt (show i < 2 ^ 31 by omega)]
    omega
  · have hz : nI L - 6 < 0 := by
      match L, h with
      | 0, _ => decide
      | 1, _ => decide
      | 2, _ => decide
      | 3, _ => decide
      | 4, _ => decide
      | 5, _ => decide
      | L + 6, h => exact absurd (show 6 ≤ L + 6 by omega) h
    have h0 : (0 : Int32) ≤ nI i := nI_pos' (by omega)
    exact ⟨fun _ => by omega, fun _ => Int32.lt_of_lt_of_le hz h0⟩
set_option maxHeartbeats 4000000 in
set_option maxRecDepth 100000 in
theorem l_sw {K : x_K} {l : Launch} {Y0 : x_Y} {nm9 : String} (hO : x_Ok Y0) (hE : x_Ex l Y0) (C : x_Ctx K l Y0 ⟨RL, nm9, ""⟩ cL_law 9 2048 601024 7293034) {b c i L cells slots : Nat} {xs : Nat → Int32} (hX9 : va_X b L xs Y0.1 Y0.1.heap) (hb9 : b < Y0.2.2.2) (hi : i + 6 ≤ L) (hL : L ≤ 3072) (hc9 : cells + 40 ≤ 601024 ∧ slots + 1600 ≤ 7293034) {M : x_M} (hw0 : wL M c) (kk : ∀ M1, wL M1 c → x_X K 9 (cells + 40) (slots + 1600) 1846 (lvL b c i) [] M1) (hS : x_Stc Y0) {q1s t1s : Nat} (hZ1 : vk_R RX7 113 "()[];,+-*/<>=" q1s Y0.1) (hs1 : x_Str Y0 q1s t1s k_SYM) {wa : Nat} {sa st9 : Nat → Nat} (hWd : x_Wd Y0 wa sa st9) {q2s t2s : Nat} (hZ2 : vk_R RX11 109 "()[];,+-*/<>=" q2s Y0.1) (hs2 : x_Str Y0 q2s t2s k_SYM) {v : Nat} (hv : v < 64) : x_X K 9 cells slots 40 (lvL b c i) [.int (nI v)] M := by
  match v, hv with
  | 0, _ =>
    refine x_tableIn (tgt := 200) C dL_law_40 (by decide) (by decide) (off := 160) (by decide) (by decide) ?_
    exact lc_feed hO hE C hX9 hb9 hi hL hc9 hw0 kk
  | 1, _ =>
    refine x_tableIn (tgt := 304) C dL_law_40 (by decide) (by decide) (off := 264) (by decide) (by decide) ?_
    exact lc_trim hO hE C hX9 hb9 hi hL hc9 hw0 kk
  | 2, _ =>
    refine x_tableIn (tgt := 360) C dL_law_40 (by decide) (by decide) (off := 320) (by decide) (by decide) ?_
    exact lc_teach hO hE C hX9 hb9 hi hL hc9 hw0 kk hS hZ1 hs1 hWd hZ2 hs2
  | 3, _ =>
    refine x_tableIn (tgt := 373) C dL_law_40 (by decide) (by decide) (off := 333) (by decide) (by decide) ?_
    exact lc_errorAt hO hE C hX9 hb9 hi hL hc9 hw0 kk
  | 4, _ =>
    refine x_tableIn (tgt := 386) C dL_law_40 (by decide) (by decide) (off := 346) (by decide) (by decide) ?_
    exact lc_drones hO hE C hX9 hb9 hi hL hc9 hw0 kk
  | 5, _ =>
    refine x_tableIn (tgt := 399) C dL_law_40 (by decide) (by decide) (off := 359) (by decide) (by decide) ?_
    exact lc_deals hO hE C hX9 hb9 hi hL hc9 hw0 kk
  | 6, _ =>
    refine x_tableIn (tgt := 412) C dL_law_40 (by decide) (by decide) (off := 372) (by decide) (by decide) ?_
    exact lc_day hO hE C hX9 hb9 hi hL hc9 hw0 kk
  | 7, _ =>
    refine x_tableIn (tgt := 425) C dL_law_40 (by decide) (by decide) (off := 385) (by decide) (by decide) ?_
    exact lc_ordersCarriedOut hO hE C hX9 hb9 hi hL hc9 hw0 kk
  | 8, _ =>
    refine x_tableIn (tgt := 438) C dL_law_40 (by decide) (by decide) (off := 398) (by decide) (by decide) ?_
    exact lc_blocked hO hE C hX9 hb9 hi hL hc9 hw0 kk
  | 9, _ =>
    refine x_tableIn (tgt := 451) C dL_law_40 (by decide) (by decide) (off := 411) (by decide) (by decide) ?_
    exact lc_honey hO hE C hX9 hb9 hi hL hc9 hw0 kk
  | 10, _ =>
    refine x_tableIn (tgt := 464) C dL_law_40 (by decide) (by decide) (off := 424) (by decide) (by decide) ?_
    exact lc_isQueenAwake hO hE C hX9 hb9 hi hL hc9 hw0 kk
  | 11, _ =>
    refine x_tableIn (tgt := 477) C dL_law_40 (by decide) (by decide) (off := 437) (by decide) (by decide) ?_
    exact lc_honeyOf hO hE C hX9 hb9 hi hL hc9 hw0 kk
  | 12, _ =>
    refine x_tableIn (tgt := 533) C dL_law_40 (by decide) (by decide) (off := 493) (by decide) (by decide) ?_
    exact lc_isAwake hO hE C hX9 hb9 hi hL hc9 hw0 kk
  | 13, _ =>
    refine x_tableIn (tgt := 596) C dL_law_40 (by decide) (by decide) (off := 556) (by decide) (by decide) ?_
    exact lc_blockedBy hO hE C hX9 hb9 hi hL hc9 hw0 kk
  | 14, _ =>
    refine x_tableIn (tgt := 652) C dL_law_40 (by decide) (by decide) (off := 612) (by decide) (by decide) ?_
    exact lc_logOf hO hE C hX9 hb9 hi hL hc9 hw0 kk
  | 15, _ =>
    refine x_tableIn (tgt := 708) C dL_law_40 (by decide) (by decide) (off := 668) (by decide) (by decide) ?_
    exact lc_stateOf hO hE C hX9 hb9 hi hL hc9 hw0 kk
  | 16, _ =>
    refine x_tableIn (tgt := 764) C dL_law_40 (by decide) (by decide) (off := 724) (by decide) (by decide) ?_
    exact lc_waitsOf hO hE C hX9 hb9 hi hL hc9 hw0 kk
  | 17, _ =>
    refine x_tableIn (tgt := 820) C dL_law_40 (by decide) (by decide) (off := 780) (by decide) (by decide) ?_
    exact lc_partsOf hO hE C hX9 hb9 hi hL hc9 hw0 kk
  | 18, _ =>
    refine x_tableIn (tgt := 876) C dL_law_40 (by decide) (by decide) (off := 836) (by decide) (by decide) ?_
    exact lc_droneIn hO hE C hX9 hb9 hi hL hc9 hw0 kk
  | 19, _ =>
    refine x_tableIn (tgt := 944) C dL_law_40 (by decide) (by decide) (off := 904) (by decide) (by decide) ?_
    exact lc_changeIn hO hE C hX9 hb9 hi hL hc9 hw0 kk
  | 20, _ =>
    refine x_tableIn (tgt := 1012) C dL_law_40 (by decide) (by decide) (off := 972) (by decide) (by decide) ?_
    exact lc_voteIn hO hE C hX9 hb9 hi hL hc9 hw0 kk
  | 21, _ =>
    refine x_tableIn (tgt := 1080) C dL_law_40 (by decide) (by decide) (off := 1040) (by decide) (by decide) ?_
    exact lc_hasHeard hO hE C hX9 hb9 hi hL hc9 hw0 kk
  | 22, _ =>
    refine x_tableIn (tgt := 1155) C dL_law_40 (by decide) (by decide) (off := 1115) (by decide) (by decide) ?_
    exact lc_votesFor hO hE C hX9 hb9 hi hL hc9 hw0 kk
  | 23, _ =>
    refine x_tableIn (tgt := 1211) C dL_law_40 (by decide) (by decide) (off := 1171) (by decide) (by decide) ?_
    exact lc_wouldAgree hO hE C hX9 hb9 hi hL hc9 hw0 kk
  | 24, _ =>
    refine x_tableIn (tgt := 1274) C dL_law_40 (by decide) (by decide) (off := 1234) (by decide) (by decide) ?_
    exact lc_begin hO hE C hX9 hb9 hi hL hc9 hw0 kk
  | 25, _ =>
    refine x_tableIn (tgt := 1330) C dL_law_40 (by decide) (by decide) (off := 1290) (by decide) (by decide) ?_
    exact lc_crash hO hE C hX9 hb9 hi hL hc9 hw0 kk
  | 26, _ =>
    refine x_tableIn (tgt := 1386) C dL_law_40 (by decide) (by decide) (off := 1346) (by decide) (by decide) ?_
    exact lc_wake hO hE C hX9 hb9 hi hL hc9 hw0 kk
  | 27, _ =>
    refine x_tableIn (tgt := 1442) C dL_law_40 (by decide) (by decide) (off := 1402) (by decide) (by decide) ?_
    exact lc_crashQueen hO hE C hX9 hb9 hi hL hc9 hw0 kk
  | 28, _ =>
    refine x_tableIn (tgt := 1486) C dL_law_40 (by decide) (by decide) (off := 1446) (by decide) (by decide) ?_
    exact lc_wakeQueen hO hE C hX9 hb9 hi hL hc9 hw0 kk
  | 29, _ =>
    refine x_tableIn (tgt := 1530) C dL_law_40 (by decide) (by decide) (off := 1490) (by decide) (by decide) ?_
    exact lc_passDays hO hE C hX9 hb9 hi hL hc9 hw0 kk
  | 30, _ =>
    refine x_tableIn (tgt := 1586) C dL_law_40 (by decide) (by decide) (off := 1546) (by decide) (by decide) ?_
    exact lc_honeyAfter hO hE C hX9 hb9 hi hL hc9 hw0 kk
  | 31, _ =>
    refine x_tableIn (tgt := 1654) C dL_law_40 (by decide) (by decide) (off := 1614) (by decide) (by decide) ?_
    exact lc_stateAfter hO hE C hX9 hb9 hi hL hc9 hw0 kk
  | 32, _ =>
    refine x_tableIn (tgt := 1722) C dL_law_40 (by decide) (by decide) (off := 1682) (by decide) (by decide) ?_
    exact lc_daysUntilFree hO hE C hX9 hb9 hi hL hc9 hw0 kk
  | 33, _ =>
    refine x_tableIn (tgt := 1778) C dL_law_40 (by decide) (by decide) (off := 1738) (by decide) (by decide) ?_
    exact lc_bestToWake hO hE C hX9 hb9 hi hL hc9 hw0 kk
  | 34, _ =>
    refine x_tableIn (tgt := 1791) C dL_law_40 (by decide) (by decide) (off := 1751) (by decide) (by decide) ?_
    exact lc_meanHoney hO hE C hX9 hb9 hi hL hc9 hw0 kk
  | 35, _ =>
    refine x_tableIn (tgt := 1832) C dL_law_40 (by decide) (by decide) (off := 1792) (by decide) (by decide) ?_
    exact lc_digest hO hE C hX9 hb9 hi hL hc9 hw0 kk
  | v + 36, hv =>
    refine x_tableOut (tgt := 1846) C dL_law_40 (Or.inr (by rw [nI_toInt (show v + 36 < 2 ^ 31 by omega)]; omega)) (by decide) ?_
    refine x_widen (k := cells + 40) (n := slots + 1600) (by omega) (by omega) ?_
    exact kk M hw0
set_option maxHeartbeats 4000000 in
set_option maxRecDepth 100000 in
theorem l_loop {K : x_K} {l : Launch} {Y0 : x_Y} {nm9 : String} (hO : x_Ok Y0) (hE : x_Ex l Y0) (C : x_Ctx K l Y0 ⟨RL, nm9, ""⟩ cL_law 9 2048 601024 7293034) (E : x_RetL K) {b c L : Nat} {xs : Nat → Int32} (hX9 : va_X b L xs Y0.1 Y0.1.heap) (hb9 : b < Y0.2.2.2) (hL : L ≤ 3072) (hS : x_Stc Y0) {q1s t1s : Nat} (hZ1 : vk_R RX7 113 "()[];,+-*/<>=" q1s Y0.1) (hs1 : x_Str Y0 q1s t1s k_SYM) {wa : Nat} {sa st9 : Nat → Nat} (hWd : x_Wd Y0 wa sa st9) {q2s t2s : Nat} (hZ2 : vk_R RX11 109 "()[];,+-*/<>=" q2s Y0.1) (hs2 : x_Str Y0 q2s t2s k_SYM) : ∀ (w t : Nat) (M : x_M), L < 6 * (t + w) + 6 → 6 * t ≤ 3072 → wL M c → x_X K 9 (200 + 40 * t) (13000 + 1600 * t) 23 (lvL b c (6 * t)) [] M := by
  intro w
  induction w with
  | zero =>
    intro t M h1 h2 hw
    refine x_iload C dL_law_23 rfl ?_
    refine x_aload_n C dL_law_25 rfl rfl ?_
    refine x_slen C dL_law_26 hX9 hb9 ?_
    refine x_bipush (v := 6) C dL_law_27 (by decide) ?_
    refine x_isub C dL_law_29 ?_
    refine x_icmp_gt (tgt := 1852) C dL_law_30 (by decide) (fun _ => ?_) (fun q => absurd ((l_gt hL h2).mpr (by omega)) q)
    refine x_iconst (v := 1) C dL_law_1852 (by decide) ?_
    refine x_widen (k := 601024) (n := 7293034) (by omega) (by omega) ?_
    exact x_lend C E dL_law_1853
  | succ w ih =>
    intro t M h1 h2 hw
    refine x_iload C dL_law_23 rfl ?_
    refine x_aload_n C dL_law_25 rfl rfl ?_
    refine x_slen C dL_law_26 hX9 hb9 ?_
    refine x_bipush (v := 6) C dL_law_27 (by decide) ?_
    refine x_isub C dL_law_29 ?_
    refine x_icmp_gt (tgt := 1852) C dL_law_30 (by decide) (fun q => ?_) (fun q => ?_)
    · refine x_iconst (v := 1) C dL_law_1852 (by decide) ?_
      refine x_widen (k := 601024) (n := 7293034) (by omega) (by omega) ?_
      exact x_lend C E dL_law_1853
    · have hi : 6 * t + 6 ≤ L := by
        have h9 := mt (l_gt hL h2).mpr q
        omega
      refine x_aload_n C dL_law_33 rfl rfl ?_
      refine x_iload C dL_law_34 rfl ?_
      refine x_sld C dL_law_36 hX9 hb9 (vp_in_nI (show 6 * t < L by omega) (show L < 2 ^ 31 by omega)) ?_
      refine x_bipush (v := 63) C dL_law_37 (by decide) ?_
      refine x_iand C dL_law_39 ?_
      obtain ⟨v, hv, e⟩ := l_63 (xs (nI (6 * t)).toNatClampNeg)
      rw [e]
      refine l_sw hO hE C hX9 hb9 hi hL ⟨by omega, by omega⟩ hw (fun M1 hw1 => ?_) hS hZ1 hs1 hWd hZ2 hs2 hv
      refine x_iinc (v := 6) C dL_law_1846 rfl (by decide) rfl (by decide) ?_
      show x_X K 9 _ _ _ [(0, .ref b), (1, .ref c), (2, .ref (c + 96)), (3, .ref (c + 142)), (4, .int (nI (6 * t) + 6))] [] M1
      rw [show nI (6 * t) + 6 = nI (6 * (t + 1)) from (nI_add (6 * t) 6).trans (congrArg nI (by omega))]
      refine x_goto (tgt := 23) C dL_law_1849 (by decide) ?_
      refine x_widen (k := 200 + 40 * (t + 1)) (n := 13000 + 1600 * (t + 1)) (by omega) (by omega) ?_
      exact ih (t + 1) M1 (by omega) (by omega) hw1
theorem l_nw_far {M : x_M} {a : Nat} {L : List x_E} {c : x_E} (h : x_bk M a L) (hl : a + L.length ≤ M.2) : x_bk (x_nw M c) a L := x_bk_eq h (fun x h1 h2 => if_neg (by omega))
theorem l_nw_bk {M : x_M} {a : Nat} {c : x_E} (h : M.2 = a) : x_bk (x_nw M c) a [c] := by
  subst h
  intro j d hd
  cases j with
  | zero => exact (if_pos rfl : (x_nw M c).1 (M.2 + 0) = some c).trans hd
  | succ j => cases hd
theorem p_okz : p_ok P_z := ⟨Nat.zero_le _, Nat.zero_le _, Nat.zero_le _, fun k h => absurd h (Nat.not_lt_zero _), fun k j h => absurd h (Nat.not_lt_zero _), fun o h => absurd h (Nat.not_lt_zero _), fun o h => absurd h (Nat.not_lt_zero _)⟩
set_option maxHeartbeats 4000000 in
set_option maxRecDepth 100000 in
theorem wL_first {M : x_M} {c : Nat} (hC : x_bk M c ([.inr (8, [.ref (c + 1), .ref (c + 4), .ref (c + 25), .ref (c + 46), .ref (c + 56), .ref (c + 76), .int (-1)])] ++ (tpT (c + 1) 0 (fun _ => 0) ++ (plT (c + 4) h_zz ++ (plT (c + 25) h_zz ++ (teN (c + 46) (c + 4) (c + 1) ++ (hvT (c + 56) (c + 25) P_z (h_new P_z) (h_zz 0) (fun _ => 0) 0 ++ hvT (c + 76) (c + 25) P_z (h_new P_z) (h_zz 0) (fun _ => 0) 0))))))) (hM : x_bk M (c + 96) (moT (c + 96) (c + 96 + 7) (E_z (c + 96)) R_z ++ (pmT (c + 96 + 7) h_zz ++ ([.inl (0, 400, .inl (fun _ => 0))] ++ (stT (c + 96 + 19) (c + 96) P_z (h_new P_z) (s_fill 8 (fun _ => 0) (h_zz 0)) 0 ++ (stT (c + 96 + 28) (c + 96) P_z h_zz (fun _ => 0) 0 ++ stT (c + 96 + 37) (c + 96) P_z h_zz (fun _ => 0) 0)))))) (hO : x_bk M (c + 142) [.inl (1, 1, .inr (.inl (fun _ => 0)))]) (h2 : c + 143 ≤ M.2) : wL M c :=
  ⟨0, fun _ => 0, P_z, h_new P_z, -1, 0, fun _ => 0, Nat.zero_le _, fun _ => ⟨0, by decide, rfl⟩, p_okz, h_ok_new, hO,
    ⟨0, 0, (fun _ => 0, fun _ => 0, fun _ => 0), h_zz, (h_zz, fun _ => 0, fun _ => 0, 0), h_zz 0, fun _ => 0, 0, h_new P_z, h_zz 0, fun _ => 0, 0, x_bk_sub hC 0 rfl, x_bk_sub hC 1 rfl, x_bk_sub hC 4 rfl, fun j => (by decide : ¬ (0 : Int32) = -1), q_zz, x_bk_sub hC 56 rfl, x_bk_sub hC 76 rfl⟩,
    ⟨c + 96 + 7, c + 96 + 7, h_zz, R_z, h_zz, s_fill 8 (fun _ => 0) (h_zz 0), 0, fun _ => 0, h_zz, fun _ => 0, 0, x_bk_sub hM 0 rfl, rfl, x_bk_sub hM 7 rfl, g_zz, Or.inl rfl, (by omega), (by omega), x_bk_sub hM 18 rfl, x_bk_sub hM 19 rfl, x_bk_sub hM 28 rfl⟩⟩
set_option maxHeartbeats 4000000 in
set_option maxRecDepth 100000 in
theorem l_all {K : x_K} {l : Launch} {Y0 : x_Y} {nm9 : String} (hO : x_Ok Y0) (hE : x_Ex l Y0) (C : x_Ctx K l Y0 ⟨RL, nm9, ""⟩ cL_law 9 2048 601024 7293034) (E : x_RetL K) {b c L : Nat} {xs : Nat → Int32} (hX9 : va_X b L xs Y0.1 Y0.1.heap) (hb9 : b < Y0.2.2.2) (hL : L ≤ 3072) (hS : x_Stc Y0) {q1s t1s : Nat} (hZ1 : vk_R RX7 113 "()[];,+-*/<>=" q1s Y0.1) (hs1 : x_Str Y0 q1s t1s k_SYM) {wa : Nat} {sa st9 : Nat → Nat} (hWd : x_Wd Y0 wa sa st9) {q2s t2s : Nat} (hZ2 : vk_R RX11 109 "()[];,+-*/<>=" q2s Y0.1) (hs2 : x_Str Y0 q2s t2s k_SYM) {q3s t3s : Nat} (hZ3 : vk_R RX7 29 "drone honey deal moves gives gets begin crash wake queen when day done blocked waits of awake not and or min max" q3s Y0.1) (hs3 : x_Str Y0 q3s t3s k_KT) : x_X K 9 0 0 0 [(0, .ref b)] [] ((fun _ => none), c) := by
  refine x_new C dL_law_0 nL_8 (Nat.le_of_ble_eq_true rfl) (Nat.le_of_ble_eq_true rfl) ?_
  refine x_topr c rfl ?_
  refine x_dup C dL_law_3 rfl ?_
  refine x_callI (As := []) C dL_law_4 kL_93 (c_X8_init (c := c) hO (l_nw_bk rfl) rfl hS hZ3 hs3) rfl rfl (by decide) ⟨Nat.le_of_ble_eq_true rfl, Nat.le_of_ble_eq_true rfl⟩ (Nat.le_of_ble_eq_true rfl) ?_
  rintro _ M2 ⟨rfl, hM2⟩
  have z2 : M2.2 = c + 96 := by
    rw [hM2]
    show c + 1 + 95 = c + 96
    omega
  have k2 : x_bk M2 c ([.inr (8, [.ref (c + 1), .ref (c + 4), .ref (c + 25), .ref (c + 46), .ref (c + 56), .ref (c + 76), .int (-1)])] ++ (tpT (c + 1) 0 (fun _ => 0) ++ (plT (c + 4) h_zz ++ (plT (c + 25) h_zz ++ (teN (c + 46) (c + 4) (c + 1) ++ (hvT (c + 56) (c + 25) P_z (h_new P_z) (h_zz 0) (fun _ => 0) 0 ++ hvT (c + 76) (c + 25) P_z (h_new P_z) (h_zz 0) (fun _ => 0) 0)))))) := by
    rw [hM2]
    exact x_ov_bk
  clear hM2
  refine x_astore_n C dL_law_7 rfl rfl (by decide) ?_
  refine x_new C dL_law_8 nL_94 (Nat.le_of_ble_eq_true rfl) (Nat.le_of_ble_eq_true rfl) ?_
  refine x_topr (c + 96) z2 ?_
  refine x_dup C dL_law_11 rfl ?_
  refine x_callI (As := []) C dL_law_12 kL_96 (c_X11_init (o := c + 96) hO (l_nw_bk z2) (congrArg (· + 1) z2)) rfl rfl (by decide) ⟨Nat.le_of_ble_eq_true rfl, Nat.le_of_ble_eq_true rfl⟩ (Nat.le_of_ble_eq_true rfl) ?_
  rintro _ M4 ⟨rfl, hM4⟩
  have lc : (([.inr (8, [.ref (c + 1), .ref (c + 4), .ref (c + 25), .ref (c + 46), .ref (c + 56), .ref (c + 76), .int (-1)])] ++ (tpT (c + 1) 0 (fun _ => 0) ++ (plT (c + 4) h_zz ++ (plT (c + 25) h_zz ++ (teN (c + 46) (c + 4) (c + 1) ++ (hvT (c + 56) (c + 25) P_z (h_new P_z) (h_zz 0) (fun _ => 0) 0 ++ hvT (c + 76) (c + 25) P_z (h_new P_z) (h_zz 0) (fun _ => 0) 0)))))) : List x_E).length = 96 := rfl
  have lm : ((moT (c + 96) (c + 96 + 7) (E_z (c + 96)) R_z ++ (pmT (c + 96 + 7) h_zz ++ ([.inl (0, 400, .inl (fun _ => 0))] ++ (stT (c + 96 + 19) (c + 96) P_z (h_new P_z) (s_fill 8 (fun _ => 0) (h_zz 0)) 0 ++ (stT (c + 96 + 28) (c + 96) P_z h_zz (fun _ => 0) 0 ++ stT (c + 96 + 37) (c + 96) P_z h_zz (fun _ => 0) 0))))) : List x_E).length = 46 := rfl
  have z4 : M4.2 = c + 142 := by
    rw [hM4]
    show M2.2 + 1 + 45 = c + 142
    omega
  have k4 : x_bk M4 c ([.inr (8, [.ref (c + 1), .ref (c + 4), .ref (c + 25), .ref (c + 46), .ref (c + 56), .ref (c + 76), .int (-1)])] ++ (tpT (c + 1) 0 (fun _ => 0) ++ (plT (c + 4) h_zz ++ (plT (c + 25) h_zz ++ (teN (c + 46) (c + 4) (c + 1) ++ (hvT (c + 56) (c + 25) P_z (h_new P_z) (h_zz 0) (fun _ => 0) 0 ++ hvT (c + 76) (c + 25) P_z (h_new P_z) (h_zz 0) (fun _ => 0) 0)))))) := by
    rw [hM4]
    exact x_ov_far 46 (x_bk_nx (l_nw_far k2 (by omega))) lm (by omega)
  have m4 : x_bk M4 (c + 96) (moT (c + 96) (c + 96 + 7) (E_z (c + 96)) R_z ++ (pmT (c + 96 + 7) h_zz ++ ([.inl (0, 400, .inl (fun _ => 0))] ++ (stT (c + 96 + 19) (c + 96) P_z (h_new P_z) (s_fill 8 (fun _ => 0) (h_zz 0)) 0 ++ (stT (c + 96 + 28) (c + 96) P_z h_zz (fun _ => 0) 0 ++ stT (c + 96 + 37) (c + 96) P_z h_zz (fun _ => 0) 0))))) := by
    rw [hM4]
    exact x_ov_bk
  clear hM4
  refine x_astore_n C dL_law_15 rfl rfl (by decide) ?_
  refine x_iconst (v := 1) C dL_law_16 (by decide) ?_
  refine x_newarrJ (N := 1) C dL_law_17 o_al (by decide) rfl (by decide) (Nat.le_of_ble_eq_true rfl) (Nat.le_of_ble_eq_true rfl) ?_
  refine x_topr (c + 142) z4 ?_
  refine x_astore_n C dL_law_19 rfl rfl (by decide) ?_
  refine x_iconst (v := 0) C dL_law_20 (by decide) ?_
  refine x_istore C dL_law_21 rfl (by decide) ?_
  refine x_widen (k := 200 + 40 * 0) (n := 13000 + 1600 * 0) (Nat.le_of_ble_eq_true rfl) (Nat.le_of_ble_eq_true rfl) ?_
  have hw : wL (x_nw M4 (.inl (1, 1, .inr (.inl (fun _ => 0))))) c := wL_first (l_nw_far k4 (by omega)) (l_nw_far m4 (by omega)) (l_nw_bk z4) (by show c + 143 ≤ M4.2 + 1; omega)
  exact l_loop hO hE C E hX9 hb9 hL hS hZ1 hs1 hWd hZ2 hs2 512 0 _ (by omega) (by omega) hw
