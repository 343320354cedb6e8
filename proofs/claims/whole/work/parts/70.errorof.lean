set_option maxHeartbeats 4000000 in
set_option maxRecDepth 100000 in
theorem c_X11_errorOf0 {l : Launch} {Y0 : x_Y} (hO : x_Ok Y0) {M : x_M} {o r i : Nat} {Ev : rE} {R : rS} (hd : o + 7 ≤ r) (hb : rB M o r Ev R) (hi : i < 401) (hin : ∀ k, k ≤ i → r_in Ev k) (ha : R.2.2.2.1 i = 0) : x_C l Y0 yX11_errorOf cX11_errorOf 2 (some .int) 5 0 0 [.ref o, .int (nI i)] M (fun u M1 => u = some (.int (0)) ∧ M1 = rH M o r (Ev) R) := by
  refine x_start hO (by decide +kernel) (Nat.le_of_ble_eq_true rfl) (fun K C E => ?_)
  refine x_to (rH_self hb).symm ?_
  refine x_aload_n C dX11_errorOf_0 rfl rfl ?_
  refine x_getfield C dX11_errorOf_1 fX11_26 (rH_g0 hd) rfl ?_
  refine x_iload_n C dX11_errorOf_4 rfl rfl ?_
  refine x_iaload C dX11_errorOf_5 (rH_g5 hd) (nI_in hi (by decide)) ?_
  rw [nI_clamp (show i < 2 ^ 31 by omega)]
  refine x_topi 0 ha ?_
  refine x_tableIn (tgt := 56) C dX11_errorOf_6 (by decide) (by decide) (off := 50) (by decide) (by decide) ?_
  refine x_iconst (v := 0) C dX11_errorOf_56 (by decide) ?_
  refine x_iret C E dX11_errorOf_57 ?_
  exact ⟨rfl, rfl⟩
set_option maxHeartbeats 4000000 in
set_option maxRecDepth 100000 in
theorem c_X11_errorOf1 {l : Launch} {Y0 : x_Y} (hO : x_Ok Y0) {M : x_M} {o r i : Nat} {Ev : rE} {R : rS} (hd : o + 7 ≤ r) (hb : rB M o r Ev R) (hi : i < 401) (hin : ∀ k, k ≤ i → r_in Ev k) (ha : R.2.2.2.1 i = 1) {nd : Nat} (h2 : i + 2 < 401) (hi2 : r_in Ev (i + 2)) (hc : Ev.2 10 0 = nI nd) (h8 : nd ≤ 8) : x_C l Y0 yX11_errorOf cX11_errorOf 2 (some .int) 5 0 0 [.ref o, .int (nI i)] M (fun u M1 => u = some (.int (r_new Ev R i (nI nd) 8)) ∧ M1 = rH M o r (if r_new Ev R i (nI nd) 8 = 0 then e_dr Ev i nd else Ev) R) := by
  refine x_start hO (by decide +kernel) (Nat.le_of_ble_eq_true rfl) (fun K C E => ?_)
  refine x_to (rH_self hb).symm ?_
  refine x_aload_n C dX11_errorOf_0 rfl rfl ?_
  refine x_getfield C dX11_errorOf_1 fX11_26 (rH_g0 hd) rfl ?_
  refine x_iload_n C dX11_errorOf_4 rfl rfl ?_
  refine x_iaload C dX11_errorOf_5 (rH_g5 hd) (nI_in hi (by decide)) ?_
  rw [nI_clamp (show i < 2 ^ 31 by omega)]
  refine x_topi 1 ha ?_
  refine x_tableIn (tgt := 58) C dX11_errorOf_6 (by decide) (by decide) (off := 52) (by decide) (by decide) ?_
  refine x_aload_n C dX11_errorOf_58 rfl rfl ?_
  refine x_iload_n C dX11_errorOf_59 rfl rfl ?_
  refine x_callV1 C dX11_errorOf_60 kX11_249 (c_X11_newDrone hO hd (rH_B hd) hi hin h2 hi2 hc h8) (rH_g0 hd) rfl (by decide) ⟨Nat.zero_le _, Nat.zero_le _⟩ (Nat.le_of_ble_eq_true rfl) ?_
  rintro _ _ ⟨rfl, rfl⟩
  refine x_to (rH_H hd) ?_
  refine x_iret C E dX11_errorOf_63 ?_
  exact ⟨rfl, rfl⟩
set_option maxHeartbeats 4000000 in
set_option maxRecDepth 100000 in
theorem c_X11_errorOf2 {l : Launch} {Y0 : x_Y} (hO : x_Ok Y0) {M : x_M} {o r i : Nat} {Ev : rE} {R : rS} (hd : o + 7 ≤ r) (hb : rB M o r Ev R) (hi : i < 401) (hin : ∀ k, k ≤ i → r_in Ev k) (ha : R.2.2.2.1 i = 2) {nk : Nat} (hc : Ev.2 10 1 = nI nk) (h6 : nk ≤ 6) : x_C l Y0 yX11_errorOf cX11_errorOf 2 (some .int) 5 0 0 [.ref o, .int (nI i)] M (fun u M1 => u = some (.int (r_new Ev R i (nI nk) 6)) ∧ M1 = rH M o r (if r_new Ev R i (nI nk) 6 = 0 then e_dl Ev nk else Ev) R) := by
  refine x_start hO (by decide +kernel) (Nat.le_of_ble_eq_true rfl) (fun K C E => ?_)
  refine x_to (rH_self hb).symm ?_
  refine x_aload_n C dX11_errorOf_0 rfl rfl ?_
  refine x_getfield C dX11_errorOf_1 fX11_26 (rH_g0 hd) rfl ?_
  refine x_iload_n C dX11_errorOf_4 rfl rfl ?_
  refine x_iaload C dX11_errorOf_5 (rH_g5 hd) (nI_in hi (by decide)) ?_
  rw [nI_clamp (show i < 2 ^ 31 by omega)]
  refine x_topi 2 ha ?_
  refine x_tableIn (tgt := 64) C dX11_errorOf_6 (by decide) (by decide) (off := 58) (by decide) (by decide) ?_
  refine x_aload_n C dX11_errorOf_64 rfl rfl ?_
  refine x_iload_n C dX11_errorOf_65 rfl rfl ?_
  refine x_callV1 C dX11_errorOf_66 kX11_252 (c_X11_newDeal hO hd (rH_B hd) hi hin hc h6) (rH_g0 hd) rfl (by decide) ⟨Nat.zero_le _, Nat.zero_le _⟩ (Nat.le_of_ble_eq_true rfl) ?_
  rintro _ _ ⟨rfl, rfl⟩
  refine x_to (rH_H hd) ?_
  refine x_iret C E dX11_errorOf_69 ?_
  exact ⟨rfl, rfl⟩
set_option maxHeartbeats 4000000 in
set_option maxRecDepth 100000 in
theorem c_X11_errorOf3 {l : Launch} {Y0 : x_Y} (hO : x_Ok Y0) {M : x_M} {o r i : Nat} {Ev : rE} {R : rS} (hd : o + 7 ≤ r) (hb : rB M o r Ev R) (hi : i < 401) (hin : ∀ k, k ≤ i → r_in Ev k) (ha : R.2.2.2.1 i = 3) {no : Nat} (hc : Ev.2 10 2 = nI no) (h16 : no ≤ 16) : x_C l Y0 yX11_errorOf cX11_errorOf 2 (some .int) 5 0 0 [.ref o, .int (nI i)] M (fun u M1 => u = some (.int (if no = 16 then 4 else 0)) ∧ M1 = rH M o r (if no = 16 then Ev else e_or Ev i no) R) := by
  refine x_start hO (by decide +kernel) (Nat.le_of_ble_eq_true rfl) (fun K C E => ?_)
  refine x_to (rH_self hb).symm ?_
  refine x_aload_n C dX11_errorOf_0 rfl rfl ?_
  refine x_getfield C dX11_errorOf_1 fX11_26 (rH_g0 hd) rfl ?_
  refine x_iload_n C dX11_errorOf_4 rfl rfl ?_
  refine x_iaload C dX11_errorOf_5 (rH_g5 hd) (nI_in hi (by decide)) ?_
  rw [nI_clamp (show i < 2 ^ 31 by omega)]
  refine x_topi 3 ha ?_
  refine x_tableIn (tgt := 70) C dX11_errorOf_6 (by decide) (by decide) (off := 64) (by decide) (by decide) ?_
  refine x_aload_n C dX11_errorOf_70 rfl rfl ?_
  refine x_iload_n C dX11_errorOf_71 rfl rfl ?_
  refine x_callV1 C dX11_errorOf_72 kX11_255 (c_X11_newOrder hO hd (rH_B hd) hi hc h16) (rH_g0 hd) rfl (by decide) ⟨Nat.zero_le _, Nat.zero_le _⟩ (Nat.le_of_ble_eq_true rfl) ?_
  rintro _ _ ⟨rfl, rfl⟩
  refine x_to (rH_H hd) ?_
  refine x_iret C E dX11_errorOf_75 ?_
  exact ⟨rfl, rfl⟩
set_option maxHeartbeats 4000000 in
set_option maxRecDepth 100000 in
theorem c_X11_errorOf4 {l : Launch} {Y0 : x_Y} (hO : x_Ok Y0) {M : x_M} {o r i : Nat} {Ev : rE} {R : rS} (hd : o + 7 ≤ r) (hb : rB M o r Ev R) (hi : i < 401) (hin : ∀ k, k ≤ i → r_in Ev k) (ha : R.2.2.2.1 i = 4) {nk np : Nat} (hc : Ev.2 10 1 = nI nk) (h1 : 1 ≤ nk) (h6 : nk ≤ 6) (hp : Ev.2 1 (nk - 1) = nI np) (hp6 : np ≤ 6) (h2 : i + 2 < 401) (hi2 : r_in Ev (i + 2)) : x_C l Y0 yX11_errorOf cX11_errorOf 2 (some .int) 5 0 0 [.ref o, .int (nI i)] M (fun u M1 => u = some (.int ((e_np Ev R i nk np).1)) ∧ M1 = rH M o r ((e_np Ev R i nk np).2) R) := by
  refine x_start hO (by decide +kernel) (Nat.le_of_ble_eq_true rfl) (fun K C E => ?_)
  refine x_to (rH_self hb).symm ?_
  refine x_aload_n C dX11_errorOf_0 rfl rfl ?_
  refine x_getfield C dX11_errorOf_1 fX11_26 (rH_g0 hd) rfl ?_
  refine x_iload_n C dX11_errorOf_4 rfl rfl ?_
  refine x_iaload C dX11_errorOf_5 (rH_g5 hd) (nI_in hi (by decide)) ?_
  rw [nI_clamp (show i < 2 ^ 31 by omega)]
  refine x_topi 4 ha ?_
  refine x_tableIn (tgt := 76) C dX11_errorOf_6 (by decide) (by decide) (off := 70) (by decide) (by decide) ?_
  refine x_aload_n C dX11_errorOf_76 rfl rfl ?_
  refine x_iload_n C dX11_errorOf_77 rfl rfl ?_
  refine x_callV1 C dX11_errorOf_78 kX11_258 (c_X11_newPart hO hd (rH_B hd) hi hin hc h1 h6 hp hp6 h2 hi2) (rH_g0 hd) rfl (by decide) ⟨Nat.zero_le _, Nat.zero_le _⟩ (Nat.le_of_ble_eq_true rfl) ?_
  rintro _ _ ⟨rfl, rfl⟩
  refine x_to (rH_H hd) ?_
  refine x_iret C E dX11_errorOf_81 ?_
  exact ⟨rfl, rfl⟩
set_option maxHeartbeats 4000000 in
set_option maxRecDepth 100000 in
theorem c_X11_errorOf5 {l : Launch} {Y0 : x_Y} (hO : x_Ok Y0) {M : x_M} {o r i : Nat} {Ev : rE} {R : rS} (hd : o + 7 ≤ r) (hb : rB M o r Ev R) (hi : i < 401) (hin : ∀ k, k ≤ i → r_in Ev k) (ha : R.2.2.2.1 i = 5) : x_C l Y0 yX11_errorOf cX11_errorOf 2 (some .int) 5 0 0 [.ref o, .int (nI i)] M (fun u M1 => u = some (.int (r_lk Ev R i 1)) ∧ M1 = rH M o r (m_E Ev i (r_tld Ev R i 1)) R) := by
  refine x_start hO (by decide +kernel) (Nat.le_of_ble_eq_true rfl) (fun K C E => ?_)
  refine x_to (rH_self hb).symm ?_
  refine x_aload_n C dX11_errorOf_0 rfl rfl ?_
  refine x_getfield C dX11_errorOf_1 fX11_26 (rH_g0 hd) rfl ?_
  refine x_iload_n C dX11_errorOf_4 rfl rfl ?_
  refine x_iaload C dX11_errorOf_5 (rH_g5 hd) (nI_in hi (by decide)) ?_
  rw [nI_clamp (show i < 2 ^ 31 by omega)]
  refine x_topi 5 ha ?_
  refine x_tableIn (tgt := 82) C dX11_errorOf_6 (by decide) (by decide) (off := 76) (by decide) (by decide) ?_
  refine x_aload_n C dX11_errorOf_82 rfl rfl ?_
  refine x_iload_n C dX11_errorOf_83 rfl rfl ?_
  refine x_iconst (v := 1) C dX11_errorOf_84 (by decide) ?_
  refine x_callV2 C dX11_errorOf_85 kX11_231 (c_X11_look hO hd (rH_B hd) hi hin) (rH_g0 hd) rfl (by decide) ⟨Nat.zero_le _, Nat.zero_le _⟩ (Nat.le_of_ble_eq_true rfl) ?_
  rintro _ _ ⟨rfl, rfl⟩
  refine x_to (rH_H hd) ?_
  refine x_iret C E dX11_errorOf_88 ?_
  exact ⟨rfl, rfl⟩
set_option maxHeartbeats 4000000 in
set_option maxRecDepth 100000 in
theorem c_X11_errorOf6 {l : Launch} {Y0 : x_Y} (hO : x_Ok Y0) {M : x_M} {o r i : Nat} {Ev : rE} {R : rS} (hd : o + 7 ≤ r) (hb : rB M o r Ev R) (hi : i < 401) (hin : ∀ k, k ≤ i → r_in Ev k) (ha : R.2.2.2.1 i = 6) : x_C l Y0 yX11_errorOf cX11_errorOf 2 (some .int) 5 0 0 [.ref o, .int (nI i)] M (fun u M1 => u = some (.int (r_lk Ev R i 2)) ∧ M1 = rH M o r (m_E Ev i (r_tld Ev R i 2)) R) := by
  refine x_start hO (by decide +kernel) (Nat.le_of_ble_eq_true rfl) (fun K C E => ?_)
  refine x_to (rH_self hb).symm ?_
  refine x_aload_n C dX11_errorOf_0 rfl rfl ?_
  refine x_getfield C dX11_errorOf_1 fX11_26 (rH_g0 hd) rfl ?_
  refine x_iload_n C dX11_errorOf_4 rfl rfl ?_
  refine x_iaload C dX11_errorOf_5 (rH_g5 hd) (nI_in hi (by decide)) ?_
  rw [nI_clamp (show i < 2 ^ 31 by omega)]
  refine x_topi 6 ha ?_
  refine x_tableIn (tgt := 89) C dX11_errorOf_6 (by decide) (by decide) (off := 83) (by decide) (by decide) ?_
  refine x_aload_n C dX11_errorOf_89 rfl rfl ?_
  refine x_iload_n C dX11_errorOf_90 rfl rfl ?_
  refine x_iconst (v := 2) C dX11_errorOf_91 (by decide) ?_
  refine x_callV2 C dX11_errorOf_92 kX11_231 (c_X11_look hO hd (rH_B hd) hi hin) (rH_g0 hd) rfl (by decide) ⟨Nat.zero_le _, Nat.zero_le _⟩ (Nat.le_of_ble_eq_true rfl) ?_
  rintro _ _ ⟨rfl, rfl⟩
  refine x_to (rH_H hd) ?_
  refine x_iret C E dX11_errorOf_95 ?_
  exact ⟨rfl, rfl⟩
set_option maxHeartbeats 4000000 in
set_option maxRecDepth 100000 in
theorem c_X11_errorOf7 {l : Launch} {Y0 : x_Y} (hO : x_Ok Y0) {M : x_M} {o r i : Nat} {Ev : rE} {R : rS} (hd : o + 7 ≤ r) (hb : rB M o r Ev R) (hi : i < 401) (hin : ∀ k, k ≤ i → r_in Ev k) (ha : R.2.2.2.1 i = 7) {no : Nat} (h1 : 1 ≤ i) (hc : Ev.2 10 2 = nI no) (h0 : 1 ≤ no) (h16 : no ≤ 16) : x_C l Y0 yX11_errorOf cX11_errorOf 2 (some .int) 5 0 0 [.ref o, .int (nI i)] M (fun u M1 => u = some (.int (r_lk Ev R i (if Ev.2 12 (i - 1) = 6 then (2 : Int32) else 1))) ∧ M1 = rH M o r (e_of Ev R i no (if Ev.2 12 (i - 1) = 6 then (2 : Int32) else 1)) R) := by
  refine x_start hO (by decide +kernel) (Nat.le_of_ble_eq_true rfl) (fun K C E => ?_)
  refine x_to (rH_self hb).symm ?_
  refine x_aload_n C dX11_errorOf_0 rfl rfl ?_
  refine x_getfield C dX11_errorOf_1 fX11_26 (rH_g0 hd) rfl ?_
  refine x_iload_n C dX11_errorOf_4 rfl rfl ?_
  refine x_iaload C dX11_errorOf_5 (rH_g5 hd) (nI_in hi (by decide)) ?_
  rw [nI_clamp (show i < 2 ^ 31 by omega)]
  refine x_topi 7 ha ?_
  refine x_tableIn (tgt := 96) C dX11_errorOf_6 (by decide) (by decide) (off := 90) (by decide) (by decide) ?_
  refine x_aload_n C dX11_errorOf_96 rfl rfl ?_
  refine x_iload_n C dX11_errorOf_97 rfl rfl ?_
  refine x_callV1 C dX11_errorOf_98 kX11_261 (c_X11_ofOrder hO hd (rH_B hd) hi hin h1 hc h0 h16) (rH_g0 hd) rfl (by decide) ⟨Nat.zero_le _, Nat.zero_le _⟩ (Nat.le_of_ble_eq_true rfl) ?_
  rintro _ _ ⟨rfl, rfl⟩
  refine x_to (rH_H hd) ?_
  refine x_iret C E dX11_errorOf_101 ?_
  exact ⟨rfl, rfl⟩
set_option maxHeartbeats 4000000 in
set_option maxRecDepth 100000 in
theorem c_X11_errorOf8 {l : Launch} {Y0 : x_Y} (hO : x_Ok Y0) {M : x_M} {o r i : Nat} {Ev : rE} {R : rS} (hd : o + 7 ≤ r) (hb : rB M o r Ev R) (hi : i < 401) (hin : ∀ k, k ≤ i → r_in Ev k) (ha : R.2.2.2.1 i = 8) : x_C l Y0 yX11_errorOf cX11_errorOf 2 (some .int) 5 0 0 [.ref o, .int (nI i)] M (fun u M1 => u = some (.int (r_rng Ev i 0 60)) ∧ M1 = rH M o r (Ev) R) := by
  refine x_start hO (by decide +kernel) (Nat.le_of_ble_eq_true rfl) (fun K C E => ?_)
  refine x_to (rH_self hb).symm ?_
  refine x_aload_n C dX11_errorOf_0 rfl rfl ?_
  refine x_getfield C dX11_errorOf_1 fX11_26 (rH_g0 hd) rfl ?_
  refine x_iload_n C dX11_errorOf_4 rfl rfl ?_
  refine x_iaload C dX11_errorOf_5 (rH_g5 hd) (nI_in hi (by decide)) ?_
  rw [nI_clamp (show i < 2 ^ 31 by omega)]
  refine x_topi 8 ha ?_
  refine x_tableIn (tgt := 102) C dX11_errorOf_6 (by decide) (by decide) (off := 96) (by decide) (by decide) ?_
  refine x_aload_n C dX11_errorOf_102 rfl rfl ?_
  refine x_iload_n C dX11_errorOf_103 rfl rfl ?_
  refine x_iconst (v := 0) C dX11_errorOf_104 (by decide) ?_
  refine x_bipush (v := 60) C dX11_errorOf_105 (by decide) ?_
  refine x_callV3 C dX11_errorOf_107 kX11_264 (c_X11_inRange hO hi (hin i (Nat.le_refl _)) (rH_B hd)) (rH_g0 hd) rfl (by decide) ⟨Nat.zero_le _, Nat.zero_le _⟩ (Nat.le_of_ble_eq_true rfl) ?_
  rintro _ _ ⟨rfl, rfl⟩
  refine x_iret C E dX11_errorOf_110 ?_
  exact ⟨rfl, rfl⟩
set_option maxHeartbeats 4000000 in
set_option maxRecDepth 100000 in
theorem c_X11_errorOf9 {l : Launch} {Y0 : x_Y} (hO : x_Ok Y0) {M : x_M} {o r i : Nat} {Ev : rE} {R : rS} (hd : o + 7 ≤ r) (hb : rB M o r Ev R) (hi : i < 401) (hin : ∀ k, k ≤ i → r_in Ev k) (ha : R.2.2.2.1 i = 9) : x_C l Y0 yX11_errorOf cX11_errorOf 2 (some .int) 5 0 0 [.ref o, .int (nI i)] M (fun u M1 => u = some (.int (r_rng Ev i 1 20)) ∧ M1 = rH M o r (Ev) R) := by
  refine x_start hO (by decide +kernel) (Nat.le_of_ble_eq_true rfl) (fun K C E => ?_)
  refine x_to (rH_self hb).symm ?_
  refine x_aload_n C dX11_errorOf_0 rfl rfl ?_
  refine x_getfield C dX11_errorOf_1 fX11_26 (rH_g0 hd) rfl ?_
  refine x_iload_n C dX11_errorOf_4 rfl rfl ?_
  refine x_iaload C dX11_errorOf_5 (rH_g5 hd) (nI_in hi (by decide)) ?_
  rw [nI_clamp (show i < 2 ^ 31 by omega)]
  refine x_topi 9 ha ?_
  refine x_tableOut (tgt := 111) C dX11_errorOf_6 (by decide) (by decide) ?_
  refine x_aload_n C dX11_errorOf_111 rfl rfl ?_
  refine x_iload_n C dX11_errorOf_112 rfl rfl ?_
  refine x_iconst (v := 1) C dX11_errorOf_113 (by decide) ?_
  refine x_bipush (v := 20) C dX11_errorOf_114 (by decide) ?_
  refine x_callV3 C dX11_errorOf_116 kX11_264 (c_X11_inRange hO hi (hin i (Nat.le_refl _)) (rH_B hd)) (rH_g0 hd) rfl (by decide) ⟨Nat.zero_le _, Nat.zero_le _⟩ (Nat.le_of_ble_eq_true rfl) ?_
  rintro _ _ ⟨rfl, rfl⟩
  refine x_iret C E dX11_errorOf_119 ?_
  exact ⟨rfl, rfl⟩
