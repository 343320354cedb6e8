theorem k_by_and (y : Int32) : ∃ c, c < 256 ∧ y &&& 255 = nI c := by
  refine ⟨(y.toBitVec &&& 255#32).toNat, ?_, ?_⟩
  · rw [BitVec.toNat_and]
    exact Nat.lt_of_le_of_lt Nat.and_le_right (by decide)
  · apply Int32.toBitVec_inj.mp
    show y.toBitVec &&& 255#32 = (Int32.ofNat (y.toBitVec &&& 255#32).toNat).toBitVec
    rw [Int32.toBitVec_ofNat', BitVec.ofNat_toNat, BitVec.setWidth_eq]
theorem k_by_upd {f : Nat → Int32} (h : k_by f) {j k : Nat} {w : Int32} : k_by (upd f j (b_by w k)) := by
  intro i
  by_cases e : i = j
  · subst e
    rw [upd_at]
    exact k_by_and _
  · rw [upd_ne e]
    exact h i
theorem k_by_w4 {f : Nat → Int32} (h : k_by f) {n : Nat} {w : Int32} : k_by (b_w4 f n w) := k_by_upd (k_by_upd (k_by_upd (k_by_upd h)))
theorem k_by_feed {f : Nat → Int32} (h : k_by f) {n : Nat} {a b c d e : Int32} : k_by (b_feed f n a b c d e) := k_by_w4 (k_by_w4 (k_by_w4 (k_by_w4 (k_by_w4 h))))
theorem days_of {x : Int32} (h : (!decide (x < 1) && !decide (30 < x)) = true) : ∃ n, 1 ≤ n ∧ n ≤ 30 ∧ x = nI n := by
  have h1 : ¬ x < 1 := fun q => by rw [decide_eq_true q] at h; cases h
  have h2 : ¬ 30 < x := fun q => by rw [decide_eq_true q] at h; simp at h
  have h0 : ¬ x < 0 := fun q => h1 (Int32.lt_trans q (by decide))
  obtain ⟨n, hn, rfl⟩ := nI_of h0
  refine ⟨n, ?_, ?_, rfl⟩
  · rcases Nat.lt_or_ge n 1 with q | q
    · exact absurd (show nI n < nI 1 from nI_lt q (by decide)) h1
    · exact q
  · rcases Nat.lt_or_ge 30 n with q | q
    · exact absurd (show nI 30 < nI n from nI_lt q hn) h2
    · exact q
theorem trim_of {x : Int32} {n : Nat} (hn : n ≤ 2000) (h : (!decide (x < 0) && !decide (nI n < x)) = true) : ∃ k, k ≤ n ∧ x = nI k := by
  have h0 : ¬ x < 0 := fun q => by rw [decide_eq_true q] at h; cases h
  have h2 : ¬ nI n < x := fun q => by rw [decide_eq_true q] at h; simp at h
  obtain ⟨k, hk, rfl⟩ := nI_of h0
  refine ⟨k, ?_, rfl⟩
  rcases Nat.lt_or_ge n k with q | q
  · exact absurd (nI_lt q hk) h2
  · exact q
set_option maxHeartbeats 4000000 in
set_option maxRecDepth 100000 in
theorem lc_honeyOf {K : x_K} {l : Launch} {Y0 : x_Y} {nm9 : String} (hO : x_Ok Y0) (hE : x_Ex l Y0) (C : x_Ctx K l Y0 ⟨RL, nm9, ""⟩ cL_law 9 2048 601024 7293034) {b c i L cells slots : Nat} {xs : Nat → Int32} (hX9 : va_X b L xs Y0.1 Y0.1.heap) (hb9 : b < Y0.2.2.2) (hi : i + 6 ≤ L) (hL : L ≤ 3072) (hc9 : cells + 40 ≤ 601024 ∧ slots + 1600 ≤ 7293034) {M : x_M} (hw0 : wL M c) (kk : ∀ M1, wL M1 c → x_X K 9 (cells + 40) (slots + 1600) 1846 (lvL b c i) [] M1) : x_X K 9 cells slots 477 (lvL b c i) [] M := by
  obtain ⟨n, f, P, A, ep, th, g, hw⟩ := hw0
  obtain ⟨hn, hf, hP, hk9, hg, hC, hM⟩ := id hw
  obtain ⟨fs, hc⟩ := wC_c hC
  obtain ⟨x1, e1⟩ : ∃ x, xs (nI i + 1).toNatClampNeg = x := ⟨_, rfl⟩
  cases hv : h_inR x1 (p_nd P) with
  | false =>
    exact S_honeyOf hO C hX9 hb9 hi hL hc9 e1 (k := 1) (r := 0) (x_H_mono (lh_honeyOfT hO hc (cw_honeyOfN hO hP hk9 hC hE hv) (by decide)) (fun u M1 q => ⟨q.1, hQ_t (by decide) hw q.2⟩)) (fun M1 w => mw_honeyOfN hO hP hk9 w hv) ⟨by decide, by decide, by decide⟩ hn hf hP hk9 kk
  | true =>
    obtain ⟨d, hd9, rfl⟩ := h_inR_of (show p_nd P < 2 ^ 31 by have := hP.1; omega) hv
    exact S_honeyOf hO C hX9 hb9 hi hL hc9 e1 (k := 0) (r := A 0 d) (x_H_mono (lh_honeyOf hO hc (cw_honeyOf hO hP hk9 hC hd9) (by decide) (fun M1 q => hQ_out hw q)) (fun u M1 q => ⟨q.1, hQ_ok hw q.2⟩)) (fun M1 w => mw_honeyOf hO hP hk9 w hd9) ⟨by decide, by decide, by decide⟩ hn hf hP hk9 kk
set_option maxHeartbeats 4000000 in
set_option maxRecDepth 100000 in
theorem lc_isAwake {K : x_K} {l : Launch} {Y0 : x_Y} {nm9 : String} (hO : x_Ok Y0) (hE : x_Ex l Y0) (C : x_Ctx K l Y0 ⟨RL, nm9, ""⟩ cL_law 9 2048 601024 7293034) {b c i L cells slots : Nat} {xs : Nat → Int32} (hX9 : va_X b L xs Y0.1 Y0.1.heap) (hb9 : b < Y0.2.2.2) (hi : i + 6 ≤ L) (hL : L ≤ 3072) (hc9 : cells + 40 ≤ 601024 ∧ slots + 1600 ≤ 7293034) {M : x_M} (hw0 : wL M c) (kk : ∀ M1, wL M1 c → x_X K 9 (cells + 40) (slots + 1600) 1846 (lvL b c i) [] M1) : x_X K 9 cells slots 533 (lvL b c i) [] M := by
  obtain ⟨n, f, P, A, ep, th, g, hw⟩ := hw0
  obtain ⟨hn, hf, hP, hk9, hg, hC, hM⟩ := id hw
  obtain ⟨fs, hc⟩ := wC_c hC
  obtain ⟨x1, e1⟩ : ∃ x, xs (nI i + 1).toNatClampNeg = x := ⟨_, rfl⟩
  cases hv : h_inR x1 (p_nd P) with
  | false =>
    exact S_isAwake hO C hX9 hb9 hi hL hc9 e1 (k := 1) (r := 0) (x_H_mono (lh_isAwakeT hO hc (cw_isAwakeN hO hP hk9 hC hE hv) (by decide)) (fun u M1 q => ⟨q.1, hQ_t (by decide) hw q.2⟩)) (fun M1 w => mw_isAwakeN hO hP hk9 w hv) ⟨by decide, by decide, by decide⟩ hn hf hP hk9 kk
  | true =>
    obtain ⟨d, hd9, rfl⟩ := h_inR_of (show p_nd P < 2 ^ 31 by have := hP.1; omega) hv
    exact S_isAwake hO C hX9 hb9 hi hL hc9 e1 (k := 0) (r := h_upI A d) (x_H_mono (lh_isAwake hO hc (cw_isAwake hO hP hk9 hC hd9) (by decide) (fun M1 q => hQ_out hw q)) (fun u M1 q => ⟨q.1, hQ_ok hw q.2⟩)) (fun M1 w => mw_isAwake hO hP hk9 w hd9) ⟨by decide, by decide, by decide⟩ hn hf hP hk9 kk
set_option maxHeartbeats 4000000 in
set_option maxRecDepth 100000 in
theorem lc_blockedBy {K : x_K} {l : Launch} {Y0 : x_Y} {nm9 : String} (hO : x_Ok Y0) (hE : x_Ex l Y0) (C : x_Ctx K l Y0 ⟨RL, nm9, ""⟩ cL_law 9 2048 601024 7293034) {b c i L cells slots : Nat} {xs : Nat → Int32} (hX9 : va_X b L xs Y0.1 Y0.1.heap) (hb9 : b < Y0.2.2.2) (hi : i + 6 ≤ L) (hL : L ≤ 3072) (hc9 : cells + 40 ≤ 601024 ∧ slots + 1600 ≤ 7293034) {M : x_M} (hw0 : wL M c) (kk : ∀ M1, wL M1 c → x_X K 9 (cells + 40) (slots + 1600) 1846 (lvL b c i) [] M1) : x_X K 9 cells slots 596 (lvL b c i) [] M := by
  obtain ⟨n, f, P, A, ep, th, g, hw⟩ := hw0
  obtain ⟨hn, hf, hP, hk9, hg, hC, hM⟩ := id hw
  obtain ⟨fs, hc⟩ := wC_c hC
  obtain ⟨x1, e1⟩ : ∃ x, xs (nI i + 1).toNatClampNeg = x := ⟨_, rfl⟩
  cases hv : h_inR x1 (p_nd P) with
  | false =>
    exact S_blockedBy hO C hX9 hb9 hi hL hc9 e1 (k := 1) (r := 0) (x_H_mono (lh_blockedByT hO hc (cw_blockedByN hO hP hk9 hC hE hv) (by decide)) (fun u M1 q => ⟨q.1, hQ_t (by decide) hw q.2⟩)) (fun M1 w => mw_blockedByN hO hP hk9 w hv) ⟨by decide, by decide, by decide⟩ hn hf hP hk9 kk
  | true =>
    obtain ⟨d, hd9, rfl⟩ := h_inR_of (show p_nd P < 2 ^ 31 by have := hP.1; omega) hv
    exact S_blockedBy hO C hX9 hb9 hi hL hc9 e1 (k := 0) (r := A 2 d) (x_H_mono (lh_blockedBy hO hc (cw_blockedBy hO hP hk9 hC hd9) (by decide) (fun M1 q => hQ_out hw q)) (fun u M1 q => ⟨q.1, hQ_ok hw q.2⟩)) (fun M1 w => mw_blockedBy hO hP hk9 w hd9) ⟨by decide, by decide, by decide⟩ hn hf hP hk9 kk
set_option maxHeartbeats 4000000 in
set_option maxRecDepth 100000 in
theorem lc_logOf {K : x_K} {l : Launch} {Y0 : x_Y} {nm9 : String} (hO : x_Ok Y0) (hE : x_Ex l Y0) (C : x_Ctx K l Y0 ⟨RL, nm9, ""⟩ cL_law 9 2048 601024 7293034) {b c i L cells slots : Nat} {xs : Nat → Int32} (hX9 : va_X b L xs Y0.1 Y0.1.heap) (hb9 : b < Y0.2.2.2) (hi : i + 6 ≤ L) (hL : L ≤ 3072) (hc9 : cells + 40 ≤ 601024 ∧ slots + 1600 ≤ 7293034) {M : x_M} (hw0 : wL M c) (kk : ∀ M1, wL M1 c → x_X K 9 (cells + 40) (slots + 1600) 1846 (lvL b c i) [] M1) : x_X K 9 cells slots 652 (lvL b c i) [] M := by
  obtain ⟨n, f, P, A, ep, th, g, hw⟩ := hw0
  obtain ⟨hn, hf, hP, hk9, hg, hC, hM⟩ := id hw
  obtain ⟨fs, hc⟩ := wC_c hC
  obtain ⟨x1, e1⟩ : ∃ x, xs (nI i + 1).toNatClampNeg = x := ⟨_, rfl⟩
  cases hv : h_inR x1 (p_nd P) with
  | false =>
    exact S_logOf hO C hX9 hb9 hi hL hc9 e1 (k := 1) (r := 0) (x_H_mono (lh_logOfT hO hc (cw_logOfN hO hP hk9 hC hE hv) (by decide)) (fun u M1 q => ⟨q.1, hQ_t (by decide) hw q.2⟩)) (fun M1 w => mw_logOfN hO hP hk9 w hv) ⟨by decide, by decide, by decide⟩ hn hf hP hk9 kk
  | true =>
    obtain ⟨d, hd9, rfl⟩ := h_inR_of (show p_nd P < 2 ^ 31 by have := hP.1; omega) hv
    exact S_logOf hO C hX9 hb9 hi hL hc9 e1 (k := 0) (r := A 3 d) (x_H_mono (lh_logOf hO hc (cw_logOf hO hP hk9 hC hd9) (by decide) (fun M1 q => hQ_out hw q)) (fun u M1 q => ⟨q.1, hQ_ok hw q.2⟩)) (fun M1 w => mw_logOf hO hP hk9 w hd9) ⟨by decide, by decide, by decide⟩ hn hf hP hk9 kk
set_option maxHeartbeats 4000000 in
set_option maxRecDepth 100000 in
theorem lc_daysUntilFree {K : x_K} {l : Launch} {Y0 : x_Y} {nm9 : String} (hO : x_Ok Y0) (hE : x_Ex l Y0) (C : x_Ctx K l Y0 ⟨RL, nm9, ""⟩ cL_law 9 2048 601024 7293034) {b c i L cells slots : Nat} {xs : Nat → Int32} (hX9 : va_X b L xs Y0.1 Y0.1.heap) (hb9 : b < Y0.2.2.2) (hi : i + 6 ≤ L) (hL : L ≤ 3072) (hc9 : cells + 40 ≤ 601024 ∧ slots + 1600 ≤ 7293034) {M : x_M} (hw0 : wL M c) (kk : ∀ M1, wL M1 c → x_X K 9 (cells + 40) (slots + 1600) 1846 (lvL b c i) [] M1) : x_X K 9 cells slots 1722 (lvL b c i) [] M := by
  obtain ⟨n, f, P, A, ep, th, g, hw⟩ := hw0
  obtain ⟨hn, hf, hP, hk9, hg, hC, hM⟩ := id hw
  obtain ⟨fs, hc⟩ := wC_c hC
  obtain ⟨x1, e1⟩ : ∃ x, xs (nI i + 1).toNatClampNeg = x := ⟨_, rfl⟩
  cases hv : h_inR x1 (p_nd P) with
  | false =>
    exact S_daysUntilFree hO C hX9 hb9 hi hL hc9 e1 (k := 1) (r := 0) (x_H_mono (lh_daysUntilFreeT hO hc (cw_daysUntilFreeN hO hP hk9 hC hE hv) (by decide)) (fun u M1 q => ⟨q.1, hQ_t (by decide) hw q.2⟩)) (fun M1 w => mw_daysUntilFreeN hO hP hk9 w hv) ⟨by decide, by decide, by decide⟩ hn hf hP hk9 kk
  | true =>
    obtain ⟨d, hd9, rfl⟩ := h_inR_of (show p_nd P < 2 ^ 31 by have := hP.1; omega) hv
    exact S_daysUntilFree hO C hX9 hb9 hi hL hc9 e1 (k := 0) (r := h_fr P d 40 0 A) (x_H_mono (lh_daysUntilFree hO hc (cw_daysUntilFree hO hP hk9 hC hd9) (by decide) (fun M1 q => hQ_out hw q)) (fun u M1 q => ⟨q.1, hQ_ok hw q.2⟩)) (fun M1 w => mw_daysUntilFree hO hP hk9 w hd9) ⟨by decide, by decide, by decide⟩ hn hf hP hk9 kk
set_option maxHeartbeats 4000000 in
set_option maxRecDepth 100000 in
theorem lc_stateOf {K : x_K} {l : Launch} {Y0 : x_Y} {nm9 : String} (hO : x_Ok Y0) (hE : x_Ex l Y0) (C : x_Ctx K l Y0 ⟨RL, nm9, ""⟩ cL_law 9 2048 601024 7293034) {b c i L cells slots : Nat} {xs : Nat → Int32} (hX9 : va_X b L xs Y0.1 Y0.1.heap) (hb9 : b < Y0.2.2.2) (hi : i + 6 ≤ L) (hL : L ≤ 3072) (hc9 : cells + 40 ≤ 601024 ∧ slots + 1600 ≤ 7293034) {M : x_M} (hw0 : wL M c) (kk : ∀ M1, wL M1 c → x_X K 9 (cells + 40) (slots + 1600) 1846 (lvL b c i) [] M1) : x_X K 9 cells slots 708 (lvL b c i) [] M := by
  obtain ⟨n, f, P, A, ep, th, g, hw⟩ := hw0
  obtain ⟨hn, hf, hP, hk9, hg, hC, hM⟩ := id hw
  obtain ⟨fs, hc⟩ := wC_c hC
  obtain ⟨x1, e1⟩ : ∃ x, xs (nI i + 1).toNatClampNeg = x := ⟨_, rfl⟩
  cases hv : h_inR x1 (p_nk P) with
  | false =>
    exact S_stateOf hO C hX9 hb9 hi hL hc9 e1 (k := 1) (r := 0) (x_H_mono (lh_stateOfT hO hc (cw_stateOfN hO hP hk9 hC hE hv) (by decide)) (fun u M1 q => ⟨q.1, hQ_t (by decide) hw q.2⟩)) (fun M1 w => mw_stateOfN hO hP hk9 w hv) ⟨by decide, by decide, by decide⟩ hn hf hP hk9 kk
  | true =>
    obtain ⟨k, hk, rfl⟩ := h_inR_of (show p_nk P < 2 ^ 31 by have := hP.2.1; omega) hv
    exact S_stateOf hO C hX9 hb9 hi hL hc9 e1 (k := 0) (r := A 4 k) (x_H_mono (lh_stateOf hO hc (cw_stateOf hO hP hk9 hC hk) (by decide) (fun M1 q => hQ_out hw q)) (fun u M1 q => ⟨q.1, hQ_ok hw q.2⟩)) (fun M1 w => mw_stateOf hO hP hk9 w hk) ⟨by decide, by decide, by decide⟩ hn hf hP hk9 kk
set_option maxHeartbeats 4000000 in
set_option maxRecDepth 100000 in
theorem lc_waitsOf {K : x_K} {l : Launch} {Y0 : x_Y} {nm9 : String} (hO : x_Ok Y0) (hE : x_Ex l Y0) (C : x_Ctx K l Y0 ⟨RL, nm9, ""⟩ cL_law 9 2048 601024 7293034) {b c i L cells slots : Nat} {xs : Nat → Int32} (hX9 : va_X b L xs Y0.1 Y0.1.heap) (hb9 : b < Y0.2.2.2) (hi : i + 6 ≤ L) (hL : L ≤ 3072) (hc9 : cells + 40 ≤ 601024 ∧ slots + 1600 ≤ 7293034) {M : x_M} (hw0 : wL M c) (kk : ∀ M1, wL M1 c → x_X K 9 (cells + 40) (slots + 1600) 1846 (lvL b c i) [] M1) : x_X K 9 cells slots 764 (lvL b c i) [] M := by
  obtain ⟨n, f, P, A, ep, th, g, hw⟩ := hw0
  obtain ⟨hn, hf, hP, hk9, hg, hC, hM⟩ := id hw
  obtain ⟨fs, hc⟩ := wC_c hC
  obtain ⟨x1, e1⟩ : ∃ x, xs (nI i + 1).toNatClampNeg = x := ⟨_, rfl⟩
  cases hv : h_inR x1 (p_nk P) with
  | false =>
    exact S_waitsOf hO C hX9 hb9 hi hL hc9 e1 (k := 1) (r := 0) (x_H_mono (lh_waitsOfT hO hc (cw_waitsOfN hO hP hk9 hC hE hv) (by decide)) (fun u M1 q => ⟨q.1, hQ_t (by decide) hw q.2⟩)) (fun M1 w => mw_waitsOfN hO hP hk9 w hv) ⟨by decide, by decide, by decide⟩ hn hf hP hk9 kk
  | true =>
    obtain ⟨k, hk, rfl⟩ := h_inR_of (show p_nk P < 2 ^ 31 by have := hP.2.1; omega) hv
    exact S_waitsOf hO C hX9 hb9 hi hL hc9 e1 (k := 0) (r := h_waits A k) (x_H_mono (lh_waitsOf hO hc (cw_waitsOf hO hP hk9 hC hk) (by decide) (fun M1 q => hQ_out hw q)) (fun u M1 q => ⟨q.1, hQ_ok hw q.2⟩)) (fun M1 w => mw_waitsOf hO hP hk9 w hk) ⟨by decide, by decide, by decide⟩ hn hf hP hk9 kk
set_option maxHeartbeats 4000000 in
set_option maxRecDepth 100000 in
theorem lc_partsOf {K : x_K} {l : Launch} {Y0 : x_Y} {nm9 : String} (hO : x_Ok Y0) (hE : x_Ex l Y0) (C : x_Ctx K l Y0 ⟨RL, nm9, ""⟩ cL_law 9 2048 601024 7293034) {b c i L cells slots : Nat} {xs : Nat → Int32} (hX9 : va_X b L xs Y0.1 Y0.1.heap) (hb9 : b < Y0.2.2.2) (hi : i + 6 ≤ L) (hL : L ≤ 3072) (hc9 : cells + 40 ≤ 601024 ∧ slots + 1600 ≤ 7293034) {M : x_M} (hw0 : wL M c) (kk : ∀ M1, wL M1 c → x_X K 9 (cells + 40) (slots + 1600) 1846 (lvL b c i) [] M1) : x_X K 9 cells slots 820 (lvL b c i) [] M := by
  obtain ⟨n, f, P, A, ep, th, g, hw⟩ := hw0
  obtain ⟨hn, hf, hP, hk9, hg, hC, hM⟩ := id hw
  obtain ⟨fs, hc⟩ := wC_c hC
  obtain ⟨x1, e1⟩ : ∃ x, xs (nI i + 1).toNatClampNeg = x := ⟨_, rfl⟩
  cases hv : h_inR x1 (p_nk P) with
  | false =>
    exact S_partsOf hO C hX9 hb9 hi hL hc9 e1 (k := 1) (r := 0) (x_H_mono (lh_partsOfT hO hc (cw_partsOfN hO hP hk9 hC hE hv) (by decide)) (fun u M1 q => ⟨q.1, hQ_t (by decide) hw q.2⟩)) (fun M1 w => mw_partsOfN hO hP hk9 w hv) ⟨by decide, by decide, by decide⟩ hn hf hP hk9 kk
  | true =>
    obtain ⟨k, hk, rfl⟩ := h_inR_of (show p_nk P < 2 ^ 31 by have := hP.2.1; omega) hv
    exact S_partsOf hO C hX9 hb9 hi hL hc9 e1 (k := 0) (r := nI (p_np P k)) (x_H_mono (lh_partsOf hO hc (cw_partsOf hO hP hk9 hC hk) (by decide) (fun M1 q => hQ_out hw q)) (fun u M1 q => ⟨q.1, hQ_ok hw q.2⟩)) (fun M1 w => mw_partsOf hO hP hk9 w hk) ⟨by decide, by decide, by decide⟩ hn hf hP hk9 kk
set_option maxHeartbeats 4000000 in
set_option maxRecDepth 100000 in
theorem lc_votesFor {K : x_K} {l : Launch} {Y0 : x_Y} {nm9 : String} (hO : x_Ok Y0) (hE : x_Ex l Y0) (C : x_Ctx K l Y0 ⟨RL, nm9, ""⟩ cL_law 9 2048 601024 7293034) {b c i L cells slots : Nat} {xs : Nat → Int32} (hX9 : va_X b L xs Y0.1 Y0.1.heap) (hb9 : b < Y0.2.2.2) (hi : i + 6 ≤ L) (hL : L ≤ 3072) (hc9 : cells + 40 ≤ 601024 ∧ slots + 1600 ≤ 7293034) {M : x_M} (hw0 : wL M c) (kk : ∀ M1, wL M1 c → x_X K 9 (cells + 40) (slots + 1600) 1846 (lvL b c i) [] M1) : x_X K 9 cells slots 1155 (lvL b c i) [] M := by
  obtain ⟨n, f, P, A, ep, th, g, hw⟩ := hw0
  obtain ⟨hn, hf, hP, hk9, hg, hC, hM⟩ := id hw
  obtain ⟨fs, hc⟩ := wC_c hC
  obtain ⟨x1, e1⟩ : ∃ x, xs (nI i + 1).toNatClampNeg = x := ⟨_, rfl⟩
  cases hv : h_inR x1 (p_nk P) with
  | false =>
    exact S_votesFor hO C hX9 hb9 hi hL hc9 e1 (k := 1) (r := 0) (x_H_mono (lh_votesForT hO hc (cw_votesForN hO hP hk9 hC hE hv) (by decide)) (fun u M1 q => ⟨q.1, hQ_t (by decide) hw q.2⟩)) (fun M1 w => mw_votesForN hO hP hk9 w hv) ⟨by decide, by decide, by decide⟩ hn hf hP hk9 kk
  | true =>
    obtain ⟨k, hk, rfl⟩ := h_inR_of (show p_nk P < 2 ^ 31 by have := hP.2.1; omega) hv
    exact S_votesFor hO C hX9 hb9 hi hL hc9 e1 (k := 0) (r := h_votes P A k 1) (x_H_mono (lh_votesFor hO hc (cw_votesFor hO hP hk9 hC hk) (by decide) (fun M1 q => hQ_out hw q)) (fun u M1 q => ⟨q.1, hQ_ok hw q.2⟩)) (fun M1 w => mw_votesFor hO hP hk9 w hk) ⟨by decide, by decide, by decide⟩ hn hf hP hk9 kk
set_option maxHeartbeats 4000000 in
set_option maxRecDepth 100000 in
theorem lc_wouldAgree {K : x_K} {l : Launch} {Y0 : x_Y} {nm9 : String} (hO : x_Ok Y0) (hE : x_Ex l Y0) (C : x_Ctx K l Y0 ⟨RL, nm9, ""⟩ cL_law 9 2048 601024 7293034) {b c i L cells slots : Nat} {xs : Nat → Int32} (hX9 : va_X b L xs Y0.1 Y0.1.heap) (hb9 : b < Y0.2.2.2) (hi : i + 6 ≤ L) (hL : L ≤ 3072) (hc9 : cells + 40 ≤ 601024 ∧ slots + 1600 ≤ 7293034) {M : x_M} (hw0 : wL M c) (kk : ∀ M1, wL M1 c → x_X K 9 (cells + 40) (slots + 1600) 1846 (lvL b c i) [] M1) : x_X K 9 cells slots 1211 (lvL b c i) [] M := by
  obtain ⟨n, f, P, A, ep, th, g, hw⟩ := hw0
  obtain ⟨hn, hf, hP, hk9, hg, hC, hM⟩ := id hw
  obtain ⟨fs, hc⟩ := wC_c hC
  obtain ⟨x1, e1⟩ : ∃ x, xs (nI i + 1).toNatClampNeg = x := ⟨_, rfl⟩
  cases hv : h_inR x1 (p_nk P) with
  | false =>
    exact S_wouldAgree hO C hX9 hb9 hi hL hc9 e1 (k := 1) (r := 0) (x_H_mono (lh_wouldAgreeT hO hc (cw_wouldAgreeN hO hP hk9 hC hE hv) (by decide)) (fun u M1 q => ⟨q.1, hQ_t (by decide) hw q.2⟩)) (fun M1 w => mw_wouldAgreeN hO hP hk9 w hv) ⟨by decide, by decide, by decide⟩ hn hf hP hk9 kk
  | true =>
    obtain ⟨k, hk, rfl⟩ := h_inR_of (show p_nk P < 2 ^ 31 by have := hP.2.1; omega) hv
    exact S_wouldAgree hO C hX9 hb9 hi hL hc9 e1 (k := 0) (r := h_b (h_agrAll P A k)) (x_H_mono (lh_wouldAgree hO hc (cw_wouldAgree hO hP hk9 hC hk) (by decide) (fun M1 q => hQ_out hw q)) (fun u M1 q => ⟨q.1, hQ_ok hw q.2⟩)) (fun M1 w => mw_wouldAgree hO hP hk9 w hk) ⟨by decide, by decide, by decide⟩ hn hf hP hk9 kk
set_option maxHeartbeats 4000000 in
set_option maxRecDepth 100000 in
theorem lc_droneIn {K : x_K} {l : Launch} {Y0 : x_Y} {nm9 : String} (hO : x_Ok Y0) (hE : x_Ex l Y0) (C : x_Ctx K l Y0 ⟨RL, nm9, ""⟩ cL_law 9 2048 601024 7293034) {b c i L cells slots : Nat} {xs : Nat → Int32} (hX9 : va_X b L xs Y0.1 Y0.1.heap) (hb9 : b < Y0.2.2.2) (hi : i + 6 ≤ L) (hL : L ≤ 3072) (hc9 : cells + 40 ≤ 601024 ∧ slots + 1600 ≤ 7293034) {M : x_M} (hw0 : wL M c) (kk : ∀ M1, wL M1 c → x_X K 9 (cells + 40) (slots + 1600) 1846 (lvL b c i) [] M1) : x_X K 9 cells slots 876 (lvL b c i) [] M := by
  obtain ⟨n, f, P, A, ep, th, g, hw⟩ := hw0
  obtain ⟨hn, hf, hP, hk9, hg, hC, hM⟩ := id hw
  obtain ⟨fs, hc⟩ := wC_c hC
  obtain ⟨x1, e1⟩ : ∃ x, xs (nI i + 1).toNatClampNeg = x := ⟨_, rfl⟩
  obtain ⟨x2, e2⟩ : ∃ x, xs (nI i + 2).toNatClampNeg = x := ⟨_, rfl⟩
  cases hv : h_inR x1 (p_nk P) with
  | false =>
    exact S_droneIn hO C hX9 hb9 hi hL hc9 e1 e2 (k := 1) (r := 0) (x_H_mono (lh_droneInT hO hc (cw_droneInN hO hP hk9 hC hE hv) (by decide)) (fun u M1 q => ⟨q.1, hQ_t (by decide) hw q.2⟩)) (fun M1 w => mw_droneInN hO hP hk9 w hv) ⟨by decide, by decide, by decide⟩ hn hf hP hk9 kk
  | true =>
    obtain ⟨k, hk, rfl⟩ := h_inR_of (show p_nk P < 2 ^ 31 by have := hP.2.1; omega) hv
    cases hv2 : h_inR x2 (p_np P k) with
    | false =>
      exact S_droneIn hO C hX9 hb9 hi hL hc9 e1 e2 (k := 1) (r := 0) (x_H_mono (lh_droneInT hO hc (cw_droneInM hO hP hk9 hC hE hk hv2) (by decide)) (fun u M1 q => ⟨q.1, hQ_t (by decide) hw q.2⟩)) (fun M1 w => mw_droneInM hO hP hk9 w hk hv2) ⟨by decide, by decide, by decide⟩ hn hf hP hk9 kk
    | true =>
      obtain ⟨j, hj, rfl⟩ := h_inR_of (show p_np P k < 2 ^ 31 by have := (hP.2.2.2.1 k hk).2; omega) hv2
      exact S_droneIn hO C hX9 hb9 hi hL hc9 e1 e2 (k := 0) (r := nI (p_who P (6 * k + j))) (x_H_mono (lh_droneIn hO hc (cw_droneIn hO hP hk9 hC hk hj) (by decide) (fun M1 q => hQ_out hw q)) (fun u M1 q => ⟨q.1, hQ_ok hw q.2⟩)) (fun M1 w => mw_droneIn hO hP hk9 w hk hj) ⟨by decide, by decide, by decide⟩ hn hf hP hk9 kk
set_option maxHeartbeats 4000000 in
set_option maxRecDepth 100000 in
theorem lc_changeIn {K : x_K} {l : Launch} {Y0 : x_Y} {nm9 : String} (hO : x_Ok Y0) (hE : x_Ex l Y0) (C : x_Ctx K l Y0 ⟨RL, nm9, ""⟩ cL_law 9 2048 601024 7293034) {b c i L cells slots : Nat} {xs : Nat → Int32} (hX9 : va_X b L xs Y0.1 Y0.1.heap) (hb9 : b < Y0.2.2.2) (hi : i + 6 ≤ L) (hL : L ≤ 3072) (hc9 : cells + 40 ≤ 601024 ∧ slots + 1600 ≤ 7293034) {M : x_M} (hw0 : wL M c) (kk : ∀ M1, wL M1 c → x_X K 9 (cells + 40) (slots + 1600) 1846 (lvL b c i) [] M1) : x_X K 9 cells slots 944 (lvL b c i) [] M := by
  obtain ⟨n, f, P, A, ep, th, g, hw⟩ := hw0
  obtain ⟨hn, hf, hP, hk9, hg, hC, hM⟩ := id hw
  obtain ⟨fs, hc⟩ := wC_c hC
  obtain ⟨x1, e1⟩ : ∃ x, xs (nI i + 1).toNatClampNeg = x := ⟨_, rfl⟩
  obtain ⟨x2, e2⟩ : ∃ x, xs (nI i + 2).toNatClampNeg = x := ⟨_, rfl⟩
  cases hv : h_inR x1 (p_nk P) with
  | false =>
    exact S_changeIn hO C hX9 hb9 hi hL hc9 e1 e2 (k := 1) (r := 0) (x_H_mono (lh_changeInT hO hc (cw_changeInN hO hP hk9 hC hE hv) (by decide)) (fun u M1 q => ⟨q.1, hQ_t (by decide) hw q.2⟩)) (fun M1 w => mw_changeInN hO hP hk9 w hv) ⟨by decide, by decide, by decide⟩ hn hf hP hk9 kk
  | true =>
    obtain ⟨k, hk, rfl⟩ := h_inR_of (show p_nk P < 2 ^ 31 by have := hP.2.1; omega) hv
    cases hv2 : h_inR x2 (p_np P k) with
    | false =>
      exact S_changeIn hO C hX9 hb9 hi hL hc9 e1 e2 (k := 1) (r := 0) (x_H_mono (lh_changeInT hO hc (cw_changeInM hO hP hk9 hC hE hk hv2) (by decide)) (fun u M1 q => ⟨q.1, hQ_t (by decide) hw q.2⟩)) (fun M1 w => mw_changeInM hO hP hk9 w hk hv2) ⟨by decide, by decide, by decide⟩ hn hf hP hk9 kk
    | true =>
      obtain ⟨j, hj, rfl⟩ := h_inR_of (show p_np P k < 2 ^ 31 by have := (hP.2.2.2.1 k hk).2; omega) hv2
      exact S_changeIn hO C hX9 hb9 hi hL hc9 e1 e2 (k := 0) (r := p_mv P (6 * k + j)) (x_H_mono (lh_changeIn hO hc (cw_changeIn hO hP hk9 hC hk hj) (by decide) (fun M1 q => hQ_out hw q)) (fun u M1 q => ⟨q.1, hQ_ok hw q.2⟩)) (fun M1 w => mw_changeIn hO hP hk9 w hk hj) ⟨by decide, by decide, by decide⟩ hn hf hP hk9 kk
set_option maxHeartbeats 4000000 in
set_option maxRecDepth 100000 in
theorem lc_voteIn {K : x_K} {l : Launch} {Y0 : x_Y} {nm9 : String} (hO : x_Ok Y0) (hE : x_Ex l Y0) (C : x_Ctx K l Y0 ⟨RL, nm9, ""⟩ cL_law 9 2048 601024 7293034) {b c i L cells slots : Nat} {xs : Nat → Int32} (hX9 : va_X b L xs Y0.1 Y0.1.heap) (hb9 : b < Y0.2.2.2) (hi : i + 6 ≤ L) (hL : L ≤ 3072) (hc9 : cells + 40 ≤ 601024 ∧ slots + 1600 ≤ 7293034) {M : x_M} (hw0 : wL M c) (kk : ∀ M1, wL M1 c → x_X K 9 (cells + 40) (slots + 1600) 1846 (lvL b c i) [] M1) : x_X K 9 cells slots 1012 (lvL b c i) [] M := by
  obtain ⟨n, f, P, A, ep, th, g, hw⟩ := hw0
  obtain ⟨hn, hf, hP, hk9, hg, hC, hM⟩ := id hw
  obtain ⟨fs, hc⟩ := wC_c hC
  obtain ⟨x1, e1⟩ : ∃ x, xs (nI i + 1).toNatClampNeg = x := ⟨_, rfl⟩
  obtain ⟨x2, e2⟩ : ∃ x, xs (nI i + 2).toNatClampNeg = x := ⟨_, rfl⟩
  cases hv : h_inR x1 (p_nk P) with
  | false =>
    exact S_voteIn hO C hX9 hb9 hi hL hc9 e1 e2 (k := 1) (r := 0) (x_H_mono (lh_voteInT hO hc (cw_voteInN hO hP hk9 hC hE hv) (by decide)) (fun u M1 q => ⟨q.1, hQ_t (by decide) hw q.2⟩)) (fun M1 w => mw_voteInN hO hP hk9 w hv) ⟨by decide, by decide, by decide⟩ hn hf hP hk9 kk
  | true =>
    obtain ⟨k, hk, rfl⟩ := h_inR_of (show p_nk P < 2 ^ 31 by have := hP.2.1; omega) hv
    cases hv2 : h_inR x2 (p_np P k) with
    | false =>
      exact S_voteIn hO C hX9 hb9 hi hL hc9 e1 e2 (k := 1) (r := 0) (x_H_mono (lh_voteInT hO hc (cw_voteInM hO hP hk9 hC hE hk hv2) (by decide)) (fun u M1 q => ⟨q.1, hQ_t (by decide) hw q.2⟩)) (fun M1 w => mw_voteInM hO hP hk9 w hk hv2) ⟨by decide, by decide, by decide⟩ hn hf hP hk9 kk
    | true =>
      obtain ⟨j, hj, rfl⟩ := h_inR_of (show p_np P k < 2 ^ 31 by have := (hP.2.2.2.1 k hk).2; omega) hv2
      exact S_voteIn hO C hX9 hb9 hi hL hc9 e1 e2 (k := 0) (r := A 6 (6 * k + j)) (x_H_mono (lh_voteIn hO hc (cw_voteIn hO hP hk9 hC hk hj) (by decide) (fun M1 q => hQ_out hw q)) (fun u M1 q => ⟨q.1, hQ_ok hw q.2⟩)) (fun M1 w => mw_voteIn hO hP hk9 w hk hj) ⟨by decide, by decide, by decide⟩ hn hf hP hk9 kk
set_option maxHeartbeats 4000000 in
set_option maxRecDepth 100000 in
theorem lc_hasHeard {K : x_K} {l : Launch} {Y0 : x_Y} {nm9 : String} (hO : x_Ok Y0) (hE : x_Ex l Y0) (C : x_Ctx K l Y0 ⟨RL, nm9, ""⟩ cL_law 9 2048 601024 7293034) {b c i L cells slots : Nat} {xs : Nat → Int32} (hX9 : va_X b L xs Y0.1 Y0.1.heap) (hb9 : b < Y0.2.2.2) (hi : i + 6 ≤ L) (hL : L ≤ 3072) (hc9 : cells + 40 ≤ 601024 ∧ slots + 1600 ≤ 7293034) {M : x_M} (hw0 : wL M c) (kk : ∀ M1, wL M1 c → x_X K 9 (cells + 40) (slots + 1600) 1846 (lvL b c i) [] M1) : x_X K 9 cells slots 1080 (lvL b c i) [] M := by
  obtain ⟨n, f, P, A, ep, th, g, hw⟩ := hw0
  obtain ⟨hn, hf, hP, hk9, hg, hC, hM⟩ := id hw
  obtain ⟨fs, hc⟩ := wC_c hC
  obtain ⟨x1, e1⟩ : ∃ x, xs (nI i + 1).toNatClampNeg = x := ⟨_, rfl⟩
  obtain ⟨x2, e2⟩ : ∃ x, xs (nI i + 2).toNatClampNeg = x := ⟨_, rfl⟩
  cases hv : h_inR x1 (p_nk P) with
  | false =>
    exact S_hasHeard hO C hX9 hb9 hi hL hc9 e1 e2 (k := 1) (r := 0) (x_H_mono (lh_hasHeardT hO hc (cw_hasHeardN hO hP hk9 hC hE hv) (by decide)) (fun u M1 q => ⟨q.1, hQ_t (by decide) hw q.2⟩)) (fun M1 w => mw_hasHeardN hO hP hk9 w hv) ⟨by decide, by decide, by decide⟩ hn hf hP hk9 kk
  | true =>
    obtain ⟨k, hk, rfl⟩ := h_inR_of (show p_nk P < 2 ^ 31 by have := hP.2.1; omega) hv
    cases hv2 : h_inR x2 (p_np P k) with
    | false =>
      exact S_hasHeard hO C hX9 hb9 hi hL hc9 e1 e2 (k := 1) (r := 0) (x_H_mono (lh_hasHeardT hO hc (cw_hasHeardM hO hP hk9 hC hE hk hv2) (by decide)) (fun u M1 q => ⟨q.1, hQ_t (by decide) hw q.2⟩)) (fun M1 w => mw_hasHeardM hO hP hk9 w hk hv2) ⟨by decide, by decide, by decide⟩ hn hf hP hk9 kk
    | true =>
      obtain ⟨j, hj, rfl⟩ := h_inR_of (show p_np P k < 2 ^ 31 by have := (hP.2.2.2.1 k hk).2; omega) hv2
      exact S_hasHeard hO C hX9 hb9 hi hL hc9 e1 e2 (k := 0) (r := A 7 (6 * k + j)) (x_H_mono (lh_hasHeard hO hc (cw_hasHeard hO hP hk9 hC hk hj) (by decide) (fun M1 q => hQ_out hw q)) (fun u M1 q => ⟨q.1, hQ_ok hw q.2⟩)) (fun M1 w => mw_hasHeard hO hP hk9 w hk hj) ⟨by decide, by decide, by decide⟩ hn hf hP hk9 kk
set_option maxHeartbeats 4000000 in
set_option maxRecDepth 100000 in
theorem lc_begin {K : x_K} {l : Launch} {Y0 : x_Y} {nm9 : String} (hO : x_Ok Y0) (hE : x_Ex l Y0) (C : x_Ctx K l Y0 ⟨RL, nm9, ""⟩ cL_law 9 2048 601024 7293034) {b c i L cells slots : Nat} {xs : Nat → Int32} (hX9 : va_X b L xs Y0.1 Y0.1.heap) (hb9 : b < Y0.2.2.2) (hi : i + 6 ≤ L) (hL : L ≤ 3072) (hc9 : cells + 40 ≤ 601024 ∧ slots + 1600 ≤ 7293034) {M : x_M} (hw0 : wL M c) (kk : ∀ M1, wL M1 c → x_X K 9 (cells + 40) (slots + 1600) 1846 (lvL b c i) [] M1) : x_X K 9 cells slots 1274 (lvL b c i) [] M := by
  obtain ⟨n, f, P, A, ep, th, g, hw⟩ := hw0
  obtain ⟨hn, hf, hP, hk9, hg, hC, hM⟩ := id hw
  obtain ⟨fs, hc⟩ := wC_c hC
  obtain ⟨x1, e1⟩ : ∃ x, xs (nI i + 1).toNatClampNeg = x := ⟨_, rfl⟩
  cases hv : h_inR x1 (p_nk P) with
  | false =>
    exact S_begin hO C hX9 hb9 hi hL hc9 e1 (k := 1) (r := 0) (x_H_mono (lh_beginT hO hc (cw_beginN hO hP hk9 hC hE hv) (by decide)) (fun u M1 q => ⟨q.1, hQ_t (by decide) hw q.2⟩)) (fun M1 w => mw_beginN hO hP hk9 w hv) ⟨by decide, by decide, by decide⟩ hn hf hP hk9 kk
  | true =>
    obtain ⟨k, hk, rfl⟩ := h_inR_of (show p_nk P < 2 ^ 31 by have := hP.2.1; omega) hv
    cases hcan : h_can P A k with
    | false =>
      exact S_begin hO C hX9 hb9 hi hL hc9 e1 (k := 2) (r := 0) (x_H_mono (lh_beginS hO hE hc (cw_beginE hO hP hk9 hC hE hk hcan) (by decide)) (fun u M1 q => ⟨q.1, hQ_t (by decide) hw q.2⟩)) (fun M1 w => mw_beginE hO hP hk9 w hk hcan) ⟨by decide, by decide, by decide⟩ hn hf hP hk9 kk
    | true =>
      exact S_begin hO C hX9 hb9 hi hL hc9 e1 (k := 0) (r := h_begun P (h_begin P A k)) (x_H_mono (lh_begin hO hc (cw_begin hO hP hk9 hC hk hcan) (by decide) (fun M1 q => hQ_out hw q)) (fun u M1 q => ⟨q.1, hQ_ok hw q.2⟩)) (fun M1 w => mw_begin hO hP hk9 w hk hcan) ⟨by decide, by decide, by decide⟩ hn hf hP (h_ok_begin (hP.2.2.2.1 k hk).2 hk9) kk
set_option maxHeartbeats 4000000 in
set_option maxRecDepth 100000 in
theorem lc_crash {K : x_K} {l : Launch} {Y0 : x_Y} {nm9 : String} (hO : x_Ok Y0) (hE : x_Ex l Y0) (C : x_Ctx K l Y0 ⟨RL, nm9, ""⟩ cL_law 9 2048 601024 7293034) {b c i L cells slots : Nat} {xs : Nat → Int32} (hX9 : va_X b L xs Y0.1 Y0.1.heap) (hb9 : b < Y0.2.2.2) (hi : i + 6 ≤ L) (hL : L ≤ 3072) (hc9 : cells + 40 ≤ 601024 ∧ slots + 1600 ≤ 7293034) {M : x_M} (hw0 : wL M c) (kk : ∀ M1, wL M1 c → x_X K 9 (cells + 40) (slots + 1600) 1846 (lvL b c i) [] M1) : x_X K 9 cells slots 1330 (lvL b c i) [] M := by
  obtain ⟨n, f, P, A, ep, th, g, hw⟩ := hw0
  obtain ⟨hn, hf, hP, hk9, hg, hC, hM⟩ := id hw
  obtain ⟨fs, hc⟩ := wC_c hC
  obtain ⟨x1, e1⟩ : ∃ x, xs (nI i + 1).toNatClampNeg = x := ⟨_, rfl⟩
  cases hv : h_inR x1 (p_nd P) with
  | false =>
    exact S_crash hO C hX9 hb9 hi hL hc9 e1 (k := 1) (r := 0) (x_H_mono (lh_crashT hO hc (cw_crashN hO hP hk9 hC hE hv) (by decide)) (fun u M1 q => ⟨q.1, hQ_t (by decide) hw q.2⟩)) (fun M1 w => mw_crashN hO hP hk9 w hv) ⟨by decide, by decide, by decide⟩ hn hf hP hk9 kk
  | true =>
    obtain ⟨d, hd9, rfl⟩ := h_inR_of (show p_nd P < 2 ^ 31 by have := hP.1; omega) hv
    by_cases hu9 : A 1 d = 0
    · exact S_crash hO C hX9 hb9 hi hL hc9 e1 (k := 0) (r := h_awake P (h_u A 1 d 1)) (x_H_mono (lh_crash hO hc (cw_crash hO hP hk9 hC hd9 hu9) (by decide) (fun M1 q => hQ_out hw q)) (fun u M1 q => ⟨q.1, hQ_ok hw q.2⟩)) (fun M1 w => mw_crash hO hP hk9 w hd9 hu9) ⟨by decide, by decide, by decide⟩ hn hf hP (h_ok_1 hk9 (Or.inr rfl)) kk
    · exact S_crash hO C hX9 hb9 hi hL hc9 e1 (k := 2) (r := 0) (x_H_mono (lh_crashS hO hE hc (cw_crashE hO hP hk9 hC hE hd9 hu9) (by decide)) (fun u M1 q => ⟨q.1, hQ_t (by decide) hw q.2⟩)) (fun M1 w => mw_crashE hO hP hk9 w hd9 hu9) ⟨by decide, by decide, by decide⟩ hn hf hP hk9 kk
set_option maxHeartbeats 4000000 in
set_option maxRecDepth 100000 in
theorem lc_wake {K : x_K} {l : Launch} {Y0 : x_Y} {nm9 : String} (hO : x_Ok Y0) (hE : x_Ex l Y0) (C : x_Ctx K l Y0 ⟨RL, nm9, ""⟩ cL_law 9 2048 601024 7293034) {b c i L cells slots : Nat} {xs : Nat → Int32} (hX9 : va_X b L xs Y0.1 Y0.1.heap) (hb9 : b < Y0.2.2.2) (hi : i + 6 ≤ L) (hL : L ≤ 3072) (hc9 : cells + 40 ≤ 601024 ∧ slots + 1600 ≤ 7293034) {M : x_M} (hw0 : wL M c) (kk : ∀ M1, wL M1 c → x_X K 9 (cells + 40) (slots + 1600) 1846 (lvL b c i) [] M1) : x_X K 9 cells slots 1386 (lvL b c i) [] M := by
  obtain ⟨n, f, P, A, ep, th, g, hw⟩ := hw0
  obtain ⟨hn, hf, hP, hk9, hg, hC, hM⟩ := id hw
  obtain ⟨fs, hc⟩ := wC_c hC
  obtain ⟨x1, e1⟩ : ∃ x, xs (nI i + 1).toNatClampNeg = x := ⟨_, rfl⟩
  cases hv : h_inR x1 (p_nd P) with
  | false =>
    exact S_wake hO C hX9 hb9 hi hL hc9 e1 (k := 1) (r := 0) (x_H_mono (lh_wakeT hO hc (cw_wakeN hO hP hk9 hC hE hv) (by decide)) (fun u M1 q => ⟨q.1, hQ_t (by decide) hw q.2⟩)) (fun M1 w => mw_wakeN hO hP hk9 w hv) ⟨by decide, by decide, by decide⟩ hn hf hP hk9 kk
  | true =>
    obtain ⟨d, hd9, rfl⟩ := h_inR_of (show p_nd P < 2 ^ 31 by have := hP.1; omega) hv
    by_cases hu9 : A 1 d = 0
    · exact S_wake hO C hX9 hb9 hi hL hc9 e1 (k := 2) (r := 0) (x_H_mono (lh_wakeS hO hE hc (cw_wakeE hO hP hk9 hC hE hd9 hu9) (by decide)) (fun u M1 q => ⟨q.1, hQ_t (by decide) hw q.2⟩)) (fun M1 w => mw_wakeE hO hP hk9 w hd9 hu9) ⟨by decide, by decide, by decide⟩ hn hf hP hk9 kk
    · exact S_wake hO C hX9 hb9 hi hL hc9 e1 (k := 0) (r := h_awake P (h_u A 1 d 0)) (x_H_mono (lh_wake hO hc (cw_wake hO hP hk9 hC hd9 hu9) (by decide) (fun M1 q => hQ_out hw q)) (fun u M1 q => ⟨q.1, hQ_ok hw q.2⟩)) (fun M1 w => mw_wake hO hP hk9 w hd9 hu9) ⟨by decide, by decide, by decide⟩ hn hf hP (h_ok_1 hk9 (Or.inl rfl)) kk
set_option maxHeartbeats 4000000 in
set_option maxRecDepth 100000 in
theorem lc_crashQueen {K : x_K} {l : Launch} {Y0 : x_Y} {nm9 : String} (hO : x_Ok Y0) (hE : x_Ex l Y0) (C : x_Ctx K l Y0 ⟨RL, nm9, ""⟩ cL_law 9 2048 601024 7293034) {b c i L cells slots : Nat} {xs : Nat → Int32} (hX9 : va_X b L xs Y0.1 Y0.1.heap) (hb9 : b < Y0.2.2.2) (hi : i + 6 ≤ L) (hL : L ≤ 3072) (hc9 : cells + 40 ≤ 601024 ∧ slots + 1600 ≤ 7293034) {M : x_M} (hw0 : wL M c) (kk : ∀ M1, wL M1 c → x_X K 9 (cells + 40) (slots + 1600) 1846 (lvL b c i) [] M1) : x_X K 9 cells slots 1442 (lvL b c i) [] M := by
  obtain ⟨n, f, P, A, ep, th, g, hw⟩ := hw0
  obtain ⟨hn, hf, hP, hk9, hg, hC, hM⟩ := id hw
  obtain ⟨fs, hc⟩ := wC_c hC
  by_cases hu9 : A 1 8 = 0
  · exact S_crashQueen hO C hX9 hb9 hi hL hc9 (k := 0) (r := h_begun P (h_u A 1 8 1)) (x_H_mono (lh_crashQueen hO hc (cw_crashQueen hO hP hk9 hC hu9) (by decide) (fun M1 q => hQ_out hw q)) (fun u M1 q => ⟨q.1, hQ_ok hw q.2⟩)) (fun M1 w => mw_crashQueen hO hP hk9 w hu9) ⟨by decide, by decide, by decide⟩ hn hf hP (h_ok_1 hk9 (Or.inr rfl)) kk
  · exact S_crashQueen hO C hX9 hb9 hi hL hc9 (k := 1) (r := 0) (x_H_mono (lh_crashQueenT hO hc (cw_crashQueenE hO hP hk9 hC hE hu9) (by decide)) (fun u M1 q => ⟨q.1, hQ_t (by decide) hw q.2⟩)) (fun M1 w => mw_crashQueenE hO hP hk9 w hu9) ⟨by decide, by decide, by decide⟩ hn hf hP hk9 kk
set_option maxHeartbeats 4000000 in
set_option maxRecDepth 100000 in
theorem lc_wakeQueen {K : x_K} {l : Launch} {Y0 : x_Y} {nm9 : String} (hO : x_Ok Y0) (hE : x_Ex l Y0) (C : x_Ctx K l Y0 ⟨RL, nm9, ""⟩ cL_law 9 2048 601024 7293034) {b c i L cells slots : Nat} {xs : Nat → Int32} (hX9 : va_X b L xs Y0.1 Y0.1.heap) (hb9 : b < Y0.2.2.2) (hi : i + 6 ≤ L) (hL : L ≤ 3072) (hc9 : cells + 40 ≤ 601024 ∧ slots + 1600 ≤ 7293034) {M : x_M} (hw0 : wL M c) (kk : ∀ M1, wL M1 c → x_X K 9 (cells + 40) (slots + 1600) 1846 (lvL b c i) [] M1) : x_X K 9 cells slots 1486 (lvL b c i) [] M := by
  obtain ⟨n, f, P, A, ep, th, g, hw⟩ := hw0
  obtain ⟨hn, hf, hP, hk9, hg, hC, hM⟩ := id hw
  obtain ⟨fs, hc⟩ := wC_c hC
  by_cases hu9 : A 1 8 = 0
  · exact S_wakeQueen hO C hX9 hb9 hi hL hc9 (k := 1) (r := 0) (x_H_mono (lh_wakeQueenT hO hc (cw_wakeQueenE hO hP hk9 hC hE hu9) (by decide)) (fun u M1 q => ⟨q.1, hQ_t (by decide) hw q.2⟩)) (fun M1 w => mw_wakeQueenE hO hP hk9 w hu9) ⟨by decide, by decide, by decide⟩ hn hf hP hk9 kk
  · exact S_wakeQueen hO C hX9 hb9 hi hL hc9 (k := 0) (r := h_begun P A) (x_H_mono (lh_wakeQueen hO hc (cw_wakeQueen hO hP hk9 hC hu9) (by decide) (fun M1 q => hQ_out hw q)) (fun u M1 q => ⟨q.1, hQ_ok hw q.2⟩)) (fun M1 w => mw_wakeQueen hO hP hk9 w hu9) ⟨by decide, by decide, by decide⟩ hn hf hP (h_ok_refuse (h_ok_1 hk9 (Or.inl rfl))) kk
set_option maxHeartbeats 4000000 in
set_option maxRecDepth 100000 in
theorem lc_passDays {K : x_K} {l : Launch} {Y0 : x_Y} {nm9 : String} (hO : x_Ok Y0) (hE : x_Ex l Y0) (C : x_Ctx K l Y0 ⟨RL, nm9, ""⟩ cL_law 9 2048 601024 7293034) {b c i L cells slots : Nat} {xs : Nat → Int32} (hX9 : va_X b L xs Y0.1 Y0.1.heap) (hb9 : b < Y0.2.2.2) (hi : i + 6 ≤ L) (hL : L ≤ 3072) (hc9 : cells + 40 ≤ 601024 ∧ slots + 1600 ≤ 7293034) {M : x_M} (hw0 : wL M c) (kk : ∀ M1, wL M1 c → x_X K 9 (cells + 40) (slots + 1600) 1846 (lvL b c i) [] M1) : x_X K 9 cells slots 1530 (lvL b c i) [] M := by
  obtain ⟨n, f, P, A, ep, th, g, hw⟩ := hw0
  obtain ⟨hn, hf, hP, hk9, hg, hC, hM⟩ := id hw
  obtain ⟨fs, hc⟩ := wC_c hC
  obtain ⟨x1, e1⟩ : ∃ x, xs (nI i + 1).toNatClampNeg = x := ⟨_, rfl⟩
  cases hv30 : (!decide (x1 < 1) && !decide (30 < x1)) with
  | false =>
    exact S_passDays hO C hX9 hb9 hi hL hc9 e1 (k := 1) (r := 0) (x_H_mono (lh_passDaysT hO hc (cw_passDaysN hO hP hk9 hC hE hv30) (by decide)) (fun u M1 q => ⟨q.1, hQ_t (by decide) hw q.2⟩)) (fun M1 w => mw_passDaysN hO hP hk9 w hv30) ⟨by decide, by decide, by decide⟩ hn hf hP hk9 kk
  | true =>
    obtain ⟨n9, hn1, hn30, rfl⟩ := days_of hv30
    exact S_passDays hO C hX9 hb9 hi hL hc9 e1 (k := 0) (r := (h_it (h_pass P) n9 (A, 0)).2) (x_H_mono (lh_passDays hO hc (cw_passDays hO hP hk9 hC hn1 hn30) (by decide) (fun M1 q => hQ_out hw q)) (fun u M1 q => ⟨q.1, hQ_ok hw q.2⟩)) (fun M1 w => mw_passDays hO hP hk9 w hn1 hn30) ⟨by decide, by decide, by decide⟩ hn hf hP (h_ok_pass hP n9 (A, 0) hk9) kk
set_option maxHeartbeats 4000000 in
set_option maxRecDepth 100000 in
theorem lc_honeyAfter {K : x_K} {l : Launch} {Y0 : x_Y} {nm9 : String} (hO : x_Ok Y0) (hE : x_Ex l Y0) (C : x_Ctx K l Y0 ⟨RL, nm9, ""⟩ cL_law 9 2048 601024 7293034) {b c i L cells slots : Nat} {xs : Nat → Int32} (hX9 : va_X b L xs Y0.1 Y0.1.heap) (hb9 : b < Y0.2.2.2) (hi : i + 6 ≤ L) (hL : L ≤ 3072) (hc9 : cells + 40 ≤ 601024 ∧ slots + 1600 ≤ 7293034) {M : x_M} (hw0 : wL M c) (kk : ∀ M1, wL M1 c → x_X K 9 (cells + 40) (slots + 1600) 1846 (lvL b c i) [] M1) : x_X K 9 cells slots 1586 (lvL b c i) [] M := by
  obtain ⟨n, f, P, A, ep, th, g, hw⟩ := hw0
  obtain ⟨hn, hf, hP, hk9, hg, hC, hM⟩ := id hw
  obtain ⟨fs, hc⟩ := wC_c hC
  obtain ⟨x1, e1⟩ : ∃ x, xs (nI i + 1).toNatClampNeg = x := ⟨_, rfl⟩
  obtain ⟨x2, e2⟩ : ∃ x, xs (nI i + 2).toNatClampNeg = x := ⟨_, rfl⟩
  cases hv : h_inR x1 (p_nd P) with
  | false =>
    exact S_honeyAfter hO C hX9 hb9 hi hL hc9 e1 e2 (k := 1) (r := 0) (x_H_mono (lh_honeyAfterT hO hc (cw_honeyAfterN hO hP hk9 hC hE hv) (by decide)) (fun u M1 q => ⟨q.1, hQ_t (by decide) hw q.2⟩)) (fun M1 w => mw_honeyAfterN hO hP hk9 w hv) ⟨by decide, by decide, by decide⟩ hn hf hP hk9 kk
  | true =>
    obtain ⟨d, hd9, rfl⟩ := h_inR_of (show p_nd P < 2 ^ 31 by have := hP.1; omega) hv
    cases hv30 : (!decide (x2 < 1) && !decide (30 < x2)) with
    | false =>
      exact S_honeyAfter hO C hX9 hb9 hi hL hc9 e1 e2 (k := 2) (r := 0) (x_H_mono (lh_honeyAfterS hO hE hc (cw_honeyAfterE hO hP hk9 hC hE hd9 hv30) (by decide)) (fun u M1 q => ⟨q.1, hQ_t (by decide) hw q.2⟩)) (fun M1 w => mw_honeyAfterE hO hP hk9 w hd9 hv30) ⟨by decide, by decide, by decide⟩ hn hf hP hk9 kk
    | true =>
      obtain ⟨n9, hn1, hn30, rfl⟩ := days_of hv30
      exact S_honeyAfter hO C hX9 hb9 hi hL hc9 e1 e2 (k := 0) (r := (h_it (h_pass P) n9 (A, 0)).1 0 d) (x_H_mono (lh_honeyAfter hO hc (cw_honeyAfter hO hP hk9 hC hd9 hn1 hn30) (by decide) (fun M1 q => hQ_out hw q)) (fun u M1 q => ⟨q.1, hQ_ok hw q.2⟩)) (fun M1 w => mw_honeyAfter hO hP hk9 w hd9 hn1 hn30) ⟨by decide, by decide, by decide⟩ hn hf hP hk9 kk
set_option maxHeartbeats 4000000 in
set_option maxRecDepth 100000 in
theorem lc_stateAfter {K : x_K} {l : Launch} {Y0 : x_Y} {nm9 : String} (hO : x_Ok Y0) (hE : x_Ex l Y0) (C : x_Ctx K l Y0 ⟨RL, nm9, ""⟩ cL_law 9 2048 601024 7293034) {b c i L cells slots : Nat} {xs : Nat → Int32} (hX9 : va_X b L xs Y0.1 Y0.1.heap) (hb9 : b < Y0.2.2.2) (hi : i + 6 ≤ L) (hL : L ≤ 3072) (hc9 : cells + 40 ≤ 601024 ∧ slots + 1600 ≤ 7293034) {M : x_M} (hw0 : wL M c) (kk : ∀ M1, wL M1 c → x_X K 9 (cells + 40) (slots + 1600) 1846 (lvL b c i) [] M1) : x_X K 9 cells slots 1654 (lvL b c i) [] M := by
  obtain ⟨n, f, P, A, ep, th, g, hw⟩ := hw0
  obtain ⟨hn, hf, hP, hk9, hg, hC, hM⟩ := id hw
  obtain ⟨fs, hc⟩ := wC_c hC
  obtain ⟨x1, e1⟩ : ∃ x, xs (nI i + 1).toNatClampNeg = x := ⟨_, rfl⟩
  obtain ⟨x2, e2⟩ : ∃ x, xs (nI i + 2).toNatClampNeg = x := ⟨_, rfl⟩
  cases hv : h_inR x1 (p_nk P) with
  | false =>
    exact S_stateAfter hO C hX9 hb9 hi hL hc9 e1 e2 (k := 1) (r := 0) (x_H_mono (lh_stateAfterT hO hc (cw_stateAfterN hO hP hk9 hC hE hv) (by decide)) (fun u M1 q => ⟨q.1, hQ_t (by decide) hw q.2⟩)) (fun M1 w => mw_stateAfterN hO hP hk9 w hv) ⟨by decide, by decide, by decide⟩ hn hf hP hk9 kk
  | true =>
    obtain ⟨k, hk, rfl⟩ := h_inR_of (show p_nk P < 2 ^ 31 by have := hP.2.1; omega) hv
    cases hv30 : (!decide (x2 < 1) && !decide (30 < x2)) with
    | false =>
      exact S_stateAfter hO C hX9 hb9 hi hL hc9 e1 e2 (k := 2) (r := 0) (x_H_mono (lh_stateAfterS hO hE hc (cw_stateAfterE hO hP hk9 hC hE hk hv30) (by decide)) (fun u M1 q => ⟨q.1, hQ_t (by decide) hw q.2⟩)) (fun M1 w => mw_stateAfterE hO hP hk9 w hk hv30) ⟨by decide, by decide, by decide⟩ hn hf hP hk9 kk
    | true =>
      obtain ⟨n9, hn1, hn30, rfl⟩ := days_of hv30
      exact S_stateAfter hO C hX9 hb9 hi hL hc9 e1 e2 (k := 0) (r := (h_it (h_pass P) n9 (A, 0)).1 4 k) (x_H_mono (lh_stateAfter hO hc (cw_stateAfter hO hP hk9 hC hk hn1 hn30) (by decide) (fun M1 q => hQ_out hw q)) (fun u M1 q => ⟨q.1, hQ_ok hw q.2⟩)) (fun M1 w => mw_stateAfter hO hP hk9 w hk hn1 hn30) ⟨by decide, by decide, by decide⟩ hn hf hP hk9 kk
set_option maxHeartbeats 4000000 in
set_option maxRecDepth 100000 in
theorem lc_trim {K : x_K} {l : Launch} {Y0 : x_Y} {nm9 : String} (hO : x_Ok Y0) (hE : x_Ex l Y0) (C : x_Ctx K l Y0 ⟨RL, nm9, ""⟩ cL_law 9 2048 601024 7293034) {b c i L cells slots : Nat} {xs : Nat → Int32} (hX9 : va_X b L xs Y0.1 Y0.1.heap) (hb9 : b < Y0.2.2.2) (hi : i + 6 ≤ L) (hL : L ≤ 3072) (hc9 : cells + 40 ≤ 601024 ∧ slots + 1600 ≤ 7293034) {M : x_M} (hw0 : wL M c) (kk : ∀ M1, wL M1 c → x_X K 9 (cells + 40) (slots + 1600) 1846 (lvL b c i) [] M1) : x_X K 9 cells slots 304 (lvL b c i) [] M := by
  obtain ⟨n, f, P, A, ep, th, g, hw⟩ := hw0
  obtain ⟨hn, hf, hP, hk9, hg, hC, hM⟩ := id hw
  obtain ⟨fs, hc⟩ := wC_c hC
  obtain ⟨x1, e1⟩ : ∃ x, xs (nI i + 1).toNatClampNeg = x := ⟨_, rfl⟩
  cases hv30 : (!decide (x1 < 0) && !decide (nI n < x1)) with
  | false =>
    exact S_trim hO C hX9 hb9 hi hL hc9 e1 (k := 1) (r := 0) (x_H_mono (lh_trimT hO hc (cw_trimN hO hP hk9 hC hE hv30) (by decide)) (fun u M1 q => ⟨q.1, hQ_t (by decide) hw q.2⟩)) (fun M1 w => mw_trimN hO hP hk9 w hv30) ⟨by decide, by decide, by decide⟩ hn hf hP hk9 kk
  | true =>
    obtain ⟨k, hk, rfl⟩ := trim_of hn hv30
    exact S_trim hO C hX9 hb9 hi hL hc9 e1 (k := 0) (r := nI k) (x_H_mono (lh_trim hO hc (cw_trim hO hP hk9 hC hk hn) (by decide) (fun M1 q => hQ_out hw q)) (fun u M1 q => ⟨q.1, hQ_ok hw q.2⟩)) (fun M1 w => mw_trim hO hP hk9 w hk hn) ⟨by decide, by decide, by decide⟩ (Nat.le_trans hk hn) hf hP hk9 kk
set_option maxHeartbeats 4000000 in
set_option maxRecDepth 100000 in
theorem lc_feed {K : x_K} {l : Launch} {Y0 : x_Y} {nm9 : String} (hO : x_Ok Y0) (hE : x_Ex l Y0) (C : x_Ctx K l Y0 ⟨RL, nm9, ""⟩ cL_law 9 2048 601024 7293034) {b c i L cells slots : Nat} {xs : Nat → Int32} (hX9 : va_X b L xs Y0.1 Y0.1.heap) (hb9 : b < Y0.2.2.2) (hi : i + 6 ≤ L) (hL : L ≤ 3072) (hc9 : cells + 40 ≤ 601024 ∧ slots + 1600 ≤ 7293034) {M : x_M} (hw0 : wL M c) (kk : ∀ M1, wL M1 c → x_X K 9 (cells + 40) (slots + 1600) 1846 (lvL b c i) [] M1) : x_X K 9 cells slots 200 (lvL b c i) [] M := by
  obtain ⟨n, f, P, A, ep, th, g, hw⟩ := hw0
  obtain ⟨hn, hf, hP, hk9, hg, hC, hM⟩ := id hw
  obtain ⟨fs, hc⟩ := wC_c hC
  obtain ⟨x1, e1⟩ : ∃ x, xs (nI i + 1).toNatClampNeg = x := ⟨_, rfl⟩
  obtain ⟨x2, e2⟩ : ∃ x, xs (nI i + 2).toNatClampNeg = x := ⟨_, rfl⟩
  obtain ⟨x3, e3⟩ : ∃ x, xs (nI i + 3).toNatClampNeg = x := ⟨_, rfl⟩
  obtain ⟨x4, e4⟩ : ∃ x, xs (nI i + 4).toNatClampNeg = x := ⟨_, rfl⟩
  obtain ⟨x5, e5⟩ : ∃ x, xs (nI i + 5).toNatClampNeg = x := ⟨_, rfl⟩
  rcases Nat.lt_or_ge 1980 n with h80 | h80
  · have h80 : ¬ nI n ≤ (1980 : Int32) := show ¬ nI n ≤ nI 1980 from nI_ge h80 (by omega)
    exact S_feed hO C hX9 hb9 hi hL hc9 e1 e2 e3 e4 e5 (k := 1) (r := 0) (x_H_mono (lh_feedT hO hc (cw_feedN hO hP hk9 hC hE h80) (by decide)) (fun u M1 q => ⟨q.1, hQ_t (by decide) hw q.2⟩)) (fun M1 w => mw_feedN hO hP hk9 w h80) ⟨by decide, by decide, by decide⟩ hn hf hP hk9 kk
  · exact S_feed hO C hX9 hb9 hi hL hc9 e1 e2 e3 e4 e5 (k := 0) (r := nI (n + 20)) (x_H_mono (lh_feed hO hc (cw_feed hO hP hk9 hC h80) (by decide) (fun M1 q => hQ_out hw q)) (fun u M1 q => ⟨q.1, hQ_ok hw q.2⟩)) (fun M1 w => mw_feed hO hP hk9 w h80) ⟨by decide, by decide, by decide⟩ (by omega) (k_by_feed hf) hP hk9 kk
set_option maxHeartbeats 4000000 in
set_option maxRecDepth 100000 in
theorem lc_errorAt {K : x_K} {l : Launch} {Y0 : x_Y} {nm9 : String} (hO : x_Ok Y0) (hE : x_Ex l Y0) (C : x_Ctx K l Y0 ⟨RL, nm9, ""⟩ cL_law 9 2048 601024 7293034) {b c i L cells slots : Nat} {xs : Nat → Int32} (hX9 : va_X b L xs Y0.1 Y0.1.heap) (hb9 : b < Y0.2.2.2) (hi : i + 6 ≤ L) (hL : L ≤ 3072) (hc9 : cells + 40 ≤ 601024 ∧ slots + 1600 ≤ 7293034) {M : x_M} (hw0 : wL M c) (kk : ∀ M1, wL M1 c → x_X K 9 (cells + 40) (slots + 1600) 1846 (lvL b c i) [] M1) : x_X K 9 cells slots 373 (lvL b c i) [] M := by
  obtain ⟨n, f, P, A, ep, th, g, hw⟩ := hw0
  obtain ⟨hn, hf, hP, hk9, hg, hC, hM⟩ := id hw
  obtain ⟨fs, hc⟩ := wC_c hC
  refine x_aload_n C dL_law_373 rfl rfl ?_
  refine x_callV0 C dL_law_374 kL_114 (cw_errorAt hO hP hk9 hC) (hc 0 _ rfl) rfl (by decide) ⟨by omega, by omega⟩ (Nat.le_of_ble_eq_true rfl) ?_
  rintro _ M1 ⟨rfl, q1⟩
  refine x_aload_n C dL_law_377 rfl rfl ?_
  obtain ⟨sz, ea, tk, dp, tp, kd, fr, mn, rl, me, q, rd, t, m, m2, ho⟩ := wM_o (wM_c hM q1)
  refine x_callV0 C dL_law_378 kL_117 (mw_errorAt hO hP hk9 (wM_c hM q1)) (ho 0 _ rfl) rfl (by decide) ⟨by omega, by omega⟩ (Nat.le_of_ble_eq_true rfl) ?_
  rintro _ M2 ⟨rfl, q2⟩
  refine x_icmp_eq (tgt := 1846) C dL_law_381 (by decide) (fun _ => ?_) (fun q => absurd rfl q)
  refine x_widen (k := cells + 40) (n := slots + 1600) (by omega) (by omega) ?_
  exact kk M2 ⟨n, f, P, A, ep, _, g, wV_end hw q1 q2 hn hf hP hk9⟩
set_option maxHeartbeats 4000000 in
set_option maxRecDepth 100000 in
theorem lc_drones {K : x_K} {l : Launch} {Y0 : x_Y} {nm9 : String} (hO : x_Ok Y0) (hE : x_Ex l Y0) (C : x_Ctx K l Y0 ⟨RL, nm9, ""⟩ cL_law 9 2048 601024 7293034) {b c i L cells slots : Nat} {xs : Nat → Int32} (hX9 : va_X b L xs Y0.1 Y0.1.heap) (hb9 : b < Y0.2.2.2) (hi : i + 6 ≤ L) (hL : L ≤ 3072) (hc9 : cells + 40 ≤ 601024 ∧ slots + 1600 ≤ 7293034) {M : x_M} (hw0 : wL M c) (kk : ∀ M1, wL M1 c → x_X K 9 (cells + 40) (slots + 1600) 1846 (lvL b c i) [] M1) : x_X K 9 cells slots 386 (lvL b c i) [] M := by
  obtain ⟨n, f, P, A, ep, th, g, hw⟩ := hw0
  obtain ⟨hn, hf, hP, hk9, hg, hC, hM⟩ := id hw
  obtain ⟨fs, hc⟩ := wC_c hC
  refine x_aload_n C dL_law_386 rfl rfl ?_
  refine x_callV0 C dL_law_387 kL_118 (cw_drones hO hP hk9 hC) (hc 0 _ rfl) rfl (by decide) ⟨by omega, by omega⟩ (Nat.le_of_ble_eq_true rfl) ?_
  rintro _ M1 ⟨rfl, q1⟩
  refine x_aload_n C dL_law_390 rfl rfl ?_
  obtain ⟨sz, ea, tk, dp, tp, kd, fr, mn, rl, me, q, rd, t, m, m2, ho⟩ := wM_o (wM_c hM q1)
  refine x_callV0 C dL_law_391 kL_121 (mw_drones hO hP hk9 (wM_c hM q1)) (ho 0 _ rfl) rfl (by decide) ⟨by omega, by omega⟩ (Nat.le_of_ble_eq_true rfl) ?_
  rintro _ M2 ⟨rfl, q2⟩
  refine x_icmp_eq (tgt := 1846) C dL_law_394 (by decide) (fun _ => ?_) (fun q => absurd rfl q)
  refine x_widen (k := cells + 40) (n := slots + 1600) (by omega) (by omega) ?_
  exact kk M2 ⟨n, f, P, A, ep, _, g, wV_end hw q1 q2 hn hf hP hk9⟩
set_option maxHeartbeats 4000000 in
set_option maxRecDepth 100000 in
theorem lc_deals {K : x_K} {l : Launch} {Y0 : x_Y} {nm9 : String} (hO : x_Ok Y0) (hE : x_Ex l Y0) (C : x_Ctx K l Y0 ⟨RL, nm9, ""⟩ cL_law 9 2048 601024 7293034) {b c i L cells slots : Nat} {xs : Nat → Int32} (hX9 : va_X b L xs Y0.1 Y0.1.heap) (hb9 : b < Y0.2.2.2) (hi : i + 6 ≤ L) (hL : L ≤ 3072) (hc9 : cells + 40 ≤ 601024 ∧ slots + 1600 ≤ 7293034) {M : x_M} (hw0 : wL M c) (kk : ∀ M1, wL M1 c → x_X K 9 (cells + 40) (slots + 1600) 1846 (lvL b c i) [] M1) : x_X K 9 cells slots 399 (lvL b c i) [] M := by
  obtain ⟨n, f, P, A, ep, th, g, hw⟩ := hw0
  obtain ⟨hn, hf, hP, hk9, hg, hC, hM⟩ := id hw
  obtain ⟨fs, hc⟩ := wC_c hC
  refine x_aload_n C dL_law_399 rfl rfl ?_
  refine x_callV0 C dL_law_400 kL_122 (cw_deals hO hP hk9 hC) (hc 0 _ rfl) rfl (by decide) ⟨by omega, by omega⟩ (Nat.le_of_ble_eq_true rfl) ?_
  rintro _ M1 ⟨rfl, q1⟩
  refine x_aload_n C dL_law_403 rfl rfl ?_
  obtain ⟨sz, ea, tk, dp, tp, kd, fr, mn, rl, me, q, rd, t, m, m2, ho⟩ := wM_o (wM_c hM q1)
  refine x_callV0 C dL_law_404 kL_125 (mw_deals hO hP hk9 (wM_c hM q1)) (ho 0 _ rfl) rfl (by decide) ⟨by omega, by omega⟩ (Nat.le_of_ble_eq_true rfl) ?_
  rintro _ M2 ⟨rfl, q2⟩
  refine x_icmp_eq (tgt := 1846) C dL_law_407 (by decide) (fun _ => ?_) (fun q => absurd rfl q)
  refine x_widen (k := cells + 40) (n := slots + 1600) (by omega) (by omega) ?_
  exact kk M2 ⟨n, f, P, A, ep, _, g, wV_end hw q1 q2 hn hf hP hk9⟩
set_option maxHeartbeats 4000000 in
set_option maxRecDepth 100000 in
theorem lc_day {K : x_K} {l : Launch} {Y0 : x_Y} {nm9 : String} (hO : x_Ok Y0) (hE : x_Ex l Y0) (C : x_Ctx K l Y0 ⟨RL, nm9, ""⟩ cL_law 9 2048 601024 7293034) {b c i L cells slots : Nat} {xs : Nat → Int32} (hX9 : va_X b L xs Y0.1 Y0.1.heap) (hb9 : b < Y0.2.2.2) (hi : i + 6 ≤ L) (hL : L ≤ 3072) (hc9 : cells + 40 ≤ 601024 ∧ slots + 1600 ≤ 7293034) {M : x_M} (hw0 : wL M c) (kk : ∀ M1, wL M1 c → x_X K 9 (cells + 40) (slots + 1600) 1846 (lvL b c i) [] M1) : x_X K 9 cells slots 412 (lvL b c i) [] M := by
  obtain ⟨n, f, P, A, ep, th, g, hw⟩ := hw0
  obtain ⟨hn, hf, hP, hk9, hg, hC, hM⟩ := id hw
  obtain ⟨fs, hc⟩ := wC_c hC
  refine x_aload_n C dL_law_412 rfl rfl ?_
  refine x_callV0 C dL_law_413 kL_126 (cw_day hO hP hk9 hC) (hc 0 _ rfl) rfl (by decide) ⟨by omega, by omega⟩ (Nat.le_of_ble_eq_true rfl) ?_
  rintro _ M1 ⟨rfl, q1⟩
  refine x_aload_n C dL_law_416 rfl rfl ?_
  obtain ⟨sz, ea, tk, dp, tp, kd, fr, mn, rl, me, q, rd, t, m, m2, ho⟩ := wM_o (wM_c hM q1)
  refine x_callV0 C dL_law_417 kL_129 (mw_day hO hP hk9 (wM_c hM q1)) (ho 0 _ rfl) rfl (by decide) ⟨by omega, by omega⟩ (Nat.le_of_ble_eq_true rfl) ?_
  rintro _ M2 ⟨rfl, q2⟩
  refine x_icmp_eq (tgt := 1846) C dL_law_420 (by decide) (fun _ => ?_) (fun q => absurd rfl q)
  refine x_widen (k := cells + 40) (n := slots + 1600) (by omega) (by omega) ?_
  exact kk M2 ⟨n, f, P, A, ep, _, g, wV_end hw q1 q2 hn hf hP hk9⟩
set_option maxHeartbeats 4000000 in
set_option maxRecDepth 100000 in
theorem lc_ordersCarriedOut {K : x_K} {l : Launch} {Y0 : x_Y} {nm9 : String} (hO : x_Ok Y0) (hE : x_Ex l Y0) (C : x_Ctx K l Y0 ⟨RL, nm9, ""⟩ cL_law 9 2048 601024 7293034) {b c i L cells slots : Nat} {xs : Nat → Int32} (hX9 : va_X b L xs Y0.1 Y0.1.heap) (hb9 : b < Y0.2.2.2) (hi : i + 6 ≤ L) (hL : L ≤ 3072) (hc9 : cells + 40 ≤ 601024 ∧ slots + 1600 ≤ 7293034) {M : x_M} (hw0 : wL M c) (kk : ∀ M1, wL M1 c → x_X K 9 (cells + 40) (slots + 1600) 1846 (lvL b c i) [] M1) : x_X K 9 cells slots 425 (lvL b c i) [] M := by
  obtain ⟨n, f, P, A, ep, th, g, hw⟩ := hw0
  obtain ⟨hn, hf, hP, hk9, hg, hC, hM⟩ := id hw
  obtain ⟨fs, hc⟩ := wC_c hC
  refine x_aload_n C dL_law_425 rfl rfl ?_
  refine x_callV0 C dL_law_426 kL_130 (cw_ordersCarriedOut hO hP hk9 hC) (hc 0 _ rfl) rfl (by decide) ⟨by omega, by omega⟩ (Nat.le_of_ble_eq_true rfl) ?_
  rintro _ M1 ⟨rfl, q1⟩
  refine x_aload_n C dL_law_429 rfl rfl ?_
  obtain ⟨sz, ea, tk, dp, tp, kd, fr, mn, rl, me, q, rd, t, m, m2, ho⟩ := wM_o (wM_c hM q1)
  refine x_callV0 C dL_law_430 kL_133 (mw_ordersCarriedOut hO hP hk9 (wM_c hM q1)) (ho 0 _ rfl) rfl (by decide) ⟨by omega, by omega⟩ (Nat.le_of_ble_eq_true rfl) ?_
  rintro _ M2 ⟨rfl, q2⟩
  refine x_icmp_eq (tgt := 1846) C dL_law_433 (by decide) (fun _ => ?_) (fun q => absurd rfl q)
  refine x_widen (k := cells + 40) (n := slots + 1600) (by omega) (by omega) ?_
  exact kk M2 ⟨n, f, P, A, ep, _, g, wV_end hw q1 q2 hn hf hP hk9⟩
set_option maxHeartbeats 4000000 in
set_option maxRecDepth 100000 in
theorem lc_blocked {K : x_K} {l : Launch} {Y0 : x_Y} {nm9 : String} (hO : x_Ok Y0) (hE : x_Ex l Y0) (C : x_Ctx K l Y0 ⟨RL, nm9, ""⟩ cL_law 9 2048 601024 7293034) {b c i L cells slots : Nat} {xs : Nat → Int32} (hX9 : va_X b L xs Y0.1 Y0.1.heap) (hb9 : b < Y0.2.2.2) (hi : i + 6 ≤ L) (hL : L ≤ 3072) (hc9 : cells + 40 ≤ 601024 ∧ slots + 1600 ≤ 7293034) {M : x_M} (hw0 : wL M c) (kk : ∀ M1, wL M1 c → x_X K 9 (cells + 40) (slots + 1600) 1846 (lvL b c i) [] M1) : x_X K 9 cells slots 438 (lvL b c i) [] M := by
  obtain ⟨n, f, P, A, ep, th, g, hw⟩ := hw0
  obtain ⟨hn, hf, hP, hk9, hg, hC, hM⟩ := id hw
  obtain ⟨fs, hc⟩ := wC_c hC
  refine x_aload_n C dL_law_438 rfl rfl ?_
  refine x_callV0 C dL_law_439 kL_134 (cw_blocked hO hP hk9 hC) (hc 0 _ rfl) rfl (by decide) ⟨by omega, by omega⟩ (Nat.le_of_ble_eq_true rfl) ?_
  rintro _ M1 ⟨rfl, q1⟩
  refine x_aload_n C dL_law_442 rfl rfl ?_
  obtain ⟨sz, ea, tk, dp, tp, kd, fr, mn, rl, me, q, rd, t, m, m2, ho⟩ := wM_o (wM_c hM q1)
  refine x_callV0 C dL_law_443 kL_137 (mw_blocked hO hP hk9 (wM_c hM q1)) (ho 0 _ rfl) rfl (by decide) ⟨by omega, by omega⟩ (Nat.le_of_ble_eq_true rfl) ?_
  rintro _ M2 ⟨rfl, q2⟩
  refine x_icmp_eq (tgt := 1846) C dL_law_446 (by decide) (fun _ => ?_) (fun q => absurd rfl q)
  refine x_widen (k := cells + 40) (n := slots + 1600) (by omega) (by omega) ?_
  exact kk M2 ⟨n, f, P, A, ep, _, g, wV_end hw q1 q2 hn hf hP hk9⟩
set_option maxHeartbeats 4000000 in
set_option maxRecDepth 100000 in
theorem lc_honey {K : x_K} {l : Launch} {Y0 : x_Y} {nm9 : String} (hO : x_Ok Y0) (hE : x_Ex l Y0) (C : x_Ctx K l Y0 ⟨RL, nm9, ""⟩ cL_law 9 2048 601024 7293034) {b c i L cells slots : Nat} {xs : Nat → Int32} (hX9 : va_X b L xs Y0.1 Y0.1.heap) (hb9 : b < Y0.2.2.2) (hi : i + 6 ≤ L) (hL : L ≤ 3072) (hc9 : cells + 40 ≤ 601024 ∧ slots + 1600 ≤ 7293034) {M : x_M} (hw0 : wL M c) (kk : ∀ M1, wL M1 c → x_X K 9 (cells + 40) (slots + 1600) 1846 (lvL b c i) [] M1) : x_X K 9 cells slots 451 (lvL b c i) [] M := by
  obtain ⟨n, f, P, A, ep, th, g, hw⟩ := hw0
  obtain ⟨hn, hf, hP, hk9, hg, hC, hM⟩ := id hw
  obtain ⟨fs, hc⟩ := wC_c hC
  refine x_aload_n C dL_law_451 rfl rfl ?_
  refine x_callV0 C dL_law_452 kL_138 (cw_honey hO hP hk9 hC) (hc 0 _ rfl) rfl (by decide) ⟨by omega, by omega⟩ (Nat.le_of_ble_eq_true rfl) ?_
  rintro _ M1 ⟨rfl, q1⟩
  refine x_aload_n C dL_law_455 rfl rfl ?_
  obtain ⟨sz, ea, tk, dp, tp, kd, fr, mn, rl, me, q, rd, t, m, m2, ho⟩ := wM_o (wM_c hM q1)
  refine x_callV0 C dL_law_456 kL_141 (mw_honey hO hP hk9 (wM_c hM q1)) (ho 0 _ rfl) rfl (by decide) ⟨by omega, by omega⟩ (Nat.le_of_ble_eq_true rfl) ?_
  rintro _ M2 ⟨rfl, q2⟩
  refine x_icmp_eq (tgt := 1846) C dL_law_459 (by decide) (fun _ => ?_) (fun q => absurd rfl q)
  refine x_widen (k := cells + 40) (n := slots + 1600) (by omega) (by omega) ?_
  exact kk M2 ⟨n, f, P, A, ep, _, g, wV_end hw q1 q2 hn hf hP hk9⟩
set_option maxHeartbeats 4000000 in
set_option maxRecDepth 100000 in
theorem lc_isQueenAwake {K : x_K} {l : Launch} {Y0 : x_Y} {nm9 : String} (hO : x_Ok Y0) (hE : x_Ex l Y0) (C : x_Ctx K l Y0 ⟨RL, nm9, ""⟩ cL_law 9 2048 601024 7293034) {b c i L cells slots : Nat} {xs : Nat → Int32} (hX9 : va_X b L xs Y0.1 Y0.1.heap) (hb9 : b < Y0.2.2.2) (hi : i + 6 ≤ L) (hL : L ≤ 3072) (hc9 : cells + 40 ≤ 601024 ∧ slots + 1600 ≤ 7293034) {M : x_M} (hw0 : wL M c) (kk : ∀ M1, wL M1 c → x_X K 9 (cells + 40) (slots + 1600) 1846 (lvL b c i) [] M1) : x_X K 9 cells slots 464 (lvL b c i) [] M := by
  obtain ⟨n, f, P, A, ep, th, g, hw⟩ := hw0
  obtain ⟨hn, hf, hP, hk9, hg, hC, hM⟩ := id hw
  obtain ⟨fs, hc⟩ := wC_c hC
  refine x_aload_n C dL_law_464 rfl rfl ?_
  refine x_callV0 C dL_law_465 kL_142 (cw_isQueenAwake hO hP hk9 hC) (hc 0 _ rfl) rfl (by decide) ⟨by omega, by omega⟩ (Nat.le_of_ble_eq_true rfl) ?_
  rintro _ M1 ⟨rfl, q1⟩
  refine x_aload_n C dL_law_468 rfl rfl ?_
  obtain ⟨sz, ea, tk, dp, tp, kd, fr, mn, rl, me, q, rd, t, m, m2, ho⟩ := wM_o (wM_c hM q1)
  refine x_callV0 C dL_law_469 kL_146 (mw_isQueenAwake hO hP hk9 (wM_c hM q1)) (ho 0 _ rfl) rfl (by decide) ⟨by omega, by omega⟩ (Nat.le_of_ble_eq_true rfl) ?_
  rintro _ M2 ⟨rfl, q2⟩
  refine x_icmp_eq (tgt := 1846) C dL_law_472 (by decide) (fun _ => ?_) (fun q => absurd rfl q)
  refine x_widen (k := cells + 40) (n := slots + 1600) (by omega) (by omega) ?_
  exact kk M2 ⟨n, f, P, A, ep, _, g, wV_end hw q1 q2 hn hf hP hk9⟩
set_option maxHeartbeats 4000000 in
set_option maxRecDepth 100000 in
theorem lc_bestToWake {K : x_K} {l : Launch} {Y0 : x_Y} {nm9 : String} (hO : x_Ok Y0) (hE : x_Ex l Y0) (C : x_Ctx K l Y0 ⟨RL, nm9, ""⟩ cL_law 9 2048 601024 7293034) {b c i L cells slots : Nat} {xs : Nat → Int32} (hX9 : va_X b L xs Y0.1 Y0.1.heap) (hb9 : b < Y0.2.2.2) (hi : i + 6 ≤ L) (hL : L ≤ 3072) (hc9 : cells + 40 ≤ 601024 ∧ slots + 1600 ≤ 7293034) {M : x_M} (hw0 : wL M c) (kk : ∀ M1, wL M1 c → x_X K 9 (cells + 40) (slots + 1600) 1846 (lvL b c i) [] M1) : x_X K 9 cells slots 1778 (lvL b c i) [] M := by
  obtain ⟨n, f, P, A, ep, th, g, hw⟩ := hw0
  obtain ⟨hn, hf, hP, hk9, hg, hC, hM⟩ := id hw
  obtain ⟨fs, hc⟩ := wC_c hC
  refine x_aload_n C dL_law_1778 rfl rfl ?_
  refine x_callV0 C dL_law_1779 kL_215 (cw_bestToWake hO hP hk9 hC) (hc 0 _ rfl) rfl (by decide) ⟨by omega, by omega⟩ (Nat.le_of_ble_eq_true rfl) ?_
  rintro _ M1 ⟨rfl, q1⟩
  refine x_aload_n C dL_law_1782 rfl rfl ?_
  obtain ⟨sz, ea, tk, dp, tp, kd, fr, mn, rl, me, q, rd, t, m, m2, ho⟩ := wM_o (wM_c hM q1)
  refine x_callV0 C dL_law_1783 kL_218 (mw_bestToWake hO hP hk9 (wM_c hM q1)) (ho 0 _ rfl) rfl (by decide) ⟨by omega, by omega⟩ (Nat.le_of_ble_eq_true rfl) ?_
  rintro _ M2 ⟨rfl, q2⟩
  refine x_icmp_eq (tgt := 1846) C dL_law_1786 (by decide) (fun _ => ?_) (fun q => absurd rfl q)
  refine x_widen (k := cells + 40) (n := slots + 1600) (by omega) (by omega) ?_
  exact kk M2 ⟨n, f, P, A, ep, _, g, wV_end hw q1 q2 hn hf hP hk9⟩
set_option maxHeartbeats 4000000 in
set_option maxRecDepth 100000 in
theorem lc_meanHoney {K : x_K} {l : Launch} {Y0 : x_Y} {nm9 : String} (hO : x_Ok Y0) (hE : x_Ex l Y0) (C : x_Ctx K l Y0 ⟨RL, nm9, ""⟩ cL_law 9 2048 601024 7293034) {b c i L cells slots : Nat} {xs : Nat → Int32} (hX9 : va_X b L xs Y0.1 Y0.1.heap) (hb9 : b < Y0.2.2.2) (hi : i + 6 ≤ L) (hL : L ≤ 3072) (hc9 : cells + 40 ≤ 601024 ∧ slots + 1600 ≤ 7293034) {M : x_M} (hw0 : wL M c) (kk : ∀ M1, wL M1 c → x_X K 9 (cells + 40) (slots + 1600) 1846 (lvL b c i) [] M1) : x_X K 9 cells slots 1791 (lvL b c i) [] M := by
  obtain ⟨n, f, P, A, ep, th, g, hw⟩ := hw0
  obtain ⟨hn, hf, hP, hk9, hg, hC, hM⟩ := id hw
  obtain ⟨fs, hc⟩ := wC_c hC
  refine x_aload_n C dL_law_1791 rfl rfl ?_
  refine x_callV0 C dL_law_1792 kL_219 (cw_meanHoney hO hP hk9 hC) (hc 0 _ rfl) rfl (by decide) ⟨by omega, by omega⟩ (Nat.le_of_ble_eq_true rfl) ?_
  rintro _ M1 ⟨rfl, q1⟩
  refine x_dstore C dL_law_1795 (by decide) ?_
  refine x_aload_n C dL_law_1797 rfl rfl ?_
  obtain ⟨sz, ea, tk, dp, tp, kd, fr, mn, rl, me, q, rd, t, m, m2, ho⟩ := wM_o (wM_c hM q1)
  refine x_callV0 C dL_law_1798 kL_223 (mw_meanHoney hO hP hk9 (wM_c hM q1)) (ho 0 _ rfl) rfl (by decide) ⟨by omega, by omega⟩ (Nat.le_of_ble_eq_true rfl) ?_
  rintro _ M2 ⟨rfl, q2⟩
  refine x_dstore C dL_law_1801 (by decide) ?_
  refine x_dload C dL_law_1803 rfl ?_
  refine x_dload C dL_law_1805 rfl ?_
  refine x_dcmp C dL_law_1807 ?_
  refine x_if_eq (tgt := 1829) C dL_law_1808 (by decide) (fun v9 => ?_) (fun v9 => ?_)
  · refine x_goto (tgt := 1846) C dL_law_1829 (by decide) ?_
    refine x_pick [2, 3, 4, 5, 6] rfl ?_
    refine x_widen (k := cells + 40) (n := slots + 1600) (by omega) (by omega) ?_
    exact kk M2 ⟨n, f, P, A, ep, _, g, wV_end hw q1 q2 hn hf hP hk9⟩
  · refine x_dload C dL_law_1811 rfl ?_
    refine x_dload C dL_law_1813 rfl ?_
    refine x_dcmp C dL_law_1815 ?_
    refine x_if_eq (tgt := 1827) C dL_law_1816 (by decide) (fun q => absurd q v9) (fun _ => ?_)
    refine x_dload C dL_law_1819 rfl ?_
    refine x_dload C dL_law_1821 rfl ?_
    refine x_dcmp C dL_law_1823 ?_
    refine x_if_ne (tgt := 1829) C dL_law_1824 (by decide) (fun _ => ?_) (fun q => absurd q v9)
    refine x_goto (tgt := 1846) C dL_law_1829 (by decide) ?_
    refine x_pick [2, 3, 4, 5, 6] rfl ?_
    refine x_widen (k := cells + 40) (n := slots + 1600) (by omega) (by omega) ?_
    exact kk M2 ⟨n, f, P, A, ep, _, g, wV_end hw q1 q2 hn hf hP hk9⟩
set_option maxHeartbeats 4000000 in
set_option maxRecDepth 100000 in
theorem lc_digest {K : x_K} {l : Launch} {Y0 : x_Y} {nm9 : String} (hO : x_Ok Y0) (hE : x_Ex l Y0) (C : x_Ctx K l Y0 ⟨RL, nm9, ""⟩ cL_law 9 2048 601024 7293034) {b c i L cells slots : Nat} {xs : Nat → Int32} (hX9 : va_X b L xs Y0.1 Y0.1.heap) (hb9 : b < Y0.2.2.2) (hi : i + 6 ≤ L) (hL : L ≤ 3072) (hc9 : cells + 40 ≤ 601024 ∧ slots + 1600 ≤ 7293034) {M : x_M} (hw0 : wL M c) (kk : ∀ M1, wL M1 c → x_X K 9 (cells + 40) (slots + 1600) 1846 (lvL b c i) [] M1) : x_X K 9 cells slots 1832 (lvL b c i) [] M := by
  obtain ⟨n, f, P, A, ep, th, g, hw⟩ := hw0
  obtain ⟨hn, hf, hP, hk9, hg, hC, hM⟩ := id hw
  obtain ⟨fs, hc⟩ := wC_c hC
  refine x_aload_n C dL_law_1832 rfl rfl ?_
  refine x_callV0 C dL_law_1833 kL_224 (cw_digest hO hP hk9 hC) (hc 0 _ rfl) rfl (by decide) ⟨by omega, by omega⟩ (Nat.le_of_ble_eq_true rfl) ?_
  rintro _ M1 ⟨rfl, q1⟩
  refine x_aload_n C dL_law_1836 rfl rfl ?_
  obtain ⟨sz, ea, tk, dp, tp, kd, fr, mn, rl, me, q, rd, t, m, m2, ho⟩ := wM_o (wM_c hM q1)
  refine x_callV (As := []) C dL_law_1837 kL_228 (mw_digest hO hP hk9 (wM_c hM q1)) (ho 0 _ rfl) rfl rfl rfl (by decide) ⟨by omega, by omega⟩ (Nat.le_of_ble_eq_true rfl) ?_
  rintro _ M2 ⟨rfl, q2⟩
  refine x_lcmp C dL_law_1840 ?_
  refine x_if_eq (tgt := 1846) C dL_law_1841 (by decide) (fun _ => ?_) (fun q => absurd ((lg_cmp_eq _ _).mpr rfl) q)
  refine x_widen (k := cells + 40) (n := slots + 1600) (by omega) (by omega) ?_
  exact kk M2 ⟨n, f, P, A, ep, _, g, wV_end hw q1 q2 hn hf hP hk9⟩
