theorem t_in_or1 {S : tS} (h : t_in S) : t_in (t_or1 S) := by
  unfold t_or1
  split
  · exact h
  · exact t_in_blame h
theorem t_in_or2 {D : tK} (hD : t_dk D) {S : tS} (h : t_in S) : t_in (t_or2 D S) := by
  unfold t_or2
  split
  · exact t_in_known1 hD (t_in_acc hD h)
  split
  · exact t_in_dq hD (t_in_acc hD (t_in_acc hD h))
  · exact t_in_dq hD (t_in_exp hD (t_in_acc hD (t_in_acc hD h)))
theorem t_in_or3 {D : tK} (hD : t_dk D) {ft : tS → tS} (hft : t_ki ft) {S : tS} (h : t_in S) : t_in (t_or3 D ft S) := by
  unfold t_or3
  split
  · exact hft _ (t_in_acc hD h)
  · exact t_in_acc hD h
theorem t_in_ord {S : tS} {v t s : Int32} (h : t_in S) : t_in (t_ord S v t s) := h
theorem t_in_add0 {S : tS} (h : t_in S) : t_in (t_add0 S) := h
theorem t_in_add1 {S : tS} (h : t_in S) : t_in (t_add1 S) := h
theorem t_in_dr3 {S : tS} {x : Int32} (h : t_in S) : t_in (t_dr3 S x) := h
theorem t_in_dl3 {S : tS} {deal p : Int32} (h : t_in S) : t_in (t_dl3 S deal p) := h
theorem t_in_order {D : tK} (hD : t_dk D) {ft : tS → tS} (hft : t_ki ft) {S : tS} (h : t_in S) : t_in (t_order D ft S) := t_in_ord (t_in_or3 hD hft (t_in_or2 hD (t_in_or1 h)))
theorem t_in_old {S : tS} (h : t_in S) : t_in (t_old S) := by
  unfold t_old
  split
  · split
    · exact h
    · exact t_in_blame h
  · exact t_in_blame h
theorem t_in_full0 {S : tS} (h : t_in S) : t_in (t_full0 S) := by
  unfold t_full0
  split
  · exact t_in_blame h
  · exact h
theorem t_in_full1 {S : tS} (h : t_in S) : t_in (t_full1 S) := by
  unfold t_full1
  split
  · exact t_in_blame h
  · exact h
theorem t_in_new0 {D : tK} (hD : t_dk D) {S : tS} (h : t_in S) : t_in (t_new0 D S) := t_in_exp hD (t_in_add0 (t_in_full0 (t_in_old h)))
theorem t_in_new1 {D : tK} (hD : t_dk D) {S : tS} (h : t_in S) : t_in (t_new1 D S) := t_in_exp hD (t_in_add1 (t_in_full1 (t_in_old h)))
theorem t_in_dr2 {S : tS} (h : t_in S) : t_in (t_dr2 S) := by
  unfold t_dr2
  split
  · exact h
  · exact t_in_blame h
theorem t_in_drone {D : tK} (hD : t_dk D) {S : tS} (h : t_in S) : t_in (t_drone D S) := t_in_dr3 (t_in_exp hD (t_in_dr2 (t_in_exp hD (t_in_new0 hD h))))
theorem t_in_pt2 {S : tS} {part : Int32} (h : t_in S) : t_in (t_pt2 S part) := by
  unfold t_pt2
  split
  · exact h
  · exact t_in_blame h
theorem t_in_pt3 {S : tS} {deal part f : Int32} (h : t_in S) : t_in (t_pt3 S deal part f) := by
  unfold t_pt3
  split
  · exact t_in_blame h
  · exact h
theorem t_in_pt6 {D : tK} (hD : t_dk D) {S : tS} (h : t_in S) : t_in (t_pt6 D S) := by
  unfold t_pt6
  split
  · exact t_in_acc hD h
  · exact t_in_exp hD (t_in_acc hD h)
theorem t_in_pt7 {S : tS} (h : t_in S) : t_in (t_pt7 S) := by
  unfold t_pt7
  split
  · exact t_in_blame h
  split
  · exact h
  · exact t_in_blame h
theorem t_in_pt9 {S : tS} {deal part f x : Int32} (h : t_in S) : t_in (t_pt9 S deal part f x) := by
  unfold t_pt9
  split
  · exact h
  · exact h
theorem t_in_part {D : tK} (hD : t_dk D) {S : tS} {deal part : Int32} (h : t_in S) : t_in (t_part D S deal part) := t_in_pt9 (t_in_exp hD (t_in_pt7 (t_in_pt6 hD (t_in_exp hD (t_in_pt3 (t_in_pt2 (t_in_lk0 h)))))))
theorem t_in_dlp {D : tK} (hD : t_dk D) {deal : Int32} : ∀ k p S, t_in S → t_in (t_dlp D deal k p S).1 := by
  intro k
  induction k with
  | zero => intro p S h; exact h
  | succ k ih =>
    intro p S h
    unfold t_dlp
    split
    · exact ih _ _ (t_in_part hD (t_in_acc hD h))
    · exact t_in_acc hD h
theorem t_in_deal {D : tK} (hD : t_dk D) {S : tS} (h : t_in S) : t_in (t_deal D S) := t_in_dl3 (t_in_dlp hD 400 1 _ (t_in_part hD (t_in_exp hD (t_in_new1 hD h))))
theorem t_in_line {D : tK} (hD : t_dk D) {ft : tS → tS} (hft : t_ki ft) {S : tS} (h : t_in S) : t_in (t_line D ft S) := by
  unfold t_line
  split
  · exact t_in_drone hD (t_in_acc hD h)
  split
  · exact t_in_deal hD (t_in_acc hD (t_in_acc hD h))
  · exact t_in_order hD hft (t_in_acc hD (t_in_acc hD h))
def t_go (S : tS) : tS := t_s (t_s (t_clr (t_s (t_s (t_s S 3 (-1)) 4 0) 5 (-1))) 6 0) 7 0
/-- the first token -/
def t_S2 (D : tK) (S : tS) : tS := (h_u (h_u (h_u S.1 11 0 0) 11 1 (rg 401 D.2.2.1 0)) 11 2 (rg 401 D.2.2.2.1 0), S.2.1, S.2.2.1, rgL 401 D.2.2.2.2 0)
def t_res (S : tS) : Int32 := if S.1 11 3 = -1 then S.1 11 4 else 1
def t_pos (S : tS) : Int32 := if S.1 11 3 = -1 then S.1 11 5 else S.1 11 3
def t_hive (D : tK) (S : tS) : tS := t_lines D (t_testN D 8) 400 (t_S2 D (t_go S))
theorem k_lp_st {f : Nat → Int32} {n : Nat} {kw : Nat → Int64} (hn : n ≤ 2000) : ∀ w i last (s : kS), s.1.1 ≤ n → (∀ j, ¬ s.2.2.1 j = -1) → ∀ j, ¬ (k_lp f n kw w i last s).2.2.1 j = -1 := by
  intro w
  induction w with
  | zero => intro i last s _ h; exact h
  | succ w ih =>
    intro i last s hs h
    unfold k_lp
    split
    · exact h
    split
    · exact h
    · refine ih _ _ _ (k_nxt_le hs) (fun j => ?_)
      have hg := (k_gap_le (f := f) hs).2
      show ¬ upd s.2.2.1 i (nI (k_gap f n s.1.1)) j = -1
      by_cases e : j = i
      · subst e
        simp only [upd, if_pos]
        intro q
        have h1 : (nI (k_gap f n s.1.1)).toInt = (-1 : Int32).toInt := congrArg Int32.toInt q
        rw [nI_toInt (by omega), show (-1 : Int32).toInt = -1 by decide] at h1
        omega
      · simp only [upd, if_neg e]
        exact h j
theorem t_in_S2 {D : tK} (hD : t_dk D) (S : tS) : t_in (t_S2 D S) := by
  show ¬ rg 401 D.2.2.2.1 0 = -1
  unfold rg
  split
  · decide
  · exact hD _
theorem tX_b47 {M : x_M} {b tp x0 : Nat} {v0 : Int64} {kw : Nat → Int64} {K2 : (Nat → Int32) × (Nat → Int32) × (Nat → Int64)} {Q : HS} {S : tS} : x_bk (tX M b ((tp, nI x0, v0), kw, K2) Q S) (b + 47) (tkT (b + 47) tp kw ((x0, v0), K2) (S.1 11 0) (S.1 11 1) (S.1 11 2) S.2.2.2) := x_bk_sub x_ov_bk 47 rfl
theorem tX_tk {M : x_M} {b tp x0 : Nat} {v0 : Int64} {kw : Nat → Int64} {K2 : (Nat → Int32) × (Nat → Int32) × (Nat → Int64)} {Q : HS} {S : tS} {s : kS} : x_ov (tX M b ((tp, nI x0, v0), kw, K2) Q S) (b + 47) (tkT (b + 47) tp kw s 0 (rg 401 s.2.1 0) (rg 401 s.2.2.1 0) (rgL 401 s.2.2.2 0)) = tX M b ((tp, nI s.1.1, s.1.2), kw, s.2) Q (t_S2 ((tp, nI s.1.1, s.1.2), kw, s.2) S) := (x_ov_in 47 (Nat.le_of_ble_eq_true rfl)).trans (congrArg (x_ov M b) rfl)
set_option maxHeartbeats 4000000 in
set_option maxRecDepth 100000 in
theorem c_X6_readOrder {l : Launch} {Y0 : x_Y} (hO : x_Ok Y0) {M : x_M} {b : Nat} {D : tK} {Q : HS} {S : tS} (hD : t_dk D) (hin : t_in S) (hb : x_bk M b (tcT b D Q S)) {dT d : Nat} {ft : tS → tS} (hd1 : dT + 1 ≤ d) (hd4 : 6 ≤ d) (hft : t_ki ft) (hT : tCt l Y0 yX6_readTest cX6_readTest 3 dT b D Q 0 ft) : x_C l Y0 yX6_readOrder cX6_readOrder 4 none d 0 0 [.ref (b + 42)] M (fun u M1 => u = none ∧ M1 = tX M b D Q (t_order D ft S)) := by
  refine x_start hO (by decide +kernel) (Nat.le_of_ble_eq_true rfl) (fun K C E => ?_)
  refine x_to (tX_self hb).symm ?_
  have j69 : ∀ (x2 : Int32), x2 = t_orv D (t_or1 S) → x_X K 4 0 0 69 [(0, .ref (b + 42)), (1, .int ((t_or1 S).1 11 1)), (2, .int x2)] [] (tX M b D Q (t_or2 D (t_or1 S))) := by
      intro x2 hx2
      rw [hx2]
      have hin1 : t_in (t_or2 D (t_or1 S)) := t_in_or2 hD (t_in_or1 hin)
      refine x_aload_n C dX6_readOrder_69 rfl rfl ?_
      refine x_getfield C dX6_readOrder_70 fX6_32 tX_g42 rfl ?_
      refine x_getfield C dX6_readOrder_73 fX6_162 tX_g0 rfl ?_
      refine x_istore_n C dX6_readOrder_76 rfl rfl (by decide) ?_
      refine x_aload_n C dX6_readOrder_77 rfl rfl ?_
      refine x_sipush (v := 266) C dX6_readOrder_78 (by decide) ?_
      refine x_callV1 C dX6_readOrder_81 kX6_60 (c_X6_accept hO tX_bk) tX_g42 rfl (by omega) ⟨Nat.zero_le _, Nat.zero_le _⟩ (Nat.le_of_ble_eq_true rfl) ?_
      rintro _ _ ⟨rfl, rfl⟩
      refine x_to tX_tX ?_
      refine x_if_eq (tgt := 92) C dX6_readOrder_84 (by decide) (fun c84 => ?_) (fun c84 => ?_)
      · have c84 := b_n c84
        refine x_aload_n C dX6_readOrder_92 rfl rfl ?_
        refine x_getfield C dX6_readOrder_93 fX6_32 tX_g42 rfl ?_
        refine x_iload_n C dX6_readOrder_96 rfl rfl ?_
        refine x_iload_n C dX6_readOrder_97 rfl rfl ?_
        refine x_iload_n C dX6_readOrder_98 rfl rfl ?_
        refine x_callV3 C dX6_readOrder_99 kX6_168 (c_X2_addOrder hO tX_pl) tX_g0 rfl (by omega) ⟨Nat.zero_le _, Nat.zero_le _⟩ (Nat.le_of_ble_eq_true rfl) ?_
        rintro _ _ ⟨rfl, rfl⟩
        refine x_to tX_ord ?_
        refine x_vret C E dX6_readOrder_102 ?_
        refine ⟨?_, ?_⟩
        · first | done | rfl | (simp only [t_order, t_or3, if_neg c84])
        · simp only [t_order, t_or3, if_neg c84]
      · have c84 := b_y c84
        refine x_aload_n C dX6_readOrder_87 rfl rfl ?_
        refine x_iconst (v := 0) C dX6_readOrder_88 (by decide) ?_
        refine x_callV1 C dX6_readOrder_89 kX6_165 (hT _ _ (t_in_acc hD hin1) tX_bk) tX_g42 rfl (by omega) ⟨Nat.zero_le _, Nat.zero_le _⟩ (Nat.le_of_ble_eq_true rfl) ?_
        rintro _ _ ⟨rfl, rfl⟩
        refine x_to tX_tX ?_
        refine x_aload_n C dX6_readOrder_92 rfl rfl ?_
        refine x_getfield C dX6_readOrder_93 fX6_32 tX_g42 rfl ?_
        refine x_iload_n C dX6_readOrder_96 rfl rfl ?_
        refine x_iload_n C dX6_readOrder_97 rfl rfl ?_
        refine x_iload_n C dX6_readOrder_98 rfl rfl ?_
        refine x_callV3 C dX6_readOrder_99 kX6_168 (c_X2_addOrder hO tX_pl) tX_g0 rfl (by omega) ⟨Nat.zero_le _, Nat.zero_le _⟩ (Nat.le_of_ble_eq_true rfl) ?_
        rintro _ _ ⟨rfl, rfl⟩
        refine x_to tX_ord ?_
        refine x_vret C E dX6_readOrder_102 ?_
        refine ⟨?_, ?_⟩
        · first | done | rfl | (simp only [t_order, t_or3, if_pos c84])
        · simp only [t_order, t_or3, if_pos c84]
  have j17 : x_X K 4 0 0 17 [(0, .ref (b + 42))] [] (tX M b D Q (t_or1 S)) := by
      refine x_aload_n C dX6_readOrder_17 rfl rfl ?_
      refine x_getfield C dX6_readOrder_18 fX6_28 tX_g42 rfl ?_
      refine x_getfield C dX6_readOrder_21 fX6_57 tX_g47 rfl ?_
      refine x_istore_n C dX6_readOrder_24 rfl rfl (by decide) ?_
      refine x_aload_n C dX6_readOrder_25 rfl rfl ?_
      refine x_sipush (v := 262) C dX6_readOrder_26 (by decide) ?_
      refine x_callV1 C dX6_readOrder_29 kX6_60 (c_X6_accept hO tX_bk) tX_g42 rfl (by omega) ⟨Nat.zero_le _, Nat.zero_le _⟩ (Nat.le_of_ble_eq_true rfl) ?_
      rintro _ _ ⟨rfl, rfl⟩
      refine x_to tX_tX ?_
      refine x_if_eq (tgt := 47) C dX6_readOrder_32 (by decide) (fun c32 => ?_) (fun c32 => ?_)
      · have c32 := b_n c32
        refine x_aload_n C dX6_readOrder_47 rfl rfl ?_
        refine x_sipush (v := 263) C dX6_readOrder_48 (by decide) ?_
        refine x_callV1 C dX6_readOrder_51 kX6_60 (c_X6_accept hO tX_bk) tX_g42 rfl (by omega) ⟨Nat.zero_le _, Nat.zero_le _⟩ (Nat.le_of_ble_eq_true rfl) ?_
        rintro _ _ ⟨rfl, rfl⟩
        refine x_to tX_tX ?_
        refine x_if_ne (tgt := 64) C dX6_readOrder_54 (by decide) (fun c54 => ?_) (fun c54 => ?_)
        · have c54 := b_y c54
          refine x_aload_n C dX6_readOrder_64 rfl rfl ?_
          refine x_callV0 C dX6_readOrder_65 kX6_158 (c_X6_readDroneOrQueen hO tX_bk) tX_g42 rfl (by omega) ⟨Nat.zero_le _, Nat.zero_le _⟩ (Nat.le_of_ble_eq_true rfl) ?_
          rintro _ _ ⟨rfl, rfl⟩
          refine x_to tX_tX ?_
          refine x_istore_n C dX6_readOrder_68 rfl rfl (by decide) ?_
          refine x_to (M' := tX M b D Q (t_or2 D (t_or1 S))) (congrArg (tX M b D Q) (by simp only [t_or2, t_orv, if_neg c32, if_pos c54])) ?_
          exact j69 _ (by simp only [t_or2, t_orv, if_neg c32, if_pos c54])
        · have c54 := b_n c54
          refine x_aload_n C dX6_readOrder_57 rfl rfl ?_
          refine x_sipush (v := 264) C dX6_readOrder_58 (by decide) ?_
          refine x_callV1 C dX6_readOrder_61 kX6_73 (c_X6_expect hO tX_bk) tX_g42 rfl (by omega) ⟨Nat.zero_le _, Nat.zero_le _⟩ (Nat.le_of_ble_eq_true rfl) ?_
          rintro _ _ ⟨rfl, rfl⟩
          refine x_to tX_tX ?_
          refine x_aload_n C dX6_readOrder_64 rfl rfl ?_
          refine x_callV0 C dX6_readOrder_65 kX6_158 (c_X6_readDroneOrQueen hO tX_bk) tX_g42 rfl (by omega) ⟨Nat.zero_le _, Nat.zero_le _⟩ (Nat.le_of_ble_eq_true rfl) ?_
          rintro _ _ ⟨rfl, rfl⟩
          refine x_to tX_tX ?_
          refine x_istore_n C dX6_readOrder_68 rfl rfl (by decide) ?_
          refine x_to (M' := tX M b D Q (t_or2 D (t_or1 S))) (congrArg (tX M b D Q) (by simp only [t_or2, t_orv, if_neg c32, if_neg c54])) ?_
          exact j69 _ (by simp only [t_or2, t_orv, if_neg c32, if_neg c54])
      · have c32 := b_y c32
        refine x_aload_n C dX6_readOrder_35 rfl rfl ?_
        refine x_aload_n C dX6_readOrder_36 rfl rfl ?_
        refine x_getfield C dX6_readOrder_37 fX6_20 tX_g42 rfl ?_
        refine x_callV1 C dX6_readOrder_40 kX6_152 (c_X6_readKnownName1 hO tX_bk) tX_g42 rfl (by omega) ⟨Nat.zero_le _, Nat.zero_le _⟩ (Nat.le_of_ble_eq_true rfl) ?_
        rintro _ _ ⟨rfl, rfl⟩
        refine x_to tX_tX ?_
        refine x_istore_n C dX6_readOrder_43 rfl rfl (by decide) ?_
        refine x_goto (tgt := 69) C dX6_readOrder_44 (by decide) ?_
        refine x_to (M' := tX M b D Q (t_or2 D (t_or1 S))) (congrArg (tX M b D Q) (by simp only [t_or2, t_orv, if_pos c32])) ?_
        exact j69 _ (by simp only [t_or2, t_orv, if_pos c32])
  refine x_aload_n C dX6_readOrder_0 rfl rfl ?_
  refine x_getfield C dX6_readOrder_1 fX6_32 tX_g42 rfl ?_
  refine x_getfield C dX6_readOrder_4 fX6_155 tX_g0 rfl ?_
  refine x_bipush (v := 16) C dX6_readOrder_7 (by decide) ?_
  refine x_icmp_lt (tgt := 17) C dX6_readOrder_9 (by decide) (fun c9 => ?_) (fun c9 => ?_)
  · refine x_to (M' := tX M b D Q (t_or1 S)) (congrArg (tX M b D Q) (by simp only [t_or1, if_pos c9])) ?_
    exact j17
  · refine x_aload_n C dX6_readOrder_12 rfl rfl ?_
    refine x_iconst (v := 4) C dX6_readOrder_13 (by decide) ?_
    refine x_callV1 C dX6_readOrder_14 kX6_93 (c_X6_blame hO tX_bk) tX_g42 rfl (by omega) ⟨Nat.zero_le _, Nat.zero_le _⟩ (Nat.le_of_ble_eq_true rfl) ?_
    rintro _ _ ⟨rfl, rfl⟩
    refine x_to tX_tX ?_
    refine x_to (M' := tX M b D Q (t_or1 S)) (congrArg (tX M b D Q) (by simp only [t_or1, if_neg c9])) ?_
    exact j17
