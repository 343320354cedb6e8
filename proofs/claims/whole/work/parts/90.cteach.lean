set_option maxHeartbeats 4000000 in
set_option maxRecDepth 100000 in
theorem c_X8_teach {l : Launch} {Y0 : x_Y} (hO : x_Ok Y0) {M : x_M} {c b tp a a2 n : Nat} {ep : Int32} {Q : HS} {S : tS} {f : Nat → Int32} {x0 : Nat} {v0 : Int64} {kw : Nat → Int64} {K2 : (Nat → Int32) × (Nat → Int32) × (Nat → Int64)} {s2 : kS} {P0 P : PL} {A : HS} {hx sk : Nat → Int32} {ht : Int32} (hc1 : x_bk M c [.inr (8, [.ref tp, .ref b, .ref (b + 21), .ref (b + 42), .ref a, .ref a2, .int ep])]) (hct : c + 1 ≤ tp) (hba : b + 52 ≤ a) (ha : x_bk M a (hvT a (b + 21) P0 A hx sk ht)) (hs2 : k_lp f n kw 401 0 2 ((0, v0), K2) = s2) (hn : n ≤ 2000) (hp : x_bk M tp (tpT tp (nI n) f)) (hd : tp + 3 ≤ b) (hb : x_bk M b (tcT b ((tp, nI x0, v0), kw, K2) Q S)) (hD0 : ∀ j, ¬ K2.2.1 j = -1) (hc : x_Stc Y0) {qs ts : Nat} (hZ : vk_R RX7 113 "()[];,+-*/<>=" qs Y0.1) (hsy : x_Str Y0 qs ts k_SYM) (hf : k_by f) (hP : t_res (t_hive ((tp, nI s2.1.1, s2.1.2), kw, s2.2) S) = 0 → q_is (t_hive ((tp, nI s2.1.1, s2.1.2), kw, s2.2) S).1 P) : x_C l Y0 yX8_teach cX8_teach 2 (some .int) 47 0 0 [.ref c] M (fun u M1 => u = some (.int (t_res (t_hive ((tp, nI s2.1.1, s2.1.2), kw, s2.2) S))) ∧ (t_res (t_hive ((tp, nI s2.1.1, s2.1.2), kw, s2.2) S) = 0 → M1 = x_ov (x_ov (x_ov (x_ov (tX M b ((tp, nI s2.1.1, s2.1.2), kw, s2.2) Q (t_hive ((tp, nI s2.1.1, s2.1.2), kw, s2.2) S)) c [.inr (8, [.ref tp, .ref b, .ref (b + 21), .ref (b + 42), .ref a, .ref a2, .int (t_pos (t_hive ((tp, nI s2.1.1, s2.1.2), kw, s2.2) S))])]) tp [.inr (5, [.ref (tp + 1), .int 0])]) (b + 21) (plT (b + 21) (t_hive ((tp, nI s2.1.1, s2.1.2), kw, s2.2) S).1)) a (hvT a (b + 21) P (h_new P) ((t_hive ((tp, nI s2.1.1, s2.1.2), kw, s2.2) S).1 0) sk ht)) ∧ (¬ t_res (t_hive ((tp, nI s2.1.1, s2.1.2), kw, s2.2) S) = 0 → M1 = x_ov (x_ov (tX M b ((tp, nI s2.1.1, s2.1.2), kw, s2.2) Q (t_hive ((tp, nI s2.1.1, s2.1.2), kw, s2.2) S)) c [.inr (8, [.ref tp, .ref b, .ref (b + 21), .ref (b + 42), .ref a, .ref a2, .int (t_pos (t_hive ((tp, nI s2.1.1, s2.1.2), kw, s2.2) S))])]) tp [.inr (5, [.ref (tp + 1), .int 0])])) := by
  refine x_start hO (by decide +kernel) (Nat.le_of_ble_eq_true rfl) (fun K C E => ?_)
  have hrh := c_X6_readHive (l := l) (M := M) (S := S) (Q := Q) hO hs2 hn hp hd hb hD0 hc hZ hsy hf
  obtain ⟨S1, hS1⟩ : ∃ S1, t_hive ((tp, nI s2.1.1, s2.1.2), kw, s2.2) S = S1 := ⟨_, rfl⟩
  rw [hS1] at hrh hP
  have g1 : x_bk (tX M b ((tp, nI s2.1.1, s2.1.2), kw, s2.2) Q (S1)) c [.inr (8, [.ref tp, .ref b, .ref (b + 21), .ref (b + 42), .ref a, .ref a2, .int ep])] := x_ov_far 52 hc1 rfl (Or.inl (by show c + 1 ≤ b; omega))
  have g2 : x_bk (tX M b ((tp, nI s2.1.1, s2.1.2), kw, s2.2) Q (S1)) tp (tpT tp (nI n) f) := x_ov_far 52 hp rfl (Or.inl hd)
  have g3 : x_bk (x_ov (tX M b ((tp, nI s2.1.1, s2.1.2), kw, s2.2) Q (S1)) c [.inr (8, [.ref tp, .ref b, .ref (b + 21), .ref (b + 42), .ref a, .ref a2, .int (t_pos (S1))])]) tp (tpT tp (nI n) f) := x_ov_far 1 g2 rfl (Or.inr hct)
  have g4 : x_bk (x_ov (x_ov (tX M b ((tp, nI s2.1.1, s2.1.2), kw, s2.2) Q (S1)) c [.inr (8, [.ref tp, .ref b, .ref (b + 21), .ref (b + 42), .ref a, .ref a2, .int (t_pos (S1))])]) tp [.inr (5, [.ref (tp + 1), .int 0])]) b (tcT b ((tp, nI s2.1.1, s2.1.2), kw, s2.2) Q S1) := x_ov_far 1 (x_ov_far 1 tX_bk rfl (Or.inr (by omega))) rfl (Or.inr (by omega))
  have g5 : x_bk (x_ov (x_ov (tX M b ((tp, nI s2.1.1, s2.1.2), kw, s2.2) Q (S1)) c [.inr (8, [.ref tp, .ref b, .ref (b + 21), .ref (b + 42), .ref a, .ref a2, .int (t_pos (S1))])]) tp [.inr (5, [.ref (tp + 1), .int 0])]) c [.inr (8, [.ref tp, .ref b, .ref (b + 21), .ref (b + 42), .ref a, .ref a2, .int (t_pos S1)])] := x_ov_far 1 x_ov_bk rfl (Or.inl hct)
  have g6 : x_bk (x_ov (x_ov (x_ov (tX M b ((tp, nI s2.1.1, s2.1.2), kw, s2.2) Q (S1)) c [.inr (8, [.ref tp, .ref b, .ref (b + 21), .ref (b + 42), .ref a, .ref a2, .int (t_pos (S1))])]) tp [.inr (5, [.ref (tp + 1), .int 0])]) (b + 21) (plT (b + 21) (S1).1)) c [.inr (8, [.ref tp, .ref b, .ref (b + 21), .ref (b + 42), .ref a, .ref a2, .int (t_pos S1)])] := x_ov_far 21 g5 rfl (Or.inl (by show c + 1 ≤ b + 21; omega))
  have g7 : x_bk (x_ov (x_ov (x_ov (tX M b ((tp, nI s2.1.1, s2.1.2), kw, s2.2) Q (S1)) c [.inr (8, [.ref tp, .ref b, .ref (b + 21), .ref (b + 42), .ref a, .ref a2, .int (t_pos (S1))])]) tp [.inr (5, [.ref (tp + 1), .int 0])]) (b + 21) (plT (b + 21) (S1).1)) a (hvT a (b + 21) P0 A hx sk ht) := x_ov_far 21 (x_ov_far 1 (x_ov_far 1 (x_ov_far 52 ha rfl (Or.inr hba)) rfl (Or.inr (by omega))) rfl (Or.inr (by omega))) rfl (Or.inr (by omega))
  refine x_aload_n C dX8_teach_0 rfl rfl ?_
  refine x_getfield C dX8_teach_1 fX8_31 (hc1 0 _ rfl) rfl ?_
  refine x_callV0 C dX8_teach_4 kX8_70 hrh (hb 42 _ rfl) rfl (by decide) ⟨Nat.zero_le _, Nat.zero_le _⟩ (Nat.le_of_ble_eq_true rfl) ?_
  rintro _ _ ⟨rfl, rfl⟩
  refine x_istore_n C dX8_teach_7 rfl rfl (by decide) ?_
  refine x_aload_n C dX8_teach_8 rfl rfl ?_
  refine x_aload_n C dX8_teach_9 rfl rfl ?_
  refine x_getfield C dX8_teach_10 fX8_31 (g1 0 _ rfl) rfl ?_
  refine x_callV0 C dX8_teach_13 kX8_74 (c_X6_errorPosition hO tX_bk) (tX_bk 42 _ rfl) rfl (by decide) ⟨Nat.zero_le _, Nat.zero_le _⟩ (Nat.le_of_ble_eq_true rfl) ?_
  rintro _ _ ⟨rfl, rfl⟩
  refine x_to (x_ov_ov tc_len) ?_
  refine x_putfield C dX8_teach_16 fX8_47 (g1 0 _ rfl) rfl rfl (Nat.le_of_ble_eq_true rfl) ?_
  refine x_to (show _ = x_ov (tX M b ((tp, nI s2.1.1, s2.1.2), kw, s2.2) Q (S1)) c [.inr (8, [.ref tp, .ref b, .ref (b + 21), .ref (b + 42), .ref a, .ref a2, .int (t_pos (S1))])] from x_st_ov1) ?_
  refine x_aload_n C dX8_teach_19 rfl rfl ?_
  refine x_getfield C dX8_teach_20 fX8_12 (x_ovg 0 rfl) rfl ?_
  refine x_iconst (v := 0) C dX8_teach_23 (by decide) ?_
  refine x_putfield C dX8_teach_24 fX8_51 (g3 0 _ rfl) rfl rfl (Nat.le_of_ble_eq_true rfl) ?_
  refine x_to (show _ = x_ov (x_ov (tX M b ((tp, nI s2.1.1, s2.1.2), kw, s2.2) Q (S1)) c [.inr (8, [.ref tp, .ref b, .ref (b + 21), .ref (b + 42), .ref a, .ref a2, .int (t_pos (S1))])]) tp [.inr (5, [.ref (tp + 1), .int 0])] from x_st_ov1) ?_
  refine x_iload_n C dX8_teach_27 rfl rfl ?_
  refine x_if_ne (tgt := 49) C dX8_teach_28 (by decide) (fun c28 => ?_) (fun c28 => ?_)
  · refine x_iload_n C dX8_teach_49 rfl rfl ?_
    refine x_iret C E dX8_teach_50 ?_
    rw [hS1]
    exact ⟨rfl, fun q => absurd q c28, fun _ => rfl⟩
  · refine x_aload_n C dX8_teach_31 rfl rfl ?_
    refine x_getfield C dX8_teach_32 fX8_23 (g5 0 _ rfl) rfl ?_
    refine x_aload_n C dX8_teach_35 rfl rfl ?_
    refine x_getfield C dX8_teach_36 fX8_19 (g5 0 _ rfl) rfl ?_
    refine x_callV1 C dX8_teach_39 kX8_76 (c_X2_copyFrom hO (x_bk_sub g4 21 rfl) (x_bk_sub g4 0 rfl) (Or.inl (Nat.le_refl _))) (g4 21 _ rfl) rfl (by decide) ⟨Nat.zero_le _, Nat.zero_le _⟩ (Nat.le_of_ble_eq_true rfl) ?_
    rintro _ _ ⟨rfl, rfl⟩
    refine x_aload_n C dX8_teach_42 rfl rfl ?_
    refine x_getfield C dX8_teach_43 fX8_40 (g6 0 _ rfl) rfl ?_
    refine x_callV0 C dX8_teach_46 kX8_79 (c_X0_startAnew hO (hP c28) g7 x_ov_bk (Or.inl (by omega))) (g7 0 _ rfl) rfl (by decide) ⟨Nat.zero_le _, Nat.zero_le _⟩ (Nat.le_of_ble_eq_true rfl) ?_
    rintro _ _ ⟨rfl, rfl⟩
    refine x_iload_n C dX8_teach_49 rfl rfl ?_
    refine x_iret C E dX8_teach_50 ?_
    rw [hS1]
    exact ⟨rfl, fun _ => rfl, fun q => absurd c28 q⟩
