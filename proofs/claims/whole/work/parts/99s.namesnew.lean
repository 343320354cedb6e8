set_option maxHeartbeats 4000000 in
set_option maxRecDepth 100000 in
theorem c_X1_init {l : Launch} {Y0 : x_Y} (hO : x_Ok Y0) {M : x_M} {a N : Nat} (ha : x_bk M a [.inr (1, [.null, .int 0])]) (hM : M.2 = a + 1) (hN : N ≤ 2000) : x_C l Y0 yX1_init cX1_init 2 none 2 1 (0 + N) [.ref a, .int (nI N)] M (fun u M1 => u = none ∧ M1 = x_ov (x_nx M 1) a (nmT a N (fun _ => 0) 0)) := by
  refine x_start hO (by decide +kernel) (Nat.le_of_ble_eq_true rfl) (fun K C E => ?_)
  refine x_to ((x_ov_self ha).symm.trans (show x_ov M a _ = x_ov (x_nx M 0) a _ from rfl)) ?_
  refine x_aload_n C dX1_init_0 rfl rfl ?_
  refine x_objInit C dX1_init_1 oX1_3 o_i o_c (by decide) (Nat.le_of_ble_eq_true rfl) ?_
  refine x_aload_n C dX1_init_4 rfl rfl ?_
  refine x_iload_n C dX1_init_5 rfl rfl ?_
  refine x_if_ge (tgt := 13) C dX1_init_6 (by decide) (fun c6 => ?_) (fun c6 => absurd (show nI 0 ≤ nI N from nI_le (Nat.zero_le _) (by omega)) c6)
  refine x_iload_n C dX1_init_13 rfl rfl ?_
  refine x_newarrJ (N := N) C dX1_init_14 o_al (nI_pos (by omega)) (nI_clamp (by omega)) (by omega) (Nat.le_refl _) (by omega) ?_
  refine x_to (x_nx_nw hM rfl) ?_
  refine x_topr (a + 1) (show M.2 + 0 = a + 1 by omega) ?_
  refine x_putfinal C dX1_init_16 gfX1_9 rfl rfl (x_ovg 0 rfl) rfl rfl (Nat.le_of_ble_eq_true rfl) ?_
  refine x_to (x_st_ov 0 (Nat.le_of_ble_eq_true rfl)) ?_
  refine x_to (show _ = x_ov (x_nx M 1) a [.inr (1, [.ref (a + 1), .int 0]), .inl (1, N, .inr (.inl (fun _ => 0)))] from rfl) ?_
  refine x_vret C E dX1_init_19 ?_
  exact ⟨rfl, rfl⟩
def k_KT : List Nat := [100, 114, 111, 110, 101, 32, 104, 111, 110, 101, 121, 32, 100, 101, 97, 108, 32, 109, 111, 118, 101, 115, 32, 103, 105, 118, 101, 115, 32, 103, 101, 116, 115, 32, 98, 101, 103, 105, 110, 32, 99, 114, 97, 115, 104, 32, 119, 97, 107, 101, 32, 113, 117, 101, 101, 110, 32, 119, 104, 101, 110, 32, 100, 97, 121, 32, 100, 111, 110, 101, 32, 98, 108, 111, 99, 107, 101, 100, 32, 119, 97, 105, 116, 115, 32, 111, 102, 32, 97, 119, 97, 107, 101, 32, 110, 111, 116, 32, 97, 110, 100, 32, 111, 114, 32, 109, 105, 110, 32, 109, 97, 120]
theorem k_KT_as : s_as k_KT := by unfold s_as; decide +kernel
/-- one character of the keywords' text -/
def k_w1 (s : Nat × (Nat → Int64)) (c : Nat) : Nat × (Nat → Int64) := if nI c = 32 then (s.1 + 1, s.2) else if nI 22 ≤ nI s.1 then s else (s.1, vp_updL s.2 s.1 (k_lon (s.2 s.1) (nI c)))
def k_wf : Nat → Nat × (Nat → Int64)
  | 0 => (0, fun _ => 0)
  | i + 1 => k_w1 (k_wf i) (k_KT.getD i 0)
theorem k_wf_le : ∀ i, (k_wf i).1 ≤ i := by
  intro i
  induction i with
  | zero => exact Nat.le_refl _
  | succ i ih =>
    show (k_w1 (k_wf i) (k_KT.getD i 0)).1 ≤ i + 1
    unfold k_w1
    split
    · show (k_wf i).1 + 1 ≤ i + 1
      omega
    split
    · omega
    · show (k_wf i).1 ≤ i + 1
      omega
def k_KW : Nat → Int64 := (k_wf 112).2
set_option maxHeartbeats 4000000 in
set_option maxRecDepth 100000 in
theorem c_X7_init {l : Launch} {Y0 : x_Y} (hO : x_Ok Y0) {M : x_M} {a tp : Nat} (ha : x_bk M a [.inr (7, [.null, .null, .null, .null, .null, .int 0, .long 0, .int 0, .int 0, .int 0, .long 0])]) (hM : M.2 = a + 1) (hc : x_Stc Y0) {qk tk : Nat} (hZ : vk_R RX7 29 "drone honey deal moves gives gets begin crash wake queen when day done blocked waits of awake not and or min max" qk Y0.1) (hS : x_Str Y0 qk tk k_KT) : x_C l Y0 yX7_init cX7_init 5 none 5 4 1225 [.ref a, .ref tp] M (fun u M1 => u = none ∧ M1 = x_ov (x_nx M 4) a (tkT a tp k_KW ((0, 0), (fun _ => 0), (fun _ => 0), fun _ => 0) 0 0 0 0)) := by
  refine x_start hO (by decide +kernel) (Nat.le_of_ble_eq_true rfl) (fun K C E => ?_)
  refine x_to ((x_ov_self ha).symm.trans (show x_ov M a _ = x_ov (x_nx M 0) a _ from rfl)) ?_
  have lp : ∀ (w i : Nat) (x y : Int32), i + w = 112 → x = nI i → y = nI (k_wf i).1 → x_X K 5 4 1225 48 [(0, .ref a), (1, .ref tp), (2, .int y), (3, .int x)] [] (x_ov (x_nx M 4) a (tkT a tp (k_wf i).2 ((0, 0), (fun _ => 0), (fun _ => 0), fun _ => 0) 0 0 0 0)) := by
    intro w
    induction w with
    | zero =>
      intro i x y hi hx hy
      subst hx hy
      have e : i = 112 := by omega
      subst e
      refine x_iload_n C dX7_init_48 rfl rfl ?_
      refine x_ldcS C dX7_init_49 hZ ?_
      refine x_callT (As := []) C dX7_init_51 kX7_31 (c_J0_length_8abf5 hO hc hS k_KT_as) hS.1 rfl rfl rfl (by decide) ⟨Nat.le_of_ble_eq_true rfl, Nat.le_of_ble_eq_true rfl⟩ (Nat.le_of_ble_eq_true rfl) ?_
      rintro _ _ ⟨rfl, rfl⟩
      refine x_icmp_ge (tgt := 110) C dX7_init_54 (by decide) (fun c54 => ?_) (fun c54 => absurd (show nI k_KT.length ≤ nI 112 by decide) c54)
      refine x_vret C E dX7_init_110 ?_
      exact ⟨rfl, rfl⟩
    | succ w ih =>
      intro i x y hi hx hy
      subst hx hy
      have hi2 : i < 112 := by omega
      have hp := k_wf_le i
      have ex : ∀ v, k_w1 (k_wf i) (k_KT.getD i 0) = v → k_wf (i + 1) = v := fun v h => h
      refine x_iload_n C dX7_init_48 rfl rfl ?_
      refine x_ldcS C dX7_init_49 hZ ?_
      refine x_callT (As := []) C dX7_init_51 kX7_31 (c_J0_length_8abf5 hO hc hS k_KT_as) hS.1 rfl rfl rfl (by decide) ⟨Nat.le_of_ble_eq_true rfl, Nat.le_of_ble_eq_true rfl⟩ (Nat.le_of_ble_eq_true rfl) ?_
      rintro _ _ ⟨rfl, rfl⟩
      refine x_icmp_ge (tgt := 110) C dX7_init_54 (by decide) (fun c54 => absurd c54 (show ¬ nI k_KT.length ≤ nI i from nI_ge (show i < 112 by omega) (by decide))) (fun c54 => ?_)
      refine x_ldcS C dX7_init_57 hZ ?_
      refine x_iload_n C dX7_init_59 rfl rfl ?_
      refine x_callT (As := [_]) C dX7_init_60 kX7_37 (c_J0_charAt hO hc hS k_KT_as (k := i) (show i < 112 by omega)) hS.1 rfl rfl rfl (by decide) ⟨Nat.le_of_ble_eq_true rfl, Nat.le_of_ble_eq_true rfl⟩ (Nat.le_of_ble_eq_true rfl) ?_
      rintro _ _ ⟨rfl, rfl⟩
      refine x_istore C dX7_init_63 rfl (by decide) ?_
      refine x_iload C dX7_init_65 rfl ?_
      refine x_bipush (v := 32) C dX7_init_67 (by decide) ?_
      refine x_icmp_ne (tgt := 78) C dX7_init_69 (by decide) (fun c69 => ?_) (fun c69 => ?_)
      · refine x_iload_n C dX7_init_78 rfl rfl ?_
        refine x_aload_n C dX7_init_79 rfl rfl ?_
        refine x_getfield C dX7_init_80 fX7_9 (x_ovg 0 rfl) rfl ?_
        refine x_alen C dX7_init_83 (x_ovg 1 rfl) (by decide) ?_
        refine x_icmp_ge (tgt := 104) C dX7_init_84 (by decide) (fun c84 => ?_) (fun c84 => ?_)
        · refine x_iinc (v := 1) C dX7_init_104 rfl (by decide) rfl (by decide) ?_
          refine x_goto (tgt := 48) C dX7_init_107 (by decide) ?_
          refine x_take 4 ?_
          have e9 := ex _ ((if_neg c69).trans (if_pos c84))
          rw [show x_ov (x_nx M 4) a (tkT a tp (k_wf i).2 ((0, 0), (fun _ => 0), (fun _ => 0), fun _ => 0) 0 0 0 0) = x_ov (x_nx M 4) a (tkT a tp (k_wf (i + 1)).2 ((0, 0), (fun _ => 0), (fun _ => 0), fun _ => 0) 0 0 0 0) by rw [e9]]
          exact ih (i + 1) _ _ (by omega) (nI_1 i) (by rw [e9])
        · have h22 : (k_wf i).1 < 22 := Decidable.byContradiction fun h => c84 (nI_le (by omega) (by omega))
          refine x_aload_n C dX7_init_87 rfl rfl ?_
          refine x_getfield C dX7_init_88 fX7_9 (x_ovg 0 rfl) rfl ?_
          refine x_iload_n C dX7_init_91 rfl rfl ?_
          refine x_aload_n C dX7_init_92 rfl rfl ?_
          refine x_getfield C dX7_init_93 fX7_9 (x_ovg 0 rfl) rfl ?_
          refine x_iload_n C dX7_init_96 rfl rfl ?_
          refine x_laload C dX7_init_97 (x_ovg 1 rfl) (vp_in_nI (show (k_wf i).1 < 22 by omega) (by decide)) ?_
          rw [nI_clamp (show (k_wf i).1 < 2 ^ 31 by omega)]
          refine x_iload C dX7_init_98 rfl ?_
          refine x_callS2 C dX7_init_100 kX7_41 (c_X7_longer hO) (by decide) ⟨Nat.le_of_ble_eq_true rfl, Nat.le_of_ble_eq_true rfl⟩ (Nat.le_of_ble_eq_true rfl) ?_
          rintro _ _ ⟨rfl, rfl⟩
          refine x_lastore C dX7_init_103 (x_ovg 1 rfl) (vp_in_nI (show (k_wf i).1 < 22 by omega) (by decide)) ?_
          refine x_to (x_st_ov 1 (Nat.le_of_ble_eq_true rfl)) ?_
          rw [nI_clamp (show (k_wf i).1 < 2 ^ 31 by omega)]
          refine x_iinc (v := 1) C dX7_init_104 rfl (by decide) rfl (by decide) ?_
          refine x_goto (tgt := 48) C dX7_init_107 (by decide) ?_
          refine x_take 4 ?_
          have e9 := ex _ ((if_neg c69).trans (if_neg c84))
          refine x_to (show _ = x_ov (x_nx M 4) a (tkT a tp (k_wf (i + 1)).2 ((0, 0), (fun _ => 0), (fun _ => 0), fun _ => 0) 0 0 0 0) by rw [e9]; rfl) ?_
          exact ih (i + 1) _ _ (by omega) (nI_1 i) (by rw [e9])
      · refine x_iinc (v := 1) C dX7_init_72 rfl (by decide) rfl (by decide) ?_
        refine x_goto (tgt := 104) C dX7_init_75 (by decide) ?_
        refine x_iinc (v := 1) C dX7_init_104 rfl (by decide) rfl (by decide) ?_
        refine x_goto (tgt := 48) C dX7_init_107 (by decide) ?_
        refine x_take 4 ?_
        have e9 := ex _ (if_pos c69)
        rw [show x_ov (x_nx M 4) a (tkT a tp (k_wf i).2 ((0, 0), (fun _ => 0), (fun _ => 0), fun _ => 0) 0 0 0 0) = x_ov (x_nx M 4) a (tkT a tp (k_wf (i + 1)).2 ((0, 0), (fun _ => 0), (fun _ => 0), fun _ => 0) 0 0 0 0) by rw [e9]]
        exact ih (i + 1) _ _ (by omega) (nI_1 i) (by rw [e9]; exact nI_1 _)
  refine x_aload_n C dX7_init_0 rfl rfl ?_
  refine x_objInit C dX7_init_1 oX7_3 o_i o_c (by decide) (Nat.le_of_ble_eq_true rfl) ?_
  refine x_aload_n C dX7_init_4 rfl rfl ?_
  refine x_bipush (v := 22) C dX7_init_5 (by decide) ?_
  refine x_newarrJ (N := 22) C dX7_init_7 o_al (by decide) rfl (by decide) (Nat.le_of_ble_eq_true rfl) (Nat.le_of_ble_eq_true rfl) ?_
  refine x_to (x_nx_nw hM rfl) ?_
  refine x_topr (a + 1) (show M.2 + 0 = a + 1 by omega) ?_
  refine x_putfinal C dX7_init_9 gfX7_9 rfl rfl (x_ovg 0 rfl) rfl rfl (Nat.le_of_ble_eq_true rfl) ?_
  refine x_to (x_st_ov 0 (Nat.le_of_ble_eq_true rfl)) ?_
  refine x_to (show _ = x_ov (x_nx M 1) a [.inr (7, [.null, .ref (a + 1), .null, .null, .null, .int 0, .long 0, .int 0, .int 0, .int 0, .long 0]), .inl (1, 22, .inr (.inl (fun _ => 0)))] from rfl) ?_
  refine x_aload_n C dX7_init_12 rfl rfl ?_
  refine x_sipush (v := 401) C dX7_init_13 (by decide) ?_
  refine x_newarrI (N := 401) C dX7_init_16 o_ai (by decide) rfl (by decide) (Nat.le_of_ble_eq_true rfl) (Nat.le_of_ble_eq_true rfl) ?_
  refine x_to (x_nx_nw hM rfl) ?_
  refine x_topr (a + 2) (show M.2 + 1 = a + 2 by omega) ?_
  refine x_putfinal C dX7_init_18 gfX7_15 rfl rfl (x_ovg 0 rfl) rfl rfl (Nat.le_of_ble_eq_true rfl) ?_
  refine x_to (x_st_ov 0 (Nat.le_of_ble_eq_true rfl)) ?_
  refine x_to (show _ = x_ov (x_nx M 2) a [.inr (7, [.null, .ref (a + 1), .ref (a + 2), .null, .null, .int 0, .long 0, .int 0, .int 0, .int 0, .long 0]), .inl (1, 22, .inr (.inl (fun _ => 0))), .inl (0, 401, .inl (fun _ => 0))] from rfl) ?_
  refine x_aload_n C dX7_init_21 rfl rfl ?_
  refine x_sipush (v := 401) C dX7_init_22 (by decide) ?_
  refine x_newarrI (N := 401) C dX7_init_25 o_ai (by decide) rfl (by decide) (Nat.le_of_ble_eq_true rfl) (Nat.le_of_ble_eq_true rfl) ?_
  refine x_to (x_nx_nw hM rfl) ?_
  refine x_topr (a + 3) (show M.2 + 2 = a + 3 by omega) ?_
  refine x_putfinal C dX7_init_27 gfX7_19 rfl rfl (x_ovg 0 rfl) rfl rfl (Nat.le_of_ble_eq_true rfl) ?_
  refine x_to (x_st_ov 0 (Nat.le_of_ble_eq_true rfl)) ?_
  refine x_to (show _ = x_ov (x_nx M 3) a [.inr (7, [.null, .ref (a + 1), .ref (a + 2), .ref (a + 3), .null, .int 0, .long 0, .int 0, .int 0, .int 0, .long 0]), .inl (1, 22, .inr (.inl (fun _ => 0))), .inl (0, 401, .inl (fun _ => 0)), .inl (0, 401, .inl (fun _ => 0))] from rfl) ?_
  refine x_aload_n C dX7_init_30 rfl rfl ?_
  refine x_sipush (v := 401) C dX7_init_31 (by decide) ?_
  refine x_newarrJ (N := 401) C dX7_init_34 o_al (by decide) rfl (by decide) (Nat.le_of_ble_eq_true rfl) (Nat.le_of_ble_eq_true rfl) ?_
  refine x_to (x_nx_nw hM rfl) ?_
  refine x_topr (a + 4) (show M.2 + 3 = a + 4 by omega) ?_
  refine x_putfinal C dX7_init_36 gfX7_22 rfl rfl (x_ovg 0 rfl) rfl rfl (Nat.le_of_ble_eq_true rfl) ?_
  refine x_to (x_st_ov 0 (Nat.le_of_ble_eq_true rfl)) ?_
  refine x_to (show _ = x_ov (x_nx M 4) a [.inr (7, [.null, .ref (a + 1), .ref (a + 2), .ref (a + 3), .ref (a + 4), .int 0, .long 0, .int 0, .int 0, .int 0, .long 0]), .inl (1, 22, .inr (.inl (fun _ => 0))), .inl (0, 401, .inl (fun _ => 0)), .inl (0, 401, .inl (fun _ => 0)), .inl (1, 401, .inr (.inl (fun _ => 0)))] from rfl) ?_
  refine x_aload_n C dX7_init_39 rfl rfl ?_
  refine x_aload_n C dX7_init_40 rfl rfl ?_
  refine x_putfinal C dX7_init_41 gfX7_25 rfl rfl (x_ovg 0 rfl) rfl rfl (Nat.le_of_ble_eq_true rfl) ?_
  refine x_to (x_st_ov 0 (Nat.le_of_ble_eq_true rfl)) ?_
  refine x_to (show _ = x_ov (x_nx M 4) a [.inr (7, [.ref tp, .ref (a + 1), .ref (a + 2), .ref (a + 3), .ref (a + 4), .int 0, .long 0, .int 0, .int 0, .int 0, .long 0]), .inl (1, 22, .inr (.inl (fun _ => 0))), .inl (0, 401, .inl (fun _ => 0)), .inl (0, 401, .inl (fun _ => 0)), .inl (1, 401, .inr (.inl (fun _ => 0)))] from rfl) ?_
  refine x_iconst (v := 0) C dX7_init_44 (by decide) ?_
  refine x_istore_n C dX7_init_45 rfl rfl (by decide) ?_
  refine x_iconst (v := 0) C dX7_init_46 (by decide) ?_
  refine x_istore_n C dX7_init_47 rfl rfl (by decide) ?_
  refine x_to (congrArg (x_ov _ a) (show _ = tkT a tp (k_wf 0).2 ((0, 0), (fun _ => 0), (fun _ => 0), fun _ => 0) 0 0 0 0 from rfl)) ?_
  refine x_take 4 ?_
  exact lp 112 0 _ _ (by omega) rfl rfl
