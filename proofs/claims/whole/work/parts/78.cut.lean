set_option maxHeartbeats 4000000 in
set_option maxRecDepth 100000 in
theorem c_X11_cut {l : Launch} {Y0 : x_Y} (hO : x_Ok Y0) {M : x_M} {o r n : Nat} {E0 : rE} {R0 : rS} (hd : o + 7 ≤ r) (hb : rB M o r E0 R0) (hn : E0.1.1.2.1 = nI n) (hn2 : n ≤ 2000) (hby : k_by (E0.2 20)) (hc : x_Stc Y0) {wa : Nat} {sa st9 : Nat → Nat} (hW : x_Wd Y0 wa sa st9) {qs ts : Nat} (hZ : vk_R RX11 109 "()[];,+-*/<>=" qs Y0.1) (hsy : x_Str Y0 qs ts k_SYM) : x_C l Y0 yX11_cut cX11_cut 3 none 7 0 0 [.ref o] M (fun u M1 => u = none ∧ M1 = rH M o r (y_lp (E0.2 20) n 401 0 0 (E0, R0)).1 (y_lp (E0.2 20) n 401 0 0 (E0, R0)).2) := by
  refine x_start hO (by decide +kernel) (Nat.le_of_ble_eq_true rfl) (fun K C E => ?_)
  refine x_to (rH_self hb).symm ?_
  have j98 : ∀ (i g : Nat) (Ev : rE) (R : rS), i < 401 → (y_kd (E0.2 20) n i g < 900 → x_X K 3 0 0 4 [(0, .ref o), (1, .int (nI (g + (r_kd9 (E0.2 20) n g).2))), (2, .int (nI (i + 1)))] [] (rH M o r (y_E3 Ev (E0.2 20) n i g) (y_R1 R i))) → (¬ y_kd (E0.2 20) n i g < 900 → y_lp (E0.2 20) n 401 0 0 (E0, R0) = ((y_E3 Ev (E0.2 20) n i g), y_R1 R i)) → x_X K 3 0 0 98 [(0, .ref o), (1, .int (nI g)), (2, .int (nI i))] [] (rH M o r (y_E3 Ev (E0.2 20) n i g) (y_R1 R i)) := by
      intro i g Ev R hi hnx hfi
      refine x_aload_n C dX11_cut_98 rfl rfl ?_
      refine x_getfield C dX11_cut_99 fX11_17 (rH_g0 hd) rfl ?_
      refine x_iload_n C dX11_cut_102 rfl rfl ?_
      refine x_iaload C dX11_cut_103 (rH_g2 hd) (nI_in hi (by decide)) ?_
      rw [nI_clamp (show i < 2 ^ 31 by omega)]
      refine x_topi (y_kd (E0.2 20) n i g) y_E3a ?_
      refine x_sipush (v := 900) C dX11_cut_104 (by decide) ?_
      refine x_icmp_lt (tgt := 111) C dX11_cut_107 (by decide) (fun c107 => ?_) (fun c107 => ?_)
      · refine x_iload_n C dX11_cut_111 rfl rfl ?_
        refine x_aload_n C dX11_cut_112 rfl rfl ?_
        refine x_getfield C dX11_cut_113 fX11_23 (rH_g0 hd) rfl ?_
        refine x_iload_n C dX11_cut_116 rfl rfl ?_
        refine x_iaload C dX11_cut_117 (rH_g4 hd) (nI_in hi (by decide)) ?_
        rw [nI_clamp (show i < 2 ^ 31 by omega)]
        refine x_topi (nI (r_kd9 (E0.2 20) n g).2) (y_many (y_lt c107)) ?_
        refine x_iadd C dX11_cut_118 ?_
        rw [nI_add]
        refine x_istore_n C dX11_cut_119 rfl rfl (by decide) ?_
        refine x_iinc (v := 1) C dX11_cut_120 rfl (by decide) rfl (by decide) ?_
        refine x_goto (tgt := 4) C dX11_cut_123 (by decide) ?_
        rw [nI_1]
        exact hnx c107
      · refine x_vret C E dX11_cut_110 ?_
        exact ⟨rfl, (congrArg (fun q : rE × rS => rH M o r q.1 q.2) (hfi c107)).symm⟩
  have j37 : ∀ (i g : Nat) (Ev : rE) (R : rS), i < 401 → g ≤ n → Ev.1 = E0.1 → Ev.2 20 = (E0.2 20) → (y_kd (E0.2 20) n i g < 900 → x_X K 3 0 0 4 [(0, .ref o), (1, .int (nI (g + (r_kd9 (E0.2 20) n g).2))), (2, .int (nI (i + 1)))] [] (rH M o r (y_E3 Ev (E0.2 20) n i g) (y_R1 R i))) → (¬ y_kd (E0.2 20) n i g < 900 → y_lp (E0.2 20) n 401 0 0 (E0, R0) = ((y_E3 Ev (E0.2 20) n i g), y_R1 R i)) → x_X K 3 0 0 37 [(0, .ref o), (1, .int (nI g)), (2, .int (nI i))] [] (rH M o r Ev R) := by
      intro i g Ev R hi hg h1 h2 hnx hfi
      have hf9 : (y_E1 Ev i g).2 20 = (E0.2 20) := (y_E1_row (by decide) (by decide)).trans h2
      have hn9 : (y_E1 Ev i g).1.1.2.1 = nI n := by show Ev.1.1.2.1 = nI n; rw [h1]; exact hn
      refine x_aload_n C dX11_cut_37 rfl rfl ?_
      refine x_getfield C dX11_cut_38 fX11_20 (rH_g0 hd) rfl ?_
      refine x_iload_n C dX11_cut_41 rfl rfl ?_
      refine x_iload_n C dX11_cut_42 rfl rfl ?_
      refine x_iastore C dX11_cut_43 (rH_g3 hd) (nI_in hi (by decide)) ?_
      rw [nI_clamp (show i < 2 ^ 31 by omega)]
      refine x_to (rH_fr hd) ?_
      refine x_aload_n C dX11_cut_44 rfl rfl ?_
      refine x_getfield C dX11_cut_45 fX11_26 (rH_g0 hd) rfl ?_
      refine x_iload_n C dX11_cut_48 rfl rfl ?_
      refine x_iconst (v := 0) C dX11_cut_49 (by decide) ?_
      refine x_iastore C dX11_cut_50 (rH_g5 hd) (nI_in hi (by decide)) ?_
      rw [nI_clamp (show i < 2 ^ 31 by omega)]
      refine x_to (rH_rl hd) ?_
      refine x_aload_n C dX11_cut_51 rfl rfl ?_
      refine x_getfield C dX11_cut_52 fX11_29 (rH_g0 hd) rfl ?_
      refine x_iload_n C dX11_cut_55 rfl rfl ?_
      refine x_iconst (v := 0) C dX11_cut_56 (by decide) ?_
      refine x_iastore C dX11_cut_57 (rH_g6 hd) (nI_in hi (by decide)) ?_
      rw [nI_clamp (show i < 2 ^ 31 by omega)]
      refine x_to (show _ = rH M o r (y_E1 Ev i g) (y_R1 R i) from rH_mn hd) ?_
      refine x_aload_n C dX11_cut_58 rfl rfl ?_
      refine x_getfield C dX11_cut_59 fX11_17 (rH_g0 hd) rfl ?_
      refine x_iload_n C dX11_cut_62 rfl rfl ?_
      refine x_aload_n C dX11_cut_63 rfl rfl ?_
      refine x_iload_n C dX11_cut_64 rfl rfl ?_
      refine x_iload_n C dX11_cut_65 rfl rfl ?_
      refine x_callV2 C dX11_cut_66 kX11_128 (c_X11_kindAt (Ev := y_E1 Ev i g) (R := y_R1 R i) hO hd (rH_B hd) hn9 hn2 hg hi (by rw [hf9]; exact hby) hc hW hZ hsy) (rH_g0 hd) rfl (by decide) ⟨Nat.zero_le _, Nat.zero_le _⟩ (Nat.le_of_ble_eq_true rfl) ?_
      rintro _ _ ⟨rfl, rfl⟩
      refine x_topi (y_k0 (E0.2 20) n g) (by rw [hf9]; rfl) ?_
      refine x_to (show _ = rH M o r (y_E2 Ev (E0.2 20) n i g) (y_R1 R i) from (rH_H hd).trans (by rw [hf9]; rfl)) ?_
      refine x_iastore C dX11_cut_69 (rH_g2 hd) (nI_in hi (by decide)) ?_
      rw [nI_clamp (show i < 2 ^ 31 by omega)]
      refine x_to (rH_kd hd) ?_
      refine x_iload_n C dX11_cut_70 rfl rfl ?_
      refine x_sipush (v := 400) C dX11_cut_71 (by decide) ?_
      refine x_icmp_ne (tgt := 98) C dX11_cut_74 (by decide) (fun c74 => ?_) (fun c74 => ?_)
      · have e9 : y_k0 (E0.2 20) n g = y_kd (E0.2 20) n i g := by unfold y_kd; rw [if_neg (fun q => c74 (by rw [q]; rfl))]
        rw [e9]
        exact j98 i g Ev R hi hnx hfi
      · refine x_aload_n C dX11_cut_77 rfl rfl ?_
        refine x_getfield C dX11_cut_78 fX11_17 (rH_g0 hd) rfl ?_
        refine x_iload_n C dX11_cut_81 rfl rfl ?_
        refine x_iaload C dX11_cut_82 (rH_g2 hd) (nI_in hi (by decide)) ?_
        rw [nI_clamp (show i < 2 ^ 31 by omega)]
        refine x_topi (y_k0 (E0.2 20) n g) y_Kat ?_
        refine x_sipush (v := 900) C dX11_cut_83 (by decide) ?_
        refine x_icmp_eq (tgt := 98) C dX11_cut_86 (by decide) (fun c86 => ?_) (fun c86 => ?_)
        · have h400 : i = 400 := (nI_eq (by omega) (by omega)).mp (show nI i = nI 400 from c74)
          have e9 : y_k0 (E0.2 20) n g = y_kd (E0.2 20) n i g := by unfold y_kd; rw [if_pos h400, if_pos c86, c86]
          rw [e9]
          exact j98 i g Ev R hi hnx hfi
        · refine x_aload_n C dX11_cut_89 rfl rfl ?_
          refine x_getfield C dX11_cut_90 fX11_17 (rH_g0 hd) rfl ?_
          refine x_iload_n C dX11_cut_93 rfl rfl ?_
          refine x_sipush (v := 901) C dX11_cut_94 (by decide) ?_
          refine x_iastore C dX11_cut_97 (rH_g2 hd) (nI_in hi (by decide)) ?_
          rw [nI_clamp (show i < 2 ^ 31 by omega)]
          refine x_to ((rH_kd hd).trans (congrArg (fun z => rH M o r z (y_R1 R i)) y_KK)) ?_
          have h400 : i = 400 := (nI_eq (by omega) (by omega)).mp (show nI i = nI 400 from c74)
          have e9 : (901 : Int32) = y_kd (E0.2 20) n i g := by unfold y_kd; rw [if_pos h400, if_neg c86]
          rw [e9]
          exact j98 i g Ev R hi hnx hfi
  have lpi : ∀ (i g : Nat) (Ev : rE) (R : rS), Ev.1 = E0.1 → Ev.2 20 = (E0.2 20) → x_X K 3 0 0 37 [(0, .ref o), (1, .int (nI g)), (2, .int (nI i))] [] (rH M o r Ev R) → ∀ (w e : Nat), e + w = n → g = k_skip (E0.2 20) n w e → x_X K 3 0 0 11 [(0, .ref o), (1, .int (nI e)), (2, .int (nI i))] [] (rH M o r Ev R) := by
    intro i g Ev R h1 h2 kk w
    have hn9 : Ev.1.1.2.1 = nI n := by rw [h1]; exact hn
    induction w with
    | zero =>
      intro e he hg
      have hge : ¬ r_by (E0.2 20) n e = 32 → ¬ r_by (E0.2 20) n e = 10 → g = e := fun _ _ => hg
      refine x_aload_n C dX11_cut_11 rfl rfl ?_
      refine x_iload_n C dX11_cut_12 rfl rfl ?_
      refine x_callV1 C dX11_cut_13 kX11_96 (c_X11_byteOf hO (rH_B hd) hn9 hn2 (show e < 2 ^ 20 by omega)) (rH_g0 hd) rfl (by decide) ⟨Nat.zero_le _, Nat.zero_le _⟩ (Nat.le_of_ble_eq_true rfl) ?_
      rintro _ _ ⟨rfl, rfl⟩
      rw [h2]
      refine x_bipush (v := 32) C dX11_cut_16 (by decide) ?_
      refine x_icmp_eq (tgt := 31) C dX11_cut_18 (by decide) (fun c18 => absurd c18 (by rw [r_by_out (by omega)]; decide)) (fun c18 => ?_)
      refine x_aload_n C dX11_cut_21 rfl rfl ?_
      refine x_iload_n C dX11_cut_22 rfl rfl ?_
      refine x_callV1 C dX11_cut_23 kX11_96 (c_X11_byteOf hO (rH_B hd) hn9 hn2 (show e < 2 ^ 20 by omega)) (rH_g0 hd) rfl (by decide) ⟨Nat.zero_le _, Nat.zero_le _⟩ (Nat.le_of_ble_eq_true rfl) ?_
      rintro _ _ ⟨rfl, rfl⟩
      rw [h2]
      refine x_bipush (v := 10) C dX11_cut_26 (by decide) ?_
      refine x_icmp_ne (tgt := 37) C dX11_cut_28 (by decide) (fun c28 => ?_) (fun c28 => absurd c28 (by rw [r_by_out (by omega)]; decide))
      have e9 := hge c18 c28
      rw [← e9]
      exact kk
    | succ w ih =>
      intro e he hg
      have hb9 : r_by (E0.2 20) n e = (E0.2 20) e := r_by_in (by omega)
      have hge : ¬ r_by (E0.2 20) n e = 32 → ¬ r_by (E0.2 20) n e = 10 → g = e := fun a b => by rw [hb9] at a b; rw [hg]; simp only [k_skip]; rw [if_neg a, if_neg b]
      refine x_aload_n C dX11_cut_11 rfl rfl ?_
      refine x_iload_n C dX11_cut_12 rfl rfl ?_
      refine x_callV1 C dX11_cut_13 kX11_96 (c_X11_byteOf hO (rH_B hd) hn9 hn2 (show e < 2 ^ 20 by omega)) (rH_g0 hd) rfl (by decide) ⟨Nat.zero_le _, Nat.zero_le _⟩ (Nat.le_of_ble_eq_true rfl) ?_
      rintro _ _ ⟨rfl, rfl⟩
      rw [h2]
      refine x_bipush (v := 32) C dX11_cut_16 (by decide) ?_
      refine x_icmp_eq (tgt := 31) C dX11_cut_18 (by decide) (fun c18 => ?_) (fun c18 => ?_)
      · refine x_iinc (v := 1) C dX11_cut_31 rfl (by decide) rfl (by decide) ?_
        refine x_goto (tgt := 11) C dX11_cut_34 (by decide) ?_
        rw [nI_1]
        exact ih (e + 1) (by omega) (by rw [hg]; simp only [k_skip]; rw [if_pos (hb9.symm.trans c18)])
      · refine x_aload_n C dX11_cut_21 rfl rfl ?_
        refine x_iload_n C dX11_cut_22 rfl rfl ?_
        refine x_callV1 C dX11_cut_23 kX11_96 (c_X11_byteOf hO (rH_B hd) hn9 hn2 (show e < 2 ^ 20 by omega)) (rH_g0 hd) rfl (by decide) ⟨Nat.zero_le _, Nat.zero_le _⟩ (Nat.le_of_ble_eq_true rfl) ?_
        rintro _ _ ⟨rfl, rfl⟩
        rw [h2]
        refine x_bipush (v := 10) C dX11_cut_26 (by decide) ?_
        refine x_icmp_ne (tgt := 37) C dX11_cut_28 (by decide) (fun c28 => ?_) (fun c28 => ?_)
        · have e9 := hge c18 c28
          rw [← e9]
          exact kk
        · refine x_iinc (v := 1) C dX11_cut_31 rfl (by decide) rfl (by decide) ?_
          refine x_goto (tgt := 11) C dX11_cut_34 (by decide) ?_
          rw [nI_1]
          exact ih (e + 1) (by omega) (by rw [hg]; simp only [k_skip]; rw [if_neg (fun q => c18 (hb9.trans q)), if_pos (hb9.symm.trans c28)])
  have lp : ∀ (w i x : Nat) (z : Int32) (Ev : rE) (R : rS), i + w = 401 → z = nI i → x ≤ n → Ev.1 = E0.1 → Ev.2 20 = (E0.2 20) → y_lp (E0.2 20) n 401 0 0 (E0, R0) = y_lp (E0.2 20) n w i x (Ev, R) → x_X K 3 0 0 4 [(0, .ref o), (1, .int (nI x)), (2, .int z)] [] (rH M o r Ev R) := by
    intro w
    induction w with
    | zero =>
      intro i x z Ev R hi hz hx h1 h2 hq
      subst hz
      have e : i = 401 := by omega
      refine x_iload_n C dX11_cut_4 rfl rfl ?_
      refine x_sipush (v := 400) C dX11_cut_5 (by decide) ?_
      refine x_icmp_gt (tgt := 126) C dX11_cut_8 (by decide) (fun c8 => ?_) (fun c8 => absurd (by rw [e]; decide) c8)
      refine x_vret C E dX11_cut_126 ?_
      exact ⟨rfl, by rw [hq]; rfl⟩
    | succ w ih =>
      intro i x z Ev R hi hz hx h1 h2 hq
      subst hz
      refine x_iload_n C dX11_cut_4 rfl rfl ?_
      refine x_sipush (v := 400) C dX11_cut_5 (by decide) ?_
      refine x_icmp_gt (tgt := 126) C dX11_cut_8 (by decide) (fun c8 => absurd c8 (fun q => absurd ((nI_ltI (by omega) (by omega)).mp (show nI 400 < nI i from q)) (by omega))) (fun c8 => ?_)
      have hgl := k_gap_le (f := (E0.2 20)) hx
      refine lpi i (k_gap (E0.2 20) n x) Ev R h1 h2 (j37 i (k_gap (E0.2 20) n x) Ev R (by omega) hgl.2 h1 h2 (fun hk => ?_) (fun hk => ?_)) (n - x) x (by omega) rfl
      · exact ih (i + 1) _ _ _ _ (by omega) rfl (r_kd9_le (y_lt hk)).2 (y_E3_1.trans h1) ((y_E3_row (by decide) (by decide) (by decide) (by decide)).trans h2) (by rw [hq]; simp only [y_lp]; rw [if_pos hk])
      · rw [hq]; simp only [y_lp]; rw [if_neg hk]
  refine x_iconst (v := 0) C dX11_cut_0 (by decide) ?_
  refine x_istore_n C dX11_cut_1 rfl rfl (by decide) ?_
  refine x_iconst (v := 0) C dX11_cut_2 (by decide) ?_
  refine x_istore_n C dX11_cut_3 rfl rfl (by decide) ?_
  exact lp 401 0 0 0 E0 R0 rfl rfl (Nat.zero_le _) rfl rfl rfl
