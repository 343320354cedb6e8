set_option maxHeartbeats 4000000 in
set_option maxRecDepth 100000 in
theorem c_X11_newPart {l : Launch} {Y0 : x_Y} (hO : x_Ok Y0) {M : x_M} {o r i : Nat} {Ev : rE} {R : rS} (hd : o + 7 ≤ r) (hb : rB M o r Ev R) (hi : i < 401) (hin : ∀ k, k ≤ i → r_in Ev k) {nk np : Nat} (hc : Ev.2 10 1 = nI nk) (h1 : 1 ≤ nk) (h6 : nk ≤ 6) (hp : Ev.2 1 (nk - 1) = nI np) (hp6 : np ≤ 6) (h2 : i + 2 < 401) (hi2 : r_in Ev (i + 2)) : x_C l Y0 yX11_newPart cX11_newPart 5 (some .int) 4 0 0 [.ref o, .int (nI i)] M (fun u M1 => u = some (.int (e_np Ev R i nk np).1) ∧ M1 = rH M o r (e_np Ev R i nk np).2 R) := by
  refine x_start hO (by decide +kernel) (Nat.le_of_ble_eq_true rfl) (fun K C E => ?_)
  refine x_to (rH_self hb).symm ?_
  have j144 : ¬ (r_tld Ev R i 1) = -1 → np < 6 → h_any (fun j => decide (Ev.2 2 (6 * (nk - 1) + j) = (r_tld Ev R i 1))) np = false → ∀ (z y : Int32), y = r_sgn Ev i → x_X K 5 0 0 144 [(0, .ref o), (1, .int (nI i)), (2, .int (nI (nk - 1))), (3, .int (nI (6 * (nk - 1) + np))), (4, .int z)] [.int y, .int (nI (6 * (nk - 1) + np)), .ref (r + 4)] (rH M o r (Ev.1, h_u (m_E Ev i (r_tld Ev R i 1)).2 2 (6 * (nk - 1) + np) (r_tld Ev R i 1)) R) := by
      intro hx hn ha z y hy
      subst hy
      have hat : (6 * (nk - 1) + np) < 36 := by omega
      refine x_iastore C dX11_newPart_144 (rH_r 4 rfl) (nI_in hat (by decide)) ?_
      rw [nI_clamp (show 6 * (nk - 1) + np < 2 ^ 31 by omega)]
      refine x_to (show x_st (rH M o r (Ev.1, h_u (m_E Ev i (r_tld Ev R i 1)).2 2 (6 * (nk - 1) + np) (r_tld Ev R i 1)) R) (r + 4) _ = rH M o r (Ev.1, h_u (h_u (m_E Ev i (r_tld Ev R i 1)).2 2 (6 * (nk - 1) + np) (r_tld Ev R i 1)) 3 (6 * (nk - 1) + np) (r_sgn Ev i)) R from rH_sr 4 (Ev.1, h_u (h_u (m_E Ev i (r_tld Ev R i 1)).2 2 (6 * (nk - 1) + np) (r_tld Ev R i 1)) 3 (6 * (nk - 1) + np) (r_sgn Ev i)) R rfl rfl (by decide)) ?_
      refine x_aload_n C dX11_newPart_145 rfl rfl ?_
      refine x_getfield C dX11_newPart_146 fX11_39 (rH_g0 hd) rfl ?_
      refine x_getfield C dX11_newPart_149 fX11_77 rH_p0 rfl ?_
      refine x_iload_n C dX11_newPart_152 rfl rfl ?_
      refine x_dup2 C dX11_newPart_153 rfl rfl ?_
      refine x_iaload C dX11_newPart_154 (rH_r 2 rfl) (nI_in (show nk - 1 < 6 by omega) (by decide)) ?_
      rw [nI_clamp (show nk - 1 < 2 ^ 31 by omega)]
      refine x_topi (nI np) hp ?_
      refine x_iconst (v := 1) C dX11_newPart_155 (by decide) ?_
      refine x_iadd C dX11_newPart_156 ?_
      rw [nI_1]
      refine x_iastore C dX11_newPart_157 (rH_r 2 rfl) (nI_in (show nk - 1 < 6 by omega) (by decide)) ?_
      rw [nI_clamp (show nk - 1 < 2 ^ 31 by omega)]
      refine x_to (show x_st (rH M o r (Ev.1, h_u (h_u (m_E Ev i (r_tld Ev R i 1)).2 2 (6 * (nk - 1) + np) (r_tld Ev R i 1)) 3 (6 * (nk - 1) + np) (r_sgn Ev i)) R) (r + 2) _ = rH M o r (e_pt Ev i (6 * (nk - 1) + np) nk np (r_tld Ev R i 1) (r_sgn Ev i)) R from rH_sr 2 (e_pt Ev i (6 * (nk - 1) + np) nk np (r_tld Ev R i 1) (r_sgn Ev i)) R rfl rfl (by decide)) ?_
      refine x_iconst (v := 0) C dX11_newPart_158 (by decide) ?_
      refine x_iret C E dX11_newPart_159 ?_
      have e9 : e_np Ev R i nk np = (0, (e_pt Ev i (6 * (nk - 1) + np) nk np (r_tld Ev R i 1) (r_sgn Ev i))) := by unfold e_np; rw [if_neg hx, if_neg (by omega), if_neg (show ¬ r_isp Ev nk np (r_tld Ev R i 1) = true from ne_true_of_eq_false ha)]
      rw [e9]
      exact ⟨rfl, rfl⟩
  have lp : ¬ (r_tld Ev R i 1) = -1 → np < 6 → ∀ (w j : Nat) (z : Int32), j + w = np → z = nI (6 * (nk - 1) + j) → h_any (fun j => decide (Ev.2 2 (6 * (nk - 1) + j) = (r_tld Ev R i 1))) j = false → x_X K 5 0 0 58 [(0, .ref o), (1, .int (nI i)), (2, .int (nI (nk - 1))), (3, .int (nI (6 * (nk - 1) + np))), (4, .int z)] [] (rH M o r (m_E Ev i (r_tld Ev R i 1)) R) := by
    intro hx hn w
    induction w with
    | zero =>
      intro j z hj hz ha
      subst hz
      have e : np = j := by omega
      subst e
      have hat : 6 * (nk - 1) + np < 36 := by omega
      refine x_iload C dX11_newPart_58 rfl ?_
      refine x_iload_n C dX11_newPart_60 rfl rfl ?_
      refine x_icmp_ge (tgt := 91) C dX11_newPart_61 (by decide) (fun c61 => ?_) (fun c61 => absurd (nI_le (Nat.le_refl _) (by omega)) c61)
      refine x_aload_n C dX11_newPart_91 rfl rfl ?_
      refine x_getfield C dX11_newPart_92 fX11_39 (rH_g0 hd) rfl ?_
      refine x_getfield C dX11_newPart_95 fX11_234 rH_p0 rfl ?_
      refine x_iload_n C dX11_newPart_98 rfl rfl ?_
      refine x_aload_n C dX11_newPart_99 rfl rfl ?_
      refine x_getfield C dX11_newPart_100 fX11_29 (rH_g0 hd) rfl ?_
      refine x_iload_n C dX11_newPart_103 rfl rfl ?_
      refine x_iaload C dX11_newPart_104 (rH_g6 hd) (nI_in hi (by decide)) ?_
      rw [nI_clamp (show i < 2 ^ 31 by omega)]
      refine x_topi (r_tld Ev R i 1) (show h_u Ev.2 16 i (r_tld Ev R i 1) 16 i = _ from h_u_eq) ?_
      refine x_iastore C dX11_newPart_105 (rH_r 3 rfl) (nI_in hat (by decide)) ?_
      rw [nI_clamp (show 6 * (nk - 1) + np < 2 ^ 31 by omega)]
      refine x_to (show x_st (rH M o r (m_E Ev i (r_tld Ev R i 1)) R) (r + 3) _ = rH M o r (Ev.1, h_u (m_E Ev i (r_tld Ev R i 1)).2 2 (6 * (nk - 1) + np) (r_tld Ev R i 1)) R from rH_sr 3 (Ev.1, h_u (m_E Ev i (r_tld Ev R i 1)).2 2 (6 * (nk - 1) + np) (r_tld Ev R i 1)) R rfl rfl (by decide)) ?_
      refine x_aload_n C dX11_newPart_106 rfl rfl ?_
      refine x_getfield C dX11_newPart_107 fX11_39 (rH_g0 hd) rfl ?_
      refine x_getfield C dX11_newPart_110 fX11_237 rH_p0 rfl ?_
      refine x_iload_n C dX11_newPart_113 rfl rfl ?_
      refine x_aload_n C dX11_newPart_114 rfl rfl ?_
      refine x_getfield C dX11_newPart_115 fX11_17 (rH_g0 hd) rfl ?_
      refine x_iload_n C dX11_newPart_118 rfl rfl ?_
      refine x_iconst (v := 1) C dX11_newPart_119 (by decide) ?_
      refine x_iadd C dX11_newPart_120 ?_
      rw [nI_1]
      refine x_iaload C dX11_newPart_121 (rH_g2 hd) (nI_in (show i + 1 < 401 by omega) (by decide)) ?_
      rw [nI_clamp (show i + 1 < 2 ^ 31 by omega)]
      refine x_topi (Ev.2 12 (i + 1)) rfl ?_
      refine x_iconst (v := 5) C dX11_newPart_122 (by decide) ?_
      refine x_icmp_ne (tgt := 136) C dX11_newPart_123 (by decide) (fun c123 => ?_) (fun c123 => ?_)
      · refine x_aload_n C dX11_newPart_136 rfl rfl ?_
        refine x_iload_n C dX11_newPart_137 rfl rfl ?_
        refine x_iconst (v := 2) C dX11_newPart_138 (by decide) ?_
        refine x_iadd C dX11_newPart_139 ?_
        rw [nI_p2]
        refine x_callV1 C dX11_newPart_140 kX11_211 (c_X11_numberAt (Ev := (Ev.1, h_u (m_E Ev i (r_tld Ev R i 1)).2 2 (6 * (nk - 1) + np) (r_tld Ev R i 1))) hO h2 hi2 (rH_B hd)) (rH_g0 hd) rfl (by decide) ⟨Nat.zero_le _, Nat.zero_le _⟩ (Nat.le_of_ble_eq_true rfl) ?_
        rintro _ _ ⟨rfl, rfl⟩
        refine x_topi ((tE Ev).2 (i + 2)) rfl ?_
        refine x_ineg C dX11_newPart_143 ?_
        exact j144 hx hn ha _ _ (by unfold r_sgn; rw [if_neg c123])
      · refine x_aload_n C dX11_newPart_126 rfl rfl ?_
        refine x_iload_n C dX11_newPart_127 rfl rfl ?_
        refine x_iconst (v := 2) C dX11_newPart_128 (by decide) ?_
        refine x_iadd C dX11_newPart_129 ?_
        rw [nI_p2]
        refine x_callV1 C dX11_newPart_130 kX11_211 (c_X11_numberAt (Ev := (Ev.1, h_u (m_E Ev i (r_tld Ev R i 1)).2 2 (6 * (nk - 1) + np) (r_tld Ev R i 1))) hO h2 hi2 (rH_B hd)) (rH_g0 hd) rfl (by decide) ⟨Nat.zero_le _, Nat.zero_le _⟩ (Nat.le_of_ble_eq_true rfl) ?_
        rintro _ _ ⟨rfl, rfl⟩
        refine x_topi ((tE Ev).2 (i + 2)) rfl ?_
        refine x_goto (tgt := 144) C dX11_newPart_133 (by decide) ?_
        exact j144 hx hn ha _ _ (by unfold r_sgn; rw [if_pos c123])
    | succ w ih =>
      intro j z hj hz ha
      subst hz
      refine x_iload C dX11_newPart_58 rfl ?_
      refine x_iload_n C dX11_newPart_60 rfl rfl ?_
      refine x_icmp_ge (tgt := 91) C dX11_newPart_61 (by decide) (fun c61 => absurd c61 (nI_ge (by omega) (by omega))) (fun c61 => ?_)
      refine x_aload_n C dX11_newPart_64 rfl rfl ?_
      refine x_getfield C dX11_newPart_65 fX11_39 (rH_g0 hd) rfl ?_
      refine x_getfield C dX11_newPart_68 fX11_234 rH_p0 rfl ?_
      refine x_iload C dX11_newPart_71 rfl ?_
      refine x_iaload C dX11_newPart_73 (rH_r 3 rfl) (nI_in (show 6 * (nk - 1) + j < 36 by omega) (by decide)) ?_
      rw [nI_clamp (show 6 * (nk - 1) + j < 2 ^ 31 by omega)]
      refine x_topi (Ev.2 2 (6 * (nk - 1) + j)) rfl ?_
      refine x_aload_n C dX11_newPart_74 rfl rfl ?_
      refine x_getfield C dX11_newPart_75 fX11_29 (rH_g0 hd) rfl ?_
      refine x_iload_n C dX11_newPart_78 rfl rfl ?_
      refine x_iaload C dX11_newPart_79 (rH_g6 hd) (nI_in hi (by decide)) ?_
      rw [nI_clamp (show i < 2 ^ 31 by omega)]
      refine x_topi (r_tld Ev R i 1) (show h_u Ev.2 16 i (r_tld Ev R i 1) 16 i = _ from h_u_eq) ?_
      refine x_icmp_ne (tgt := 85) C dX11_newPart_80 (by decide) (fun c80 => ?_) (fun c80 => ?_)
      · refine x_iinc (v := 1) C dX11_newPart_85 rfl (by decide) rfl (by decide) ?_
        refine x_goto (tgt := 58) C dX11_newPart_88 (by decide) ?_
        exact ih (j + 1) _ (by omega) (nI_1 _) (by show (h_any (fun j => decide (Ev.2 2 (6 * (nk - 1) + j) = (r_tld Ev R i 1))) j || decide (Ev.2 2 (6 * (nk - 1) + j) = (r_tld Ev R i 1))) = false; rw [ha, decide_eq_false c80]; rfl)
      · refine x_iconst (v := 5) C dX11_newPart_83 (by decide) ?_
        refine x_iret C E dX11_newPart_84 ?_
        have e9 : e_np Ev R i nk np = (5, (m_E Ev i (r_tld Ev R i 1))) := by unfold e_np; rw [if_neg hx, if_neg (by omega), if_pos (show r_isp Ev nk np (r_tld Ev R i 1) = true from h_any_yes (j := j) (decide_eq_true c80) np (by omega))]
        rw [e9]
        exact ⟨rfl, rfl⟩
  refine x_aload_n C dX11_newPart_0 rfl rfl ?_
  refine x_iload_n C dX11_newPart_1 rfl rfl ?_
  refine x_iconst (v := 1) C dX11_newPart_2 (by decide) ?_
  refine x_callV2 C dX11_newPart_3 kX11_231 (c_X11_look hO hd (rH_B hd) hi hin) (rH_g0 hd) rfl (by decide) ⟨Nat.zero_le _, Nat.zero_le _⟩ (Nat.le_of_ble_eq_true rfl) ?_
  rintro _ _ ⟨rfl, rfl⟩
  refine x_to (rH_H hd) ?_
  refine x_if_le (tgt := 11) C dX11_newPart_6 (by decide) (fun c6 => ?_) (fun c6 => ?_)
  · have hx : ¬ (r_tld Ev R i 1) = -1 := fun q => absurd c6 (by unfold r_lk; rw [if_pos q]; decide)
    refine x_aload_n C dX11_newPart_11 rfl rfl ?_
    refine x_getfield C dX11_newPart_12 fX11_39 (rH_g0 hd) rfl ?_
    refine x_getfield C dX11_newPart_15 fX11_70 rH_p0 rfl ?_
    refine x_topi (nI nk) hc ?_
    refine x_iconst (v := 1) C dX11_newPart_18 (by decide) ?_
    refine x_isub C dX11_newPart_19 ?_
    rw [nI_s1 h1]
    refine x_istore_n C dX11_newPart_20 rfl rfl (by decide) ?_
    refine x_aload_n C dX11_newPart_21 rfl rfl ?_
    refine x_getfield C dX11_newPart_22 fX11_39 (rH_g0 hd) rfl ?_
    refine x_getfield C dX11_newPart_25 fX11_77 rH_p0 rfl ?_
    refine x_iload_n C dX11_newPart_28 rfl rfl ?_
    refine x_iaload C dX11_newPart_29 (rH_r 2 rfl) (nI_in (show nk - 1 < 6 by omega) (by decide)) ?_
    rw [nI_clamp (show nk - 1 < 2 ^ 31 by omega)]
    refine x_topi (nI np) hp ?_
    refine x_bipush (v := 6) C dX11_newPart_30 (by decide) ?_
    refine x_icmp_ne (tgt := 37) C dX11_newPart_32 (by decide) (fun c32 => ?_) (fun c32 => ?_)
    · have c32 : ¬ np = 6 := fun q => c32 (by rw [q]; rfl)
      have hn : np < 6 := by omega
      refine x_bipush (v := 6) C dX11_newPart_37 (by decide) ?_
      refine x_iload_n C dX11_newPart_39 rfl rfl ?_
      refine x_imul C dX11_newPart_40 ?_
      rw [six_nI]
      refine x_aload_n C dX11_newPart_41 rfl rfl ?_
      refine x_getfield C dX11_newPart_42 fX11_39 (rH_g0 hd) rfl ?_
      refine x_getfield C dX11_newPart_45 fX11_77 rH_p0 rfl ?_
      refine x_iload_n C dX11_newPart_48 rfl rfl ?_
      refine x_iaload C dX11_newPart_49 (rH_r 2 rfl) (nI_in (show nk - 1 < 6 by omega) (by decide)) ?_
      rw [nI_clamp (show nk - 1 < 2 ^ 31 by omega)]
      refine x_topi (nI np) hp ?_
      refine x_iadd C dX11_newPart_50 ?_
      rw [nI_add]
      refine x_istore_n C dX11_newPart_51 rfl rfl (by decide) ?_
      refine x_bipush (v := 6) C dX11_newPart_52 (by decide) ?_
      refine x_iload_n C dX11_newPart_54 rfl rfl ?_
      refine x_imul C dX11_newPart_55 ?_
      rw [six_nI]
      refine x_istore C dX11_newPart_56 rfl (by decide) ?_
      exact lp hx hn np 0 _ (by omega) rfl rfl
    · have c32 : np = 6 := (nI_eq (by omega) (by omega)).mp (show nI np = nI 6 from c32)
      refine x_iconst (v := 4) C dX11_newPart_35 (by decide) ?_
      refine x_iret C E dX11_newPart_36 ?_
      have e9 : e_np Ev R i nk np = (4, (m_E Ev i (r_tld Ev R i 1))) := by unfold e_np; rw [if_neg hx, if_pos c32]
      rw [e9]
      exact ⟨rfl, rfl⟩
  · have c6 : (r_tld Ev R i 1) = -1 := Decidable.byContradiction fun q => c6 (by unfold r_lk; rw [if_neg q]; decide)
    refine x_iconst (v := 3) C dX11_newPart_9 (by decide) ?_
    refine x_iret C E dX11_newPart_10 ?_
    have e9 : e_np Ev R i nk np = (3, (m_E Ev i (r_tld Ev R i 1))) := by unfold e_np; rw [if_pos c6]
    rw [e9]
    exact ⟨rfl, rfl⟩
