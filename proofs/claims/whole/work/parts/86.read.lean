theorem rd_S_err {b : rQ × Bool} {e : Int32} {j : Nat} {E : rE} (h : b.2 = true) (hL : rd_L b.1 = (e, j, E)) (he : ¬ e = 0) : rd_S b = (e, z_ea E (E.2 13 j), ((j, b.1.2.1.2), b.1.2.2)) := by
  unfold rd_S
  rw [if_pos h, hL]
  exact if_neg he
theorem rd_S_ok {b : rQ × Bool} {j : Nat} {E : rE} (h : b.2 = true) (hL : rd_L b.1 = (0, j, E)) : rd_S b = (0, E, (b.1.2.1, f_ls (E.2 16) b.1.2.2.2.1 b.1.2.2.1, b.1.2.2.2)) := by
  unfold rd_S
  rw [if_pos h, hL]
  exact if_pos rfl
theorem r_in_row {E E' : rE} {k : Nat} (h1 : E'.2 13 = E.2 13) (h2 : E'.2 14 = E.2 14) (h : r_in E k) : r_in E' k := by
  obtain ⟨p, m, a, b, c⟩ := h
  exact ⟨p, m, (congrFun h1 k).trans a, (congrFun h2 k).trans b, c⟩
theorem f_step {m : Nat → Int32} {op : List Nat} {c0 : List Int32} {k j : Nat} (hk : k < op.length) (hp : (f_ls m (op.take k) c0).getD (op.getD k 0) 0 = nI j) (hj : j < 2 ^ 31) : f_ls m (op.take (k + 1)) c0 = (f_ls m (op.take k) c0).set (op.getD k 0) (m j) := by
  rw [tk_succ hk, f_ls_app]
  show (f_ls m (op.take k) c0).set (op.getD k 0) (m ((f_ls m (op.take k) c0).getD (op.getD k 0) 0).toNatClampNeg) = _
  rw [hp, nI_clamp hj]
set_option maxHeartbeats 4000000 in
set_option maxRecDepth 100000 in
theorem c_X11_read {l : Launch} {Y0 : x_Y} (hO : x_Ok Y0) {M : x_M} {o rd0 n : Nat} {E0 : rE} {R0 : rS} (hbo : x_bk M o (moT o rd0 E0 R0)) (hd : o + 7 ≤ M.2) (hn : E0.1.1.2.1 = nI n) (hn2 : n ≤ 2000) (hby : k_by (E0.2 20)) (hc : x_Stc Y0) {wa : Nat} {sa st9 : Nat → Nat} (hW : x_Wd Y0 wa sa st9) {qs ts : Nat} (hZ : vk_R RX11 109 "()[];,+-*/<>=" qs Y0.1) (hsy : x_Str Y0 qs ts k_SYM) : x_C l Y0 yX11_read cX11_read 3 (some .int) 48 11 1368 [.ref o] M (fun u M1 => u = some (.int (rd_R n E0 R0).1) ∧ M1 = rH (x_nx M 11) o M.2 (rd_R n E0 R0).2.1 (rd_R n E0 R0).2.2) := by
  refine x_start hO (by decide +kernel) (Nat.le_of_ble_eq_true rfl) (fun K C E => ?_)
  obtain ⟨CE, CR, hC⟩ : ∃ CE CR, rd_C n E0 R0 = (CE, CR) := ⟨_, _, rfl⟩
  have hyo : ∃ N, y_ok (CE, CR) N := by rw [← hC]; exact y_lp_ok hn2 401 0 0 (z_E E0, z_R R0) rfl (by omega) (Nat.zero_le _) (fun k hk => absurd hk (Nat.not_lt_zero _))
  obtain ⟨N, hN4, hk9, hN9, hz9⟩ := hyo
  have hsm := y_lp_same (f := (z_E E0).2 20) (n := n) 401 0 0 (z_E E0, z_R R0)
  rw [show y_lp ((z_E E0).2 20) n 401 0 0 (z_E E0, z_R R0) = (CE, CR) from hC] at hsm
  obtain ⟨s1, s2, -, s4, s5, s6⟩ := hsm
  have s4 : CR.2.1 = [] := s4
  have s5 : CR.2.2.1 = [] := s5
  have s6 : CR.2.2.2.2 = [] := s6
  have hT : r_tok (tE CE) N := ⟨hN4, fun i hi => (hk9 i hi).1, hN9⟩
  have hRI : RI (tE CE) N [] [] ((0, 0), CR.2) := ⟨Nat.zero_le _, by show CR.2.1 = g_tr (CR.2.2.2.2.map (g_rs nI)); rw [s4, s6]; rfl, by show CR.2.2.1 = g_op 0 CR.2.2.2.2; rw [s5, s6]; rfl, fun i _ hi => hz9 i hi, fun i hi => absurd hi (Nat.not_lt_zero _), ⟨[], s6, rfl⟩, fun e he => by have he : e ∈ CR.2.2.2.2 := he; rw [s6] at he; cases he⟩
  have hkO : r_ok N ((0, 0), CR.2) := ⟨Nat.zero_le _, Nat.zero_le _, by show CR.2.1.length ≤ 2 * 0; rw [s4]; exact Nat.le_refl _, by show CR.2.2.1.length ≤ 0; rw [s5]; exact Nat.le_refl _⟩
  have hz10 : ∀ j, CE.2 10 j = nI 0 := fun j => congrFun (s2 10 (by decide) (by decide) (by decide) (by decide)) j
  have hg9 := r_gd_testN hT 8
  obtain ⟨B, hB⟩ : ∃ B, q_bk (tE CE) (r_testN (tE CE) 8) 401 (rd_Q (CE, CR)) = B := ⟨_, rfl⟩
  obtain ⟨g1, g2, g3, g4⟩ := q_bk_gd hT hg9 401 (rd_Q (CE, CR)) hkO (hz10 3)
  have hbk := RL_bk hT hg9 (RO_testN hT 8) 401 (rd_Q (CE, CR)) (RI_0 hRI) hkO (hz10 3) (by show N < 0 + 401; omega) rfl
  rw [hB] at g1 g2 g3 g4 hbk
  have hR9 : rd_R n E0 R0 = rd_S B := by unfold rd_R rd_B; rw [hC]; exact congrArg rd_S hB
  have hcn0 : e_cn B.1.1.2 := ⟨⟨0, Nat.zero_le _, (g4 0 (by decide)).trans (hz10 0)⟩, ⟨0, Nat.zero_le _, (g4 1 (by decide)).trans (hz10 1)⟩, ⟨0, Nat.zero_le _, (g4 2 (by decide)).trans (hz10 2)⟩, fun k _ => ⟨0, Nat.zero_le _, (congrFun (g3 1 (by decide) (by decide) (by decide)) k).trans (congrFun (s2 1 (by decide) (by decide) (by decide) (by decide)) k)⟩⟩
  have hin0 : ∀ k, k < N → r_in B.1.1.2 k := fun k hk => r_in_row (g3 13 (by decide) (by decide) (by decide)) (g3 14 (by decide) (by decide) (by decide)) (hk9 k hk).2
  have hz20 : (z_E E0).2 20 = E0.2 20 := rfl
  have hBN : B.1.2.1.1 ≤ N := g1.2.1
  refine x_aload_n C dX11_read_0 rfl rfl ?_
  refine x_new C dX11_read_1 nX11_32 (Nat.le_of_ble_eq_true rfl) (Nat.le_of_ble_eq_true rfl) ?_
  refine x_dup C dX11_read_4 rfl ?_
  refine x_callI (As := []) C dX11_read_5 kX11_34 (c_X9_init hO x_nw_bk rfl) rfl rfl (by decide) ⟨Nat.le_of_ble_eq_true rfl, Nat.le_of_ble_eq_true rfl⟩ (Nat.le_of_ble_eq_true rfl) ?_
  rintro _ _ ⟨rfl, rfl⟩
  refine x_putfield C dX11_read_8 fX11_39 ((rd_new hbo hd).1 0 _ rfl) rfl rfl (Nat.le_of_ble_eq_true rfl) ?_
  refine x_to (rd_new hbo hd).2 ?_
  have lpo : B.2 = true → RI (tE CE) N B.1.2.2.2.2.2 [] B.1.2 → B.1.2.1.1 = N → ∀ (Ev : rE), rd_L B.1 = (0, N, Ev) → ∀ (w k : Nat) (z : Int32), k + w = B.1.2.2.2.1.length → z = nI k → x_X K 3 11 1368 111 [(0, .ref o), (1, .int (nI N)), (2, .int z)] [] (rH (x_nx M 11) o M.2 Ev ((N, B.1.2.1.2), f_ls (Ev.2 16) (B.1.2.2.2.1.take k) B.1.2.2.1, B.1.2.2.2)) := by
    intro hb2 hRB hNe Ev hL w
    have hl8 : B.1.2.2.1.length ≤ 800 := by
      have h := g1.2.2.2.1
      have e : (rd_Q (CE, CR)).2.2.1.length = 0 := by show CR.2.1.length = 0; rw [s4]; rfl
      have e2 : (rd_Q (CE, CR)).2.1.1 = 0 := rfl
      omega
    have hl4 : B.1.2.2.2.1.length ≤ 400 := by
      have h := g1.2.2.2.2
      have e : (rd_Q (CE, CR)).2.2.2.1.length = 0 := by show CR.2.2.1.length = 0; rw [s5]; rfl
      have e2 : (rd_Q (CE, CR)).2.1.1 = 0 := rfl
      omega
    have hfp := f_places B.1.2.2.2.2.2 [] hRB.2.2.2.2.2.2
    rw [List.nil_append, ← hRB.2.1, show ([] : List Int32).length = 0 from rfl, ← hRB.2.2.1] at hfp
    induction w with
    | zero =>
      intro k z hk hz
      subst hz
      refine x_iload_n C dX11_read_111 rfl rfl ?_
      refine x_aload_n C dX11_read_112 rfl rfl ?_
      refine x_getfield C dX11_read_113 fX11_39 (rH_g0 hd) rfl ?_
      refine x_getfield C dX11_read_116 fX11_190 rH_p0 rfl ?_
      refine x_icmp_ge (tgt := 167) C dX11_read_119 (by decide) (fun c119 => ?_) (fun c119 => absurd (show nI B.1.2.2.2.1.length ≤ nI k from nI_le (by omega) (by omega)) c119)
      refine x_iconst (v := 0) C dX11_read_167 (by decide) ?_
      refine x_iret C E dX11_read_168 ?_
      have e9 := rd_S_ok hb2 hL
      have e8 : B.1.2.1 = (N, B.1.2.1.2) := Prod.ext hNe rfl
      rw [hR9, e9, show k = B.1.2.2.2.1.length by omega, List.take_length]
      exact ⟨rfl, by rw [← e8]⟩
    | succ w ih =>
      intro k z hk hz
      subst hz
      obtain ⟨hp, j, hj, hpj⟩ := f_next (m := Ev.2 16) hfp.1 (fun p hp => (hfp.2 p hp).2) (show k < B.1.2.2.2.1.length by omega)
      refine x_iload_n C dX11_read_111 rfl rfl ?_
      refine x_aload_n C dX11_read_112 rfl rfl ?_
      refine x_getfield C dX11_read_113 fX11_39 (rH_g0 hd) rfl ?_
      refine x_getfield C dX11_read_116 fX11_190 rH_p0 rfl ?_
      refine x_icmp_ge (tgt := 167) C dX11_read_119 (by decide) (fun c119 => absurd c119 (show ¬ nI B.1.2.2.2.1.length ≤ nI k from nI_ge (by omega) (by omega))) (fun c119 => ?_)
      refine x_aload_n C dX11_read_122 rfl rfl ?_
      refine x_getfield C dX11_read_123 fX11_39 (rH_g0 hd) rfl ?_
      refine x_getfield C dX11_read_126 fX11_140 rH_p0 rfl ?_
      refine x_aload_n C dX11_read_129 rfl rfl ?_
      refine x_getfield C dX11_read_130 fX11_39 (rH_g0 hd) rfl ?_
      refine x_getfield C dX11_read_133 fX11_187 rH_p0 rfl ?_
      refine x_iload_n C dX11_read_136 rfl rfl ?_
      refine x_iaload C dX11_read_137 (rH_r 10 rfl) (nI_in (show k < 400 by omega) (by decide)) ?_
      rw [nI_clamp (show k < 2 ^ 31 by omega)]
      refine x_topi (nI (B.1.2.2.2.1.getD k 0)) rfl ?_
      refine x_aload_n C dX11_read_138 rfl rfl ?_
      refine x_getfield C dX11_read_139 fX11_29 (rH_g0 hd) rfl ?_
      refine x_aload_n C dX11_read_142 rfl rfl ?_
      refine x_getfield C dX11_read_143 fX11_39 (rH_g0 hd) rfl ?_
      refine x_getfield C dX11_read_146 fX11_140 rH_p0 rfl ?_
      refine x_aload_n C dX11_read_149 rfl rfl ?_
      refine x_getfield C dX11_read_150 fX11_39 (rH_g0 hd) rfl ?_
      refine x_getfield C dX11_read_153 fX11_187 rH_p0 rfl ?_
      refine x_iload_n C dX11_read_156 rfl rfl ?_
      refine x_iaload C dX11_read_157 (rH_r 10 rfl) (nI_in (show k < 400 by omega) (by decide)) ?_
      rw [nI_clamp (show k < 2 ^ 31 by omega)]
      refine x_topi (nI (B.1.2.2.2.1.getD k 0)) rfl ?_
      refine x_iaload C dX11_read_158 (rH_r 9 rfl) (nI_in (show (B.1.2.2.2.1.getD k 0) < 800 by omega) (by decide)) ?_
      rw [nI_clamp (show (B.1.2.2.2.1.getD k 0) < 2 ^ 31 by omega)]
      refine x_topi (nI j) hpj ?_
      refine x_iaload C dX11_read_159 (rH_g6 hd) (nI_in (show j < 401 by omega) (by decide)) ?_
      rw [nI_clamp (show j < 2 ^ 31 by omega)]
      refine x_iastore C dX11_read_160 (rH_r 9 rfl) (nI_in (show (B.1.2.2.2.1.getD k 0) < 800 by omega) (by decide)) ?_
      rw [nI_clamp (show (B.1.2.2.2.1.getD k 0) < 2 ^ 31 by omega)]
      refine x_to (rH_cs (by rw [f_ls_len]; exact hp)) ?_
      refine x_iinc (v := 1) C dX11_read_161 rfl (by decide) rfl (by decide) ?_
      refine x_goto (tgt := 111) C dX11_read_164 (by decide) ?_
      rw [nI_1]
      rw [← f_step (show k < B.1.2.2.2.1.length by omega) hpj (by omega)]
      exact ih (k + 1) _ (by omega) rfl
  have lp57 : B.2 = true → RI (tE CE) N B.1.2.2.2.2.2 [] B.1.2 → B.1.2.1.1 = N → ∀ (w i : Nat) (Ev : rE), i + w = N → e_cn Ev → e_hd Ev B.1.2 i → (∀ k, k < N → r_in Ev k) → rd_L B.1 = e_lp B.1.2 w i Ev → x_X K 3 11 1368 57 [(0, .ref o), (1, .int (nI N))] [] (rH (x_nx M 11) o M.2 Ev ((i, B.1.2.1.2), B.1.2.2)) := by
    intro hb2 hRB hNe w
    induction w with
    | zero =>
      intro i Ev hi hcn hhd hin hq
      have e9 : i = N := by omega
      refine x_aload_n C dX11_read_57 rfl rfl ?_
      refine x_getfield C dX11_read_58 fX11_131 (rH_g0 hd) rfl ?_
      refine x_iload_n C dX11_read_61 rfl rfl ?_
      refine x_icmp_ge (tgt := 109) C dX11_read_62 (by decide) (fun c62 => ?_) (fun c62 => absurd (show nI N ≤ nI i from nI_le (by omega) (by omega)) c62)
      refine x_iconst (v := 0) C dX11_read_109 (by decide) ?_
      refine x_istore_n C dX11_read_110 rfl rfl (by decide) ?_
      refine x_to (congrArg (fun j => rH (x_nx M 11) o M.2 Ev ((j, B.1.2.1.2), B.1.2.2)) e9) ?_
      exact lpo hb2 hRB hNe Ev (by rw [hq, e9]; rfl) _ 0 0 (Nat.zero_add _) rfl
    | succ w ih =>
      intro i Ev hi hcn hhd hin hq
      have hrr := hRB.2.2.2.2.1 i (by omega)
      refine x_aload_n C dX11_read_57 rfl rfl ?_
      refine x_getfield C dX11_read_58 fX11_131 (rH_g0 hd) rfl ?_
      refine x_iload_n C dX11_read_61 rfl rfl ?_
      refine x_icmp_ge (tgt := 109) C dX11_read_62 (by decide) (fun c62 => absurd c62 (show ¬ nI N ≤ nI i from nI_ge (by omega) (by omega))) (fun c62 => ?_)
      refine x_aload_n C dX11_read_65 rfl rfl ?_
      refine x_aload_n C dX11_read_66 rfl rfl ?_
      refine x_getfield C dX11_read_67 fX11_131 (rH_g0 hd) rfl ?_
      refine x_callV1 C dX11_read_70 kX11_273 (c_X11_errorOf (R := ((i, B.1.2.1.2), B.1.2.2)) hO hd (rH_B hd) hN4 (show i < N by omega) hin hcn hhd hrr) (rH_g0 hd) rfl (by decide) ⟨Nat.le_refl _, Nat.le_refl _⟩ (Nat.le_of_ble_eq_true rfl) ?_
      rintro _ _ ⟨rfl, rfl⟩
      rw [e_at_tk]
      refine x_to (rH_H hd) ?_
      refine x_istore_n C dX11_read_73 rfl rfl (by decide) ?_
      refine x_iload_n C dX11_read_74 rfl rfl ?_
      refine x_if_ne (tgt := 81) C dX11_read_75 (by decide) (fun c75 => ?_) (fun c75 => ?_)
      · refine x_aload_n C dX11_read_81 rfl rfl ?_
        refine x_aload_n C dX11_read_82 rfl rfl ?_
        refine x_getfield C dX11_read_83 fX11_20 (rH_g0 hd) rfl ?_
        refine x_aload_n C dX11_read_86 rfl rfl ?_
        refine x_getfield C dX11_read_87 fX11_131 (rH_g0 hd) rfl ?_
        refine x_iaload C dX11_read_90 (rH_g3 hd) (nI_in (show i < 401 by omega) (by decide)) ?_
        rw [nI_clamp (show i < 2 ^ 31 by omega)]
        refine x_putfield C dX11_read_91 fX11_13 (rH_g0 hd) rfl rfl (Nat.le_of_ble_eq_true rfl) ?_
        refine x_to (rH_ea hd) ?_
        refine x_iload_n C dX11_read_94 rfl rfl ?_
        refine x_iret C E dX11_read_95 ?_
        have hL9 : rd_L B.1 = ((e_at Ev B.1.2 i).1, i, (e_at Ev B.1.2 i).2) := by rw [hq]; simp only [e_lp]; rw [if_neg c75]
        have e9 := rd_S_err hb2 hL9 c75
        rw [hR9, e9]
        exact ⟨rfl, rfl⟩
      · refine x_goto (tgt := 96) C dX11_read_78 (by decide) ?_
        refine x_aload_n C dX11_read_96 rfl rfl ?_
        refine x_dup C dX11_read_97 rfl ?_
        refine x_getfield C dX11_read_98 fX11_131 (rH_g0 hd) rfl ?_
        refine x_iconst (v := 1) C dX11_read_101 (by decide) ?_
        refine x_iadd C dX11_read_102 ?_
        rw [nI_1]
        refine x_putfield C dX11_read_103 fX11_131 (rH_g0 hd) rfl rfl (Nat.le_of_ble_eq_true rfl) ?_
        refine x_to (rH_adv hd) ?_
        refine x_goto (tgt := 57) C dX11_read_106 (by decide) ?_
        refine x_take 2 ?_
        obtain ⟨a1, a2⟩ := e_step hcn hhd hrr c75
        exact ih (i + 1) _ (by omega) a1 a2 (fun k hk => r_in_row (e_at_row (q := 13) (by unfold e_rw; decide) hrr).2 (e_at_row (q := 14) (by unfold e_rw; decide) hrr).2 (hin k hk)) (by rw [hq]; simp only [e_lp]; rw [if_pos c75])
  refine x_aload_n C dX11_read_11 rfl rfl ?_
  refine x_callV0 C dX11_read_12 kX11_267 (c_X11_cut (E0 := z_E E0) (R0 := z_R R0) hO hd (rH_B hd) hn hn2 hby hc hW hZ hsy) (rH_g0 hd) rfl (by decide) ⟨Nat.le_refl _, Nat.le_refl _⟩ (Nat.le_of_ble_eq_true rfl) ?_
  rintro _ _ ⟨rfl, rfl⟩
  refine x_to ((rH_H hd).trans (congrArg (fun q : rE × rS => rH (x_nx M 11) o M.2 q.1 q.2) (show y_lp ((z_E E0).2 20) n 401 0 0 (z_E E0, z_R R0) = (CE, CR) from hC))) ?_
  refine x_aload_n C dX11_read_15 rfl rfl ?_
  refine x_iconst (v := 0) C dX11_read_16 (by decide) ?_
  refine x_topi (nI 0) rfl ?_
  refine x_putfield C dX11_read_17 fX11_131 (rH_g0 hd) rfl rfl (Nat.le_of_ble_eq_true rfl) ?_
  refine x_to (rH_tk0 hd) ?_
  refine x_aload_n C dX11_read_20 rfl rfl ?_
  refine x_iconst (v := 0) C dX11_read_21 (by decide) ?_
  refine x_topi (nI 0) rfl ?_
  refine x_putfield C dX11_read_22 fX11_184 (rH_g0 hd) rfl rfl (Nat.le_of_ble_eq_true rfl) ?_
  refine x_to (rH_dp0 hd) ?_
  refine x_aload_n C dX11_read_25 rfl rfl ?_
  refine x_callV0 C dX11_read_26 kX11_270 (c_X11_isBook (Ev := CE) (R := ((0, 0), CR.2)) (od := 0) (d := 47) (ft := r_testN (tE CE) 8) (QB := B) hO hd hT hkO (rH_B hd) rfl (hz10 3) (Nat.zero_le _) hg9 (fun E9 h9 hi9 => by rw [← h9]; exact m_testN hO hd (by rw [h9]; exact hT) hi9) (fun i hi _ => (hk9 i hi).2) hB.symm (Nat.le_refl _)) (rH_g0 hd) rfl (by decide) ⟨Nat.le_refl _, Nat.le_refl _⟩ (Nat.le_of_ble_eq_true rfl) ?_
  rintro _ _ ⟨rfl, rfl⟩
  refine x_to (rH_H hd) ?_
  refine x_if_ne (tgt := 47) C dX11_read_29 (by decide) (fun c29 => ?_) (fun c29 => ?_)
  · have c29 := b_y c29
    refine x_aload_n C dX11_read_47 rfl rfl ?_
    refine x_getfield C dX11_read_48 fX11_131 (rH_g0 hd) rfl ?_
    refine x_istore_n C dX11_read_51 rfl rfl (by decide) ?_
    refine x_aload_n C dX11_read_52 rfl rfl ?_
    refine x_iconst (v := 0) C dX11_read_53 (by decide) ?_
    refine x_topi (nI 0) rfl ?_
    refine x_putfield C dX11_read_54 fX11_131 (rH_g0 hd) rfl rfl (Nat.le_of_ble_eq_true rfl) ?_
    refine x_to (rH_tk0 hd) ?_
    refine x_take 2 ?_
    obtain ⟨hRB, h900⟩ := hbk c29
    have hNe : B.1.2.1.1 = N := by
      rcases Nat.lt_or_ge B.1.2.1.1 N with q | q
      · have := hT.2.1 _ q
        rw [h900] at this
        exact absurd this (by decide)
      · omega
    rw [hNe]
    exact lp57 c29 hRB hNe N 0 _ (Nat.zero_add _) hcn0 ⟨fun j hj => absurd hj (Nat.not_lt_zero _), fun j hj => absurd hj (Nat.not_lt_zero _)⟩ hin0 (by unfold rd_L; rw [hNe])
  · have c29 := b_n c29
    refine x_aload_n C dX11_read_32 rfl rfl ?_
    refine x_aload_n C dX11_read_33 rfl rfl ?_
    refine x_getfield C dX11_read_34 fX11_20 (rH_g0 hd) rfl ?_
    refine x_aload_n C dX11_read_37 rfl rfl ?_
    refine x_getfield C dX11_read_38 fX11_131 (rH_g0 hd) rfl ?_
    refine x_iaload C dX11_read_41 (rH_g3 hd) (nI_in (show B.1.2.1.1 < 401 by omega) (by decide)) ?_
    rw [nI_clamp (show B.1.2.1.1 < 2 ^ 31 by omega)]
    refine x_putfield C dX11_read_42 fX11_13 (rH_g0 hd) rfl rfl (Nat.le_of_ble_eq_true rfl) ?_
    refine x_to (rH_ea hd) ?_
    refine x_iconst (v := 1) C dX11_read_45 (by decide) ?_
    refine x_iret C E dX11_read_46 ?_
    have e9 : rd_S B = (1, z_ea B.1.1.2 (B.1.1.2.2 13 B.1.2.1.1), B.1.2) := if_neg c29
    rw [hR9, e9]
    exact ⟨rfl, rfl⟩
