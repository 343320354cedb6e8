theorem h_ok_new {P : PL} : h_ok P (h_new P) := ⟨fun d => Or.inl rfl, fun s => Or.inl rfl, fun k => Or.inl rfl, fun k j _ _ _ => ⟨rfl, rfl⟩⟩
theorem s_fill_self {n : Nat} {F : Nat → Int32} : s_fill n F F = F := by
  funext j
  unfold s_fill
  split <;> rfl
theorem hv_any {a p : Nat} {P P' : PL} {T : HS} {hy sl : Nat → Int32} {hu : Int32} : hvT a p P T hy sl hu = hvT a p P' (q_r T 0 (s_fill (p_nd P) hy (T 0))) (s_fill (p_nd P) hy (T 0)) sl hu := by
  have e : s_fill (p_nd P') (s_fill (p_nd P) hy (T 0)) (q_r T 0 (s_fill (p_nd P) hy (T 0)) 0) = s_fill (p_nd P) hy (T 0) := by
    rw [show q_r T 0 (s_fill (p_nd P) hy (T 0)) 0 = s_fill (p_nd P) hy (T 0) from if_pos rfl]
    exact s_fill_self
  unfold hvT
  rw [e]
  rfl
theorem st_any {m o : Nat} {P P' : PL} {T : HS} {hy : Nat → Int32} {y : Int32} : stT m o P T hy y = stT m o P' (q_r T 0 (s_fill (p_nd P) hy (T 0))) (s_fill (p_nd P) hy (T 0)) y := by
  have e : s_fill (p_nd P') (s_fill (p_nd P) hy (T 0)) (q_r T 0 (s_fill (p_nd P) hy (T 0)) 0) = s_fill (p_nd P) hy (T 0) := by
    rw [show q_r T 0 (s_fill (p_nd P) hy (T 0)) 0 = s_fill (p_nd P) hy (T 0) from if_pos rfl]
    exact s_fill_self
  unfold stT
  rw [e]
  rfl
theorem wMr_far {M M1 : x_M} {o n : Nat} {th : Int32} {f : Nat → Int32} {P : PL} {A : HS} {ep : Int32} {r q : Nat} {E2 : HS} {R : rS} {G : HS} {hz : Nat → Int32} {z : Int32} {sm : Nat → Int32} {T : HS} {hy : Nat → Int32} {y2 : Int32} (h : wMr M o th n f P A ep r q E2 R G hz z sm T hy y2) (hM : M.2 ≤ M1.2) (e : ∀ x, o ≤ x → x ≠ o + 46 → x < M.2 → M1.1 x = M.1 x) : wMr M1 o th n f P A ep r q E2 R G hz z sm T hy y2 := by
  obtain ⟨h1, h2, h3, h4, h5, h6, h7, h8, h9, h0⟩ := h
  have l1 : (moT o r (((th, nI n, ep), (q, o + 18, o + 19, o + 28)), E2) R).length = 7 := rfl
  have l3 : (pmT q G).length = 11 := rfl
  have l9 : (stT (o + 19) o P A hz z).length = 9 := rfl
  have l0 : (stT (o + 28) o P T hy y2).length = 9 := rfl
  exact ⟨x_bk_eq h1 (fun x q1 q2 => e x (by omega) (by omega) (by omega)), h2, x_bk_eq h3 (fun x q1 q2 => e x (by omega) (by omega) (by omega)), h4, h5, by omega, by omega, x_bk_eq h8 (fun x q1 q2 => by simp only [List.length_cons, List.length_nil] at q2; exact e x (by omega) (by omega) (by omega)), x_bk_eq h9 (fun x q1 q2 => e x (by omega) (by omega) (by omega)), x_bk_eq h0 (fun x q1 q2 => e x (by omega) (by omega) (by omega))⟩
set_option maxHeartbeats 4000000 in
set_option maxRecDepth 100000 in
theorem cw_teach {l : Launch} {Y0 : x_Y} (hO : x_Ok Y0) {M : x_M} {c n : Nat} {f : Nat → Int32} {P : PL} {A : HS} {ep : Int32} {x0 : Nat} {v0 : Int64} {K2 : (Nat → Int32) × (Nat → Int32) × (Nat → Int64)} {Q : HS} {S : tS} {hx sk : Nat → Int32} {ht : Int32} {T : HS} {hy sl : Nat → Int32} {hu : Int32} (w9 : wCr M c n f P A ep x0 v0 K2 Q S hx sk ht T hy sl hu) (hn : n ≤ 2000) (hf : k_by f) (hS : x_Stc Y0) {qs ts : Nat} (hZ : vk_R RX7 113 "()[];,+-*/<>=" qs Y0.1) (hsy : x_Str Y0 qs ts k_SYM) {s2 : kS} (hs2 : k_lp f n k_KW 401 0 2 ((0, v0), K2) = s2) {St : tS} (hSt : t_hive ((c + 1, nI s2.1.1, s2.1.2), k_KW, s2.2) S = St) {P' : PL} (hP' : t_res St = 0 → q_is St.1 P') : x_C l Y0 yX8_teach cX8_teach 2 (some .int) 47 0 0 [.ref c] M (fun u M1 => u = some (.int (t_res St)) ∧ (t_res St = 0 → cQ M M1 c 0 f P' (h_new P') (t_pos St)) ∧ (¬ t_res St = 0 → cQ M M1 c 0 f P A (t_pos St))) := by
  obtain ⟨w1, w2, w3, w4, hQ, w6, w7⟩ := w9
  have cT := c_X8_teach (l := l) (P := P') hO w1 (Nat.le_refl _) (show c + 4 + 52 ≤ c + 56 by omega) w6 hs2 hn w2 (show c + 1 + 3 ≤ c + 4 by omega) w3 w4 hS hZ hsy hf (by rw [hSt]; exact hP')
  rw [hSt] at cT
  have st0 : ∀ j, ¬ s2.2.2.1 j = -1 := by
    rw [← hs2]
    exact k_lp_st hn 401 0 2 ((0, v0), K2) (Nat.zero_le _) w4
  have l2 : (tpT (c + 1) (nI n) f).length = 3 := rfl
  have l3 : (tcT (c + 4) ((c + 1, nI s2.1.1, s2.1.2), k_KW, s2.2) Q St).length = 52 := rfl
  have l6 : (hvT (c + 56) (c + 4 + 21) P A hx sk ht).length = 20 := rfl
  have l7 : (hvT (c + 76) (c + 4 + 21) P T hy sl hu).length = 20 := rfl
  have lp : (plT (c + 4 + 21) St.1).length = 21 := rfl
  have le : (hvT (c + 56) (c + 4 + 21) P' (h_new P') (St.1 0) sk ht).length = 20 := rfl
  have a2 : x_bk (tX M (c + 4) ((c + 1, nI s2.1.1, s2.1.2), k_KW, s2.2) Q St) (c + 1) (tpT (c + 1) (nI n) f) := x_ov_far 52 w2 l3 (by omega)
  have a3 : x_bk (tX M (c + 4) ((c + 1, nI s2.1.1, s2.1.2), k_KW, s2.2) Q St) (c + 4) (tcT (c + 4) ((c + 1, nI s2.1.1, s2.1.2), k_KW, s2.2) Q St) := x_ov_bk
  have a6 : x_bk (tX M (c + 4) ((c + 1, nI s2.1.1, s2.1.2), k_KW, s2.2) Q St) (c + 56) (hvT (c + 56) (c + 4 + 21) P A hx sk ht) := x_ov_far 52 w6 l3 (by omega)
  have a7 : x_bk (tX M (c + 4) ((c + 1, nI s2.1.1, s2.1.2), k_KW, s2.2) Q St) (c + 76) (hvT (c + 76) (c + 4 + 21) P T hy sl hu) := x_ov_far 52 w7 l3 (by omega)
  have b1 : x_bk (x_ov (tX M (c + 4) ((c + 1, nI s2.1.1, s2.1.2), k_KW, s2.2) Q St) c [.inr (8, [.ref (c + 1), .ref (c + 4), .ref (c + 4 + 21), .ref (c + 4 + 42), .ref (c + 56), .ref (c + 76), .int (t_pos St)])]) c [.inr (8, [.ref (c + 1), .ref (c + 4), .ref (c + 4 + 21), .ref (c + 4 + 42), .ref (c + 56), .ref (c + 76), .int (t_pos St)])] := x_ov_bk
  have b2 : x_bk (x_ov (tX M (c + 4) ((c + 1, nI s2.1.1, s2.1.2), k_KW, s2.2) Q St) c [.inr (8, [.ref (c + 1), .ref (c + 4), .ref (c + 4 + 21), .ref (c + 4 + 42), .ref (c + 56), .ref (c + 76), .int (t_pos St)])]) (c + 1) (tpT (c + 1) (nI n) f) := x_ov_far 1 a2 rfl (by omega)
  have b3 : x_bk (x_ov (tX M (c + 4) ((c + 1, nI s2.1.1, s2.1.2), k_KW, s2.2) Q St) c [.inr (8, [.ref (c + 1), .ref (c + 4), .ref (c + 4 + 21), .ref (c + 4 + 42), .ref (c + 56), .ref (c + 76), .int (t_pos St)])]) (c + 4) (tcT (c + 4) ((c + 1, nI s2.1.1, s2.1.2), k_KW, s2.2) Q St) := x_ov_far 1 a3 rfl (by omega)
  have b6 : x_bk (x_ov (tX M (c + 4) ((c + 1, nI s2.1.1, s2.1.2), k_KW, s2.2) Q St) c [.inr (8, [.ref (c + 1), .ref (c + 4), .ref (c + 4 + 21), .ref (c + 4 + 42), .ref (c + 56), .ref (c + 76), .int (t_pos St)])]) (c + 56) (hvT (c + 56) (c + 4 + 21) P A hx sk ht) := x_ov_far 1 a6 rfl (by omega)
  have b7 : x_bk (x_ov (tX M (c + 4) ((c + 1, nI s2.1.1, s2.1.2), k_KW, s2.2) Q St) c [.inr (8, [.ref (c + 1), .ref (c + 4), .ref (c + 4 + 21), .ref (c + 4 + 42), .ref (c + 56), .ref (c + 76), .int (t_pos St)])]) (c + 76) (hvT (c + 76) (c + 4 + 21) P T hy sl hu) := x_ov_far 1 a7 rfl (by omega)
  have c1 : x_bk (x_ov (x_ov (tX M (c + 4) ((c + 1, nI s2.1.1, s2.1.2), k_KW, s2.2) Q St) c [.inr (8, [.ref (c + 1), .ref (c + 4), .ref (c + 4 + 21), .ref (c + 4 + 42), .ref (c + 56), .ref (c + 76), .int (t_pos St)])]) (c + 1) [.inr (5, [.ref (c + 1 + 1), .int 0])]) c [.inr (8, [.ref (c + 1), .ref (c + 4), .ref (c + 4 + 21), .ref (c + 4 + 42), .ref (c + 56), .ref (c + 76), .int (t_pos St)])] := x_ov_far 1 b1 rfl (Or.inl (Nat.le_refl _))
  have c2 : x_bk (x_ov (x_ov (tX M (c + 4) ((c + 1, nI s2.1.1, s2.1.2), k_KW, s2.2) Q St) c [.inr (8, [.ref (c + 1), .ref (c + 4), .ref (c + 4 + 21), .ref (c + 4 + 42), .ref (c + 56), .ref (c + 76), .int (t_pos St)])]) (c + 1) [.inr (5, [.ref (c + 1 + 1), .int 0])]) (c + 1) (tpT (c + 1) (nI 0) f) := x_bk_set0 b2
  have c3 : x_bk (x_ov (x_ov (tX M (c + 4) ((c + 1, nI s2.1.1, s2.1.2), k_KW, s2.2) Q St) c [.inr (8, [.ref (c + 1), .ref (c + 4), .ref (c + 4 + 21), .ref (c + 4 + 42), .ref (c + 56), .ref (c + 76), .int (t_pos St)])]) (c + 1) [.inr (5, [.ref (c + 1 + 1), .int 0])]) (c + 4) (tcT (c + 4) ((c + 1, nI s2.1.1, s2.1.2), k_KW, s2.2) Q St) := x_ov_far 1 b3 rfl (by omega)
  have c6 : x_bk (x_ov (x_ov (tX M (c + 4) ((c + 1, nI s2.1.1, s2.1.2), k_KW, s2.2) Q St) c [.inr (8, [.ref (c + 1), .ref (c + 4), .ref (c + 4 + 21), .ref (c + 4 + 42), .ref (c + 56), .ref (c + 76), .int (t_pos St)])]) (c + 1) [.inr (5, [.ref (c + 1 + 1), .int 0])]) (c + 56) (hvT (c + 56) (c + 4 + 21) P A hx sk ht) := x_ov_far 1 b6 rfl (by omega)
  have c7 : x_bk (x_ov (x_ov (tX M (c + 4) ((c + 1, nI s2.1.1, s2.1.2), k_KW, s2.2) Q St) c [.inr (8, [.ref (c + 1), .ref (c + 4), .ref (c + 4 + 21), .ref (c + 4 + 42), .ref (c + 56), .ref (c + 76), .int (t_pos St)])]) (c + 1) [.inr (5, [.ref (c + 1 + 1), .int 0])]) (c + 76) (hvT (c + 76) (c + 4 + 21) P T hy sl hu) := x_ov_far 1 b7 rfl (by omega)
  have co : ∀ x, x < c ∨ c + 96 ≤ x → ((x_ov (x_ov (tX M (c + 4) ((c + 1, nI s2.1.1, s2.1.2), k_KW, s2.2) Q St) c [.inr (8, [.ref (c + 1), .ref (c + 4), .ref (c + 4 + 21), .ref (c + 4 + 42), .ref (c + 56), .ref (c + 76), .int (t_pos St)])]) (c + 1) [.inr (5, [.ref (c + 1 + 1), .int 0])])).1 x = M.1 x := fun x h => (x_ov_out (by simp only [List.length_cons, List.length_nil]; omega)).trans ((x_ov_out (by simp only [List.length_cons, List.length_nil]; omega)).trans (x_ov_out (by omega)))
  refine x_C_mono cT (fun u M1 q => ?_)
  obtain ⟨hu9, q1, q2⟩ := q
  refine ⟨hu9, fun h => ?_, fun h => ?_⟩
  · have q1 := q1 h
    subst q1
    have d3 : (x_ov (x_ov (x_ov (tX M (c + 4) ((c + 1, nI s2.1.1, s2.1.2), k_KW, s2.2) Q St) c [.inr (8, [.ref (c + 1), .ref (c + 4), .ref (c + 4 + 21), .ref (c + 4 + 42), .ref (c + 56), .ref (c + 76), .int (t_pos St)])]) (c + 1) [.inr (5, [.ref (c + 1 + 1), .int 0])]) (c + 4 + 21) (plT (c + 4 + 21) St.1)) = x_ov (x_ov (x_ov (tX M (c + 4) ((c + 1, nI s2.1.1, s2.1.2), k_KW, s2.2) Q St) c [.inr (8, [.ref (c + 1), .ref (c + 4), .ref (c + 4 + 21), .ref (c + 4 + 42), .ref (c + 56), .ref (c + 76), .int (t_pos St)])]) (c + 1) [.inr (5, [.ref (c + 1 + 1), .int 0])]) (c + 4) (tcT (c + 4) ((c + 1, nI s2.1.1, s2.1.2), k_KW, s2.2) St.1 St) := by
      have e := x_ov_in (M := (x_ov (x_ov (tX M (c + 4) ((c + 1, nI s2.1.1, s2.1.2), k_KW, s2.2) Q St) c [.inr (8, [.ref (c + 1), .ref (c + 4), .ref (c + 4 + 21), .ref (c + 4 + 42), .ref (c + 56), .ref (c + 76), .int (t_pos St)])]) (c + 1) [.inr (5, [.ref (c + 1 + 1), .int 0])])) (a := c + 4) (L := tcT (c + 4) ((c + 1, nI s2.1.1, s2.1.2), k_KW, s2.2) Q St) (L' := plT (c + 4 + 21) St.1) 21 (by rw [l3, lp]; decide)
      rw [x_ov_self c3] at e
      exact e
    have d3' : x_bk (x_ov (x_ov (x_ov (tX M (c + 4) ((c + 1, nI s2.1.1, s2.1.2), k_KW, s2.2) Q St) c [.inr (8, [.ref (c + 1), .ref (c + 4), .ref (c + 4 + 21), .ref (c + 4 + 42), .ref (c + 56), .ref (c + 76), .int (t_pos St)])]) (c + 1) [.inr (5, [.ref (c + 1 + 1), .int 0])]) (c + 4 + 21) (plT (c + 4 + 21) St.1)) (c + 4) (tcT (c + 4) ((c + 1, nI s2.1.1, s2.1.2), k_KW, s2.2) St.1 St) := by
      rw [d3]
      exact x_ov_bk
    have l9 : (tcT (c + 4) ((c + 1, nI s2.1.1, s2.1.2), k_KW, s2.2) St.1 St).length = 52 := rfl
    have t2 : (tpT (c + 1) (nI 0) f).length = 3 := rfl
    exact ⟨⟨s2.1.1, s2.1.2, s2.2, St.1, St, St.1 0, sk, ht, q_r T 0 (s_fill (p_nd P) hy (T 0)), s_fill (p_nd P) hy (T 0), sl, hu, x_ov_far 20 (x_ov_far 21 c1 lp (Or.inl (by simp only [List.length_cons, List.length_nil]; omega))) le (Or.inl (by simp only [List.length_cons, List.length_nil]; omega)), x_ov_far 20 (x_ov_far 21 c2 lp (by omega)) le (by omega), x_ov_far 20 d3' le (by omega), st0, hP' h, x_ov_bk, by rw [← hv_any (P := P) (P' := P')]; exact x_ov_far 20 (x_ov_far 21 c7 lp (by omega)) le (by omega)⟩, rfl, fun x h => (x_ov_out (by omega)).trans ((x_ov_out (by omega)).trans (co x h))⟩
  · have q2 := q2 h
    subst q2
    exact ⟨⟨s2.1.1, s2.1.2, s2.2, Q, St, hx, sk, ht, T, hy, sl, hu, c1, c2, c3, st0, hQ, c6, c7⟩, rfl, co⟩
set_option maxHeartbeats 4000000 in
set_option maxRecDepth 100000 in
theorem mw_teach {l : Launch} {Y0 : x_Y} (hO : x_Ok Y0) {M : x_M} {o n : Nat} {th : Int32} {f : Nat → Int32} {P : PL} {A : HS} {ep : Int32} {r q : Nat} {E2 : HS} {R : rS} {G : HS} {hz : Nat → Int32} {z : Int32} {sm : Nat → Int32} {T : HS} {hy : Nat → Int32} {y2 : Int32} (w9 : wMr M o th n f P A ep r q E2 R G hz z sm T hy y2) (hn : n ≤ 2000) (hf : k_by (E2 20)) (hS : x_Stc Y0) {wa : Nat} {sa st9 : Nat → Nat} (hWd : x_Wd Y0 wa sa st9) {qs ts : Nat} (hZ : vk_R RX11 109 "()[];,+-*/<>=" qs Y0.1) (hsy : x_Str Y0 qs ts k_SYM) {res : Int32} {E' : rE} {R' : rS} (hr : rd_R n (z_ea (z_th (((th, nI n, ep), (q, o + 18, o + 19, o + 28)), E2)) (-1)) R = (res, E', R')) {P' : PL} (hP' : res ≤ 0 → g_is (prG E' R') P') : x_C l Y0 yX11_teach cX11_teach 2 (some .int) 49 20 1497 [.ref o] M (fun u M1 => (res ≤ 0 → u = some (.int 0) ∧ ∃ M2, x_eqv M1 M2 ∧ mQ M M2 o 0 0 f P' (h_new P') E'.1.1.2.2) ∧ (¬ res ≤ 0 → u = some (.int res) ∧ mQ M M1 o 0 0 f P A E'.1.1.2.2)) := by
  obtain ⟨w1, w2, w3, w4, w5, w6, w7, w8, wa9, wb⟩ := w9
  have kp := rd_keep (n := n) (E0 := (z_ea (z_th (((th, nI n, ep), (q, o + 18, o + 19, o + 28)), E2)) (-1))) (R0 := R) hn
  have cT := c_X11_teach (l := l) (P := P') hO w1 (show o + 7 ≤ M.2 by omega) rfl hn (m := o + 19) rfl wa9 (Or.inl (show o + 7 ≤ o + 19 by omega)) (show o + 19 + 9 ≤ M.2 by omega) hf hS hWd hZ hsy (by rw [hr]; exact hP')
  rw [hr] at cT kp
  dsimp only at cT
  obtain ⟨⟨⟨a1, a2, a3⟩, ⟨b1, b2, b3, b4⟩⟩, e2⟩ := E'
  obtain ⟨k1, k2, k3, k4, -⟩ := kp
  have k1 : a1 = 0 := k1
  have k3 : (b1, b2, b3, b4) = (q, o + 18, o + 19, o + 28) := k3
  have k4 : e2 20 = E2 20 := k4
  simp only [Prod.mk.injEq] at k3
  obtain ⟨e1, f2, f3, f4⟩ := k3
  have e1 : q = b1 := e1.symm
  subst e1
  subst f2
  subst f3
  subst f4
  subst k1
  have wb' : x_bk M (o + 28) (stT (o + 28) o P' (q_r T 0 (s_fill (p_nd P) hy (T 0))) (s_fill (p_nd P) hy (T 0)) y2) := by
    rw [← st_any (P := P) (P' := P')]
    exact wb
  have l9 : ∀ (a : Nat) (P : PL) (A : HS) (hz : Nat → Int32) (z : Int32), (stT a o P A hz z).length = 9 := fun _ _ _ _ _ => rfl
  have l3 : ∀ (q : Nat) (G : HS), (pmT q G).length = 11 := fun _ _ => rfl
  have l1 : ∀ (r : Nat) (E : rE) (R : rS), (moT o r E R).length = 7 := fun _ _ _ => rfl
  have far : ∀ (E : rE) (a : Nat) (L : List x_E), x_bk M a L → o + 7 ≤ a → a + L.length ≤ M.2 → x_bk (rH (x_nx M 11) o M.2 E R') a L := fun E a L h h1 h2 => by
    unfold rH
    exact x_ov_far 11 (x_ov_far 7 (x_bk_nx h) (l1 _ _ _) (Or.inr h1)) (l3 _ _) (Or.inl h2)
  have out : ∀ (E : rE) (x : Nat), x < o ∨ x = o + 46 → (rH (x_nx M 11) o M.2 E R').1 x = M.1 x := fun E x h => by
    unfold rH
    exact (x_ov_out (by rw [l3]; omega)).trans (x_ov_out (by rw [l1]; omega))
  refine x_C_mono cT (fun u M1 h => ⟨fun hle => ?_, fun hle => ?_⟩)
  · obtain ⟨hu, hM1⟩ := h.1 hle
    subst hM1
    refine ⟨hu, _, bg_eqv (hP' hle), ?_⟩
    have rb := rH_B (M := x_nx M 11) (o := o) (r := M.2) (E := z_pl (z_sz (((0, a2, a3), (q, o + 18, o + 19, o + 28)), e2)) M.2) (R := R') (show o + 7 ≤ M.2 by omega)
    refine mQ_of (r := M.2) (q := M.2) (E2 := e2) (R := R') (G := prG (((0, a2, a3), (q, o + 18, o + 19, o + 28)), e2) R') (hz := s_fill 8 (fun _ => 0) (prG (((0, a2, a3), (q, o + 18, o + 19, o + 28)), e2) R' 0)) (z := 0) (sm := sm) (T := q_r T 0 (s_fill (p_nd P) hy (T 0))) (hy := s_fill (p_nd P) hy (T 0)) (y2 := y2) ⟨?_, k4.trans w2, ?_, hP' hle, Or.inr w7, ?_, ?_, ?_, x_ov_bk, ?_⟩ ?_ (fun x h => ?_)
    · exact x_ov_far 9 (x_ov_far 9 (x_bk_nx rb.1) (l9 _ _ _ _ _) (Or.inl (by rw [l1]; omega))) (l9 _ _ _ _ _) (Or.inl (show o + 7 ≤ o + 19 by omega))
    · exact x_ov_far 9 (x_ov_far 9 (x_bk_nx rb.2) (l9 _ _ _ _ _) (Or.inl (Nat.le_refl _))) (l9 _ _ _ _ _) (Or.inr (show o + 19 + 9 ≤ M.2 by omega))
    · show M.2 + 11 ≤ M.2 + 11 + 9
      omega
    · show o + 47 ≤ M.2 + 11 + 9
      omega
    · exact x_ov_far 9 (x_ov_far 9 (x_bk_nx (far _ _ _ w8 (by omega) (show o + 18 + 1 ≤ M.2 by omega))) (l9 _ _ _ _ _) (Or.inl (show o + 18 + 1 ≤ M.2 + 11 by omega))) (l9 _ _ _ _ _) (Or.inl (show o + 18 + 1 ≤ o + 19 by omega))
    · exact x_ov_far 9 (x_ov_far 9 (x_bk_nx (far _ _ _ wb' (by omega) (by rw [l9]; omega))) (l9 _ _ _ _ _) (Or.inl (by rw [l9]; omega))) (l9 _ _ _ _ _) (Or.inr (show o + 19 + 9 ≤ o + 28 by omega))
    · show M.2 ≤ M.2 + 11 + 9
      omega
    · exact (x_ov_out (by rw [l9]; omega)).trans ((x_ov_out (by rw [l9]; omega)).trans (out _ x h))
  · obtain ⟨hu, hM1⟩ := h.2 hle
    subst hM1
    have rb := rH_B (M := x_nx M 11) (o := o) (r := M.2) (E := z_sz (((0, a2, a3), (q, o + 18, o + 19, o + 28)), e2)) (R := R') (show o + 7 ≤ M.2 by omega)
    refine ⟨hu, mQ_of (r := M.2) (q := q) (E2 := e2) (R := R') (G := G) (hz := hz) (z := z) (sm := sm) (T := T) (hy := hy) (y2 := y2) ⟨rb.1, k4.trans w2, far _ _ _ w3 (by omega) (by rw [l3]; omega), w4, w5, ?_, ?_, far _ _ _ w8 (by omega) (show o + 18 + 1 ≤ M.2 by omega), far _ _ _ wa9 (by omega) (by rw [l9]; omega), far _ _ _ wb (by omega) (by rw [l9]; omega)⟩ ?_ (out _)⟩
    · show q + 11 ≤ M.2 + 11
      omega
    · show o + 47 ≤ M.2 + 11
      omega
    · show M.2 ≤ M.2 + 11
      omega
set_option maxHeartbeats 4000000 in
set_option maxRecDepth 100000 in
theorem lc_teach {K : x_K} {l : Launch} {Y0 : x_Y} {nm9 : String} (hO : x_Ok Y0) (hE : x_Ex l Y0) (C : x_Ctx K l Y0 ⟨RL, nm9, ""⟩ cL_law 9 2048 601024 7293034) {b c i L cells slots : Nat} {xs : Nat → Int32} (hX9 : va_X b L xs Y0.1 Y0.1.heap) (hb9 : b < Y0.2.2.2) (hi : i + 6 ≤ L) (hL : L ≤ 3072) (hc9 : cells + 40 ≤ 601024 ∧ slots + 1600 ≤ 7293034) {M : x_M} (hw0 : wL M c) (kk : ∀ M1, wL M1 c → x_X K 9 (cells + 40) (slots + 1600) 1846 (lvL b c i) [] M1) (hS : x_Stc Y0) {q1s t1s : Nat} (hZ1 : vk_R RX7 113 "()[];,+-*/<>=" q1s Y0.1) (hs1 : x_Str Y0 q1s t1s k_SYM) {wa : Nat} {sa st9 : Nat → Nat} (hWd : x_Wd Y0 wa sa st9) {q2s t2s : Nat} (hZ2 : vk_R RX11 109 "()[];,+-*/<>=" q2s Y0.1) (hs2 : x_Str Y0 q2s t2s k_SYM) : x_X K 9 cells slots 360 (lvL b c i) [] M := by
  obtain ⟨n, f, P, A, ep, th, g, hw⟩ := hw0
  obtain ⟨hn, hf, hP, hk9, hg, hC, hM⟩ := id hw
  obtain ⟨x0, v0, K2, Q, S, hx, sk, ht, T, hy, sl, hu, w9⟩ := hC
  obtain ⟨r, q, E2, R, G, hz, z, sm, T2, hy2, y2, m9⟩ := hM
  obtain ⟨s2, hs9⟩ : ∃ s2, k_lp f n k_KW 401 0 2 ((0, v0), K2) = s2 := ⟨_, rfl⟩
  obtain ⟨St, hSt⟩ : ∃ St, t_hive ((c + 1, nI s2.1.1, s2.1.2), k_KW, s2.2) S = St := ⟨_, rfl⟩
  have m2 : E2 20 = f := m9.2.1
  have hf2 : k_by (E2 20) := by
    rw [m2]
    exact hf
  obtain ⟨res, E', R', hr⟩ : ∃ (res : Int32) (E' : rE) (R' : rS), rd_R n (z_ea (z_th (((th, nI n, ep), (q, c + 96 + 18, c + 96 + 19, c + 96 + 28)), E2)) (-1)) R = (res, E', R') := ⟨_, _, _, rfl⟩
  have ag := agree k_KW_ok hn (E0 := (z_ea (z_th (((th, nI n, ep), (q, c + 96 + 18, c + 96 + 19, c + 96 + 28)), E2)) (-1))) (R0 := R) hf2 rfl (tp := c + 1) (v0 := v0) (K2 := K2) (sk := s2) (by
    show k_lp (E2 20) n k_KW 401 0 2 ((0, v0), K2) = s2
    rw [m2]
    exact hs9) S
  rw [hr, hSt] at ag
  obtain ⟨ag1, ag2, ag3, ag4⟩ := ag
  have ag1 : t_res St = res := ag1
  have ag2 : t_pos St = E'.1.1.2.2 := ag2
  have ag3 : 0 ≤ res := ag3
  obtain ⟨P', hP'⟩ : ∃ P' : PL, res = 0 → p_ok P' ∧ q_is St.1 P' ∧ g_is (prG E' R') P' := by
    by_cases h : res = 0
    · obtain ⟨P', p1, p2, p3⟩ := ag4 h
      exact ⟨P', fun _ => ⟨p1, p2, p3⟩⟩
    · exact ⟨P, fun q => absurd q h⟩
  have hle0 : res ≤ 0 → res = 0 := fun q => Int32.le_antisymm q ag3
  refine x_aload_n C dL_law_360 rfl rfl ?_
  refine x_callV0 C dL_law_361 kL_110 (cw_teach hO w9 hn hf hS hZ1 hs1 hs9 hSt (P' := P') (fun q => (hP' (ag1.symm.trans q)).2.1)) (w9.1 0 _ rfl) rfl (by decide) ⟨by omega, by omega⟩ (Nat.le_of_ble_eq_true rfl) ?_
  rintro _ M1 ⟨rfl, q1, q2⟩
  have hfar : M1.2 = M.2 ∧ ∀ x, x < c ∨ c + 96 ≤ x → M1.1 x = M.1 x := by
    by_cases h : t_res St = 0
    · exact (q1 h).2
    · exact (q2 h).2
  have m1 := wMr_far m9 (Nat.le_of_eq hfar.1.symm) (fun x h1 h2 h3 => hfar.2 x (Or.inr h1))
  refine x_aload_n C dL_law_364 rfl rfl ?_
  refine x_callV (As := []) C dL_law_365 kL_113 (mw_teach hO m1 hn hf2 hS hWd hZ2 hs2 hr (P' := P') (fun q => (hP' (hle0 q)).2.2)) (m1.1 0 _ rfl) rfl rfl rfl (by decide) ⟨by omega, by omega⟩ (Nat.le_of_ble_eq_true rfl) ?_
  rintro u M2 ⟨p1, p2⟩
  by_cases h0 : t_res St = 0
  · have hr0 : res = 0 := ag1.symm.trans h0
    obtain ⟨rfl, M3, he, hm⟩ := p1 (by rw [hr0]; decide)
    rw [← ag2] at hm
    refine x_toQ he ?_
    refine x_icmp_eq (tgt := 1846) C dL_law_368 (by decide) (fun _ => ?_) (fun q => absurd h0 q)
    refine x_widen (k := cells + 40) (n := slots + 1600) (by omega) (by omega) ?_
    exact kk M3 ⟨0, f, P', h_new P', t_pos St, 0, g, wV_end hw (q1 h0) hm (Nat.zero_le _) hf (hP' hr0).1 h_ok_new⟩
  · obtain ⟨rfl, hm⟩ := p2 (fun q => h0 (ag1.trans (hle0 q)))
    rw [← ag2] at hm
    refine x_icmp_eq (tgt := 1846) C dL_law_368 (by decide) (fun _ => ?_) (fun q => absurd ag1 q)
    refine x_widen (k := cells + 40) (n := slots + 1600) (by omega) (by omega) ?_
    exact kk M2 ⟨0, f, P, A, t_pos St, 0, g, wV_end hw (q2 h0) hm (Nat.zero_le _) hf hP hk9⟩
