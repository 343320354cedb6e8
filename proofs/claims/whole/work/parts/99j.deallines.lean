section XDM
variable {D : tK} {E Ev B : rE} {N od dn kn : Nat} {S : tS} {R : rS} {pre : List rI} {ty : List Bool} {deal part : Int32}
/-- a deal more is told, no part yet -/
theorem LX_dl (hC : CX D E N) (h : LD D E N Ev od S R B) (hs : Syn D S R.1.1) (hl : R.1.1 < N) (h40 : E.2 12 R.1.1 = 40) (h8 : cnt R.2.2.2.1 2 R.1.1 < 6) : XP D E N Ev od 0 ((t_adv D (t_add1 S)).1 11 7 - 1) 0 (t_adv D (t_add1 S)) (r_adv (r_role R 2)) (e_dl B (cnt R.2.2.2.1 2 R.1.1)) := by
  obtain ⟨⟨a1, a2⟩, ⟨b1, b2, b3, b4, b5, b6⟩, ⟨r12, r13, r14, r20⟩, ⟨d1, d2⟩, ⟨k1, k2, k3⟩, ⟨o1, o2⟩, ⟨c1, c2⟩, nm⟩ := h
  have hu : ∀ k, k < R.1.1 → upd R.2.2.2.1 R.1.1 2 k = R.2.2.2.1 k := fun k hk => upd_ne (by omega)
  have e2 : cnt (r_adv (r_role R 2)).2.2.2.1 2 (r_adv (r_role R 2)).1.1 = cnt R.2.2.2.1 2 R.1.1 + 1 := by
    show cnt (upd R.2.2.2.1 R.1.1 2) 2 (R.1.1 + 1) = _
    rw [cnt_y upd_at, cnt_loc R.1.1 hu]
  have e1 : cnt (r_adv (r_role R 2)).2.2.2.1 1 (r_adv (r_role R 2)).1.1 = cnt R.2.2.2.1 1 R.1.1 := cnt_role (by decide)
  have e3 : cnt (r_adv (r_role R 2)).2.2.2.1 3 (r_adv (r_role R 2)).1.1 = cnt R.2.2.2.1 3 R.1.1 := cnt_role (by decide)
  have hrow : ∀ r, r ≠ 11 → (t_adv D (t_add1 S)).1 r = S.1 r := fun r hr => (t_adv_row hr).trans (add1_row hr)
  have e7 : (t_adv D (t_add1 S)).1 11 7 = nI (cnt R.2.2.2.1 2 R.1.1 + 1) := by
    rw [t_adv_11 (by decide) (by decide) (by decide)]
    show h_u S.1 11 7 (n_ac 6 (S.1 11 7)) 11 7 = _
    rw [h_u_eq, a2, n_ac_nI (by decide) h8]
  have nm2 := NM_add1 hC nm hs hl h40 a2 h8
  have k30 := k3 (cnt R.2.2.2.1 2 R.1.1) (Nat.le_refl _) h8
  have hd1 : (r_adv (r_role R 2)).2.2.2.2 = R.2.2.2.2 := rfl
  refine ⟨cnt R.2.2.2.1 2 R.1.1, 0, Nat.le_refl _, Nat.zero_le _, e2, ?_, rfl, ?_, (congrFun (e_dl_row (by decide)) _).trans k30, fun j hj => absurd hj (Nat.not_lt_zero _)⟩
  · rw [e7]
    show nI (cnt R.2.2.2.1 2 R.1.1 + 1) - nI 1 = _
    rw [nI_sb (by omega)]
    rfl
  · unfold LX
    rw [e1, e2, e3, hd1]
    refine ⟨⟨?_, e7⟩, ⟨(e_dl_10 (by decide)).trans b1, b2, ?_, by omega, (e_dl_10 (by decide)).trans b5, b6⟩, ⟨(e_dl_row (by decide)).trans r12, (e_dl_row (by decide)).trans r13, (e_dl_row (by decide)).trans r14, (e_dl_row (by decide)).trans r20⟩, ⟨(congrFun (hrow 10 (by decide)) 0).trans d1, fun d hd => ?_⟩, ⟨(congrFun (hrow 10 (by decide)) 1).trans k1, fun k hk => PRT_mono (k2 k hk) (congrFun (hrow 1 (by decide)) k) (fun j _ => congrFun (hrow 2 (by decide)) _) (fun j _ => congrFun (hrow 3 (by decide)) _) (congrFun (e_dl_row (by decide)) k) (fun j _ => congrFun (e_dl_row (by decide)) _) (fun j _ => congrFun (e_dl_row (by decide)) _) (Nat.le_refl _), fun k p q => (congrFun (e_dl_row (by decide)) k).trans (k3 k (by omega) q)⟩, ⟨(congrFun (hrow 10 (by decide)) 2).trans o1, fun o ho => ORD_mono (o2 o ho) (congrFun (hrow 4 (by decide)) o) (congrFun (hrow 5 (by decide)) o) (congrFun (hrow 6 (by decide)) o) (congrFun (hrow 7 (by decide)) o) (congrFun (e_dl_row (by decide)) o) (congrFun (e_dl_row (by decide)) o) rfl rfl ⟨[], (List.append_nil _).symm⟩ (Nat.le_refl _) (Nat.le_succ _)⟩, ⟨(congrFun (hrow 10 (by decide)) 3).trans c1, fun i p hp => ?_⟩, nm2⟩
    · rw [t_adv_11 (by decide) (by decide) (by decide), add1_11 (by decide)]
      exact a1
    · show h_u B.2 10 1 (nI (cnt R.2.2.2.1 2 R.1.1 + 1)) 10 1 = _
      rw [h_u_eq]
    · rw [hrow 0 (by decide), d2 d hd, e_dl_row (by decide)]
    · rw [hrow 8 (by decide), hrow 9 (by decide)]
      have e16 : (e_dl B (cnt R.2.2.2.1 2 R.1.1)).2 16 = B.2 16 := e_dl_row (by decide)
      rw [e16] at hp
      exact c2 i p hp
theorem dl3_11 : (t_dl3 S deal part).1 11 = S.1 11 := by
  show h_u (q_r S.1 1 (rs 6 (S.1 1) deal part)) 10 1 (S.1 11 7) 11 = _
  rw [h_u_row (by decide)]
  rfl
theorem dl3_row {r : Nat} (h0 : r ≠ 1) (h10 : r ≠ 10) : (t_dl3 S deal part).1 r = S.1 r := by
  show h_u (q_r S.1 1 (rs 6 (S.1 1) deal part)) 10 1 (S.1 11 7) r = _
  rw [h_u_row h10]
  exact if_neg h0
theorem dl3_10 {j : Nat} (h : j ≠ 1) : (t_dl3 S deal part).1 10 j = S.1 10 j := by
  show h_u (q_r S.1 1 (rs 6 (S.1 1) deal part)) 10 1 (S.1 11 7) 10 j = _
  rw [h_u_ne h]
  rfl
theorem LD_dl3 (h : XP D E N Ev od 1 deal part S R B) : LD D E N Ev od (t_dl3 S deal part) R B := by
  obtain ⟨m, p, p1, p6, hc, rfl, rfl, ⟨⟨a1, a2⟩, ⟨b1, b2, b3, b4, b5, b6⟩, hr, ⟨d1, d2⟩, ⟨k1, k2, k3⟩, ⟨o1, o2⟩, ⟨c1, c2⟩, nm⟩, g, cu⟩ := h
  have e1 : (t_dl3 S (nI m) (nI p)).1 1 = upd (S.1 1) m (nI p) := by
    show h_u (q_r S.1 1 (rs 6 (S.1 1) (nI m) (nI p))) 10 1 (S.1 11 7) 1 = _
    rw [h_u_row (by decide)]
    show rs 6 (S.1 1) (nI m) (nI p) = _
    rw [rs_nI (by omega) (by decide)]
  have e10 : (t_dl3 S (nI m) (nI p)).1 10 1 = nI (m + 1) := by
    show h_u (q_r S.1 1 (rs 6 (S.1 1) (nI m) (nI p))) 10 1 (S.1 11 7) 10 1 = _
    rw [h_u_eq, a2, hc]
  unfold LD LX
  rw [dl3_11, hc]
  rw [hc] at k3 o2 a2 b3 b4
  refine ⟨⟨a1, a2⟩, ⟨b1, b2, b3, b4, b5, b6⟩, hr, ⟨(dl3_10 (by decide)).trans d1, fun d hd => (congrFun (dl3_row (by decide) (by decide)) d).trans (d2 d hd)⟩, ⟨e10, fun k hk => ?_, k3⟩, ⟨(dl3_10 (by decide)).trans o1, fun o ho => ORD_mono (o2 o ho) (congrFun (dl3_row (by decide) (by decide)) o) (congrFun (dl3_row (by decide) (by decide)) o) (congrFun (dl3_row (by decide) (by decide)) o) (congrFun (dl3_row (by decide) (by decide)) o) rfl rfl rfl rfl ⟨[], (List.append_nil _).symm⟩ (Nat.le_refl _) (Nat.le_refl _)⟩, ⟨(dl3_10 (by decide)).trans c1, fun i q hq => ?_⟩, NM_same nm (congrFun dl3_11 6) (congrFun dl3_11 7) rfl rfl⟩
  · by_cases c : k = m
    · rw [c]
      refine ⟨p, p1, p6, g, by rw [e1, upd_at], fun j hj => ?_⟩
      rw [dl3_row (by decide) (by decide), dl3_row (by decide) (by decide)]
      exact cu j hj
    · exact PRT_mono (k2 k (by omega)) (by rw [e1, upd_ne c]) (fun j _ => congrFun (dl3_row (by decide) (by decide)) _) (fun j _ => congrFun (dl3_row (by decide) (by decide)) _) rfl (fun _ _ => rfl) (fun _ _ => rfl) (Nat.le_refl _)
  · rw [dl3_row (by decide) (by decide), dl3_row (by decide) (by decide)]
    exact c2 i q hq
theorem gs_dl3 (h : GS D E (XP D E N Ev od 1 deal part) S R) : GS D E (LD D E N Ev od) (t_dl3 S deal part) R :=
  ⟨by
    unfold Syn
    rw [dl3_11]
    exact h.1, by
    rcases h.2 with q | ⟨B, q1, q2, x⟩
    · exact Or.inl (FT_same q (congrFun dl3_11 4) (congrFun dl3_11 5))
    · exact Or.inr ⟨B, q1, (congrFun dl3_11 4).trans q2, LD_dl3 x⟩⟩
/-- a deal's line, behind its first word -/
theorem ln_deal (hC : CX D E N) (hri : RI (tE E) N pre ty R) (hok : r_ok N R) (h : GS D E (LD D E N Ev od) S R) : ((r_dl (tE E) R).2 = true → GS D E (LD D E N Ev od) (t_deal D S) (r_dl (tE E) R).1) ∧ (¬ (r_dl (tE E) R).2 = true → t_bk (t_deal D S) (D.2.2.2.1 (r_dl (tE E) R).1.1.1)) := by
  unfold t_deal t_dl2 t_dl1 r_dl
  by_cases c1 : (tE E).1 R.1.1 = 40
  · have hl := RI_lt hC.1 hri c1 (by decide)
    obtain ⟨-, h1⟩ := new1_role (X := fun S R B => XP D E N Ev od 0 (S.1 11 7 - 1) 0 S R B) hC h hl c1 (fun B x h8 _ _ _ _ hs => LX_dl hC x hs hl c1 h8)
    rw [if_pos c1]
    by_cases c2 : (tE E).1 (R.1.1 + 1) = 3
    · have hl1 : R.1.1 + 1 < N := r_ltn hC.1 hl c2 (by decide)
      have z1 : (r_adv (r_role R 2)).2.2.2.1 (r_adv (r_role R 2)).1.1 = 0 := (upd_ne (show R.1.1 + 1 ≠ R.1.1 by omega)).trans (hri.2.2.2.1 _ (by omega) (by omega))
      have e1 : t_exp D (t_new1 D S) 259 = t_adv D (t_new1 D S) := gs_exy (R := r_adv (r_role R 2)) hC h1.1 (Nat.le_of_lt hl1) 259 3 (by decide) c2
      have h2 := gs_adv (X' := fun S R B => XP D E N Ev od 0 (S.1 11 7 - 1) 0 S R B) hC h1 hl1 z1 (fun B x => by
        have y := XP_adv x z1
        rw [t_adv_11 (by decide) (by decide) (by decide)]
        exact y)
      have hri1 : RI (tE E) N pre ty (r_adv (r_role R 2)) := RI_role hri hl (rr_2 upd_at)
      have hri2 : RI (tE E) N pre ty (r_adv (r_adv (r_role R 2))) := RI_adv hri1 hl1
      have hhs : r_hs2 2 (r_adv (r_adv (r_role R 2))) := ⟨R.1.1, by show R.1.1 < R.1.1 + 1 + 1; omega, upd_at⟩
      have hok2 : r_ok N (r_adv (r_adv (r_role R 2))) := (r_role2 (T := tE E) (a := 2) hC.1 hok c1 c2 (by decide) (by decide)).1
      rw [e1, if_pos c2]
      generalize hA : t_adv D (t_new1 D S) = A at *
      generalize hR2 : r_adv (r_adv (r_role R 2)) = R2 at *
      have t2 : R2.1.1 = R.1.1 + 2 := by rw [← hR2]; rfl
      have h3 : GS D E (XP D E N Ev od 0 (A.1 11 7 - 1) 0) A R2 := h2
      obtain ⟨y, n⟩ := ln_part hC hri2 h3
      have g := r_gd_pd (T := tE E) hC.1 R2 hok2
      by_cases c3 : (r_pd (tE E) R2).2 = true
      · rw [if_pos c3]
        obtain ⟨q1, q2⟩ := RL_pd hC.1 hri2 hhs c3
        have g1 := (g.2 c3).1
        have hN4 := hC.1.1
        have h4 : GS D E (XP D E N Ev od 1 (A.1 11 7 - 1) 1) (t_part D A (A.1 11 7 - 1) 0) (r_pd (tE E) R2).1 := y c3
        obtain ⟨y2, n2⟩ := ln_parts (deal := A.1 11 7 - 1) hC 400 401 1 _ _ (by omega) (by omega) q1 q2 (r_st_ok hok2 g.1) h4
        exact ⟨fun z => gs_dl3 (y2 z), fun z => kb_cnt (kb_row (by decide) (n2 z))⟩
      · rw [if_neg c3]
        exact ⟨fun z => absurd z Bool.false_ne_true, fun _ => kb_cnt (kb_row (by decide) (kb_dlp 400 1 _ _ (n c3)))⟩
    · rw [if_neg c2]
      refine ⟨fun z => absurd z Bool.false_ne_true, fun _ => kb_cnt (kb_row (by decide) (kb_dlp 400 1 _ _ (kb_part _ _ ?_)))⟩
      exact gs_exn hC h1.1 (show R.1.1 + 1 ≤ N from hl) 259 3 (by decide) c2
  · rw [if_neg c1]
    refine ⟨fun z => absurd z Bool.false_ne_true, fun _ => kb_cnt (kb_row (by decide) (kb_dlp 400 1 _ _ (kb_part _ _ (kb_exp _ _ ?_))))⟩
    exact gs_exn hC (add1_Syn (full1_Syn (old_Syn h.1))) hri.1 2 40 (by decide) c1
/-- orders aren't counted by other lines -/
theorem c3_dr (h : RI (tE E) N pre ty R) (hN : r_tok (tE E) N) (z : (r_dr (tE E) R).2 = true) : cnt (r_dr (tE E) R).1.2.2.2.1 3 (r_dr (tE E) R).1.1.1 = cnt R.2.2.2.1 3 R.1.1 := by
  unfold r_dr at z ⊢
  by_cases c1 : (tE E).1 R.1.1 = 40
  · rw [if_pos c1] at z ⊢
    by_cases c2 : (tE E).1 (R.1.1 + 1) = 1
    · rw [if_pos c2] at z ⊢
      have l0 := RI_lt hN h c1 (by decide)
      have l1 : R.1.1 + 1 < N := r_ltn hN l0 c2 (by decide)
      rw [r_eatAs_p (R := r_adv (r_adv (r_role R 1))) (of_decide_eq_true z), cnt_role (by decide), cnt_adv ((upd_ne (show R.1.1 + 1 ≠ R.1.1 by omega)).trans (h.2.2.2.1 _ (by omega) (by omega))) (by decide), cnt_role (by decide)]
    · rw [if_neg c2] at z
      exact absurd z Bool.false_ne_true
  · rw [if_neg c1] at z
    exact absurd z Bool.false_ne_true
theorem c3_pd (h : RI (tE E) N pre ty R) (hN : r_tok (tE E) N) (z : (r_pd (tE E) R).2 = true) : cnt (r_pd (tE E) R).1.2.2.2.1 3 (r_pd (tE E) R).1.1.1 = cnt R.2.2.2.1 3 R.1.1 := by
  have key : ∀ k, k < 900 → (tE E).1 R.1.1 = 40 → (tE E).1 (R.1.1 + 1) = k → (tE E).1 (R.1.1 + 2) = 41 → cnt (r_eatAs (tE E) (r_adv (r_adv (r_role R 4))) 41 9).2.2.2.1 3 (r_eatAs (tE E) (r_adv (r_adv (r_role R 4))) 41 9).1.1 = cnt R.2.2.2.1 3 R.1.1 := by
    intro k h9 c1 c2 c3
    have l0 := RI_lt hN h c1 (by decide)
    have l1 : R.1.1 + 1 < N := r_ltn hN l0 c2 h9
    rw [r_eatAs_p (R := r_adv (r_adv (r_role R 4))) c3, cnt_role (by decide), cnt_adv ((upd_ne (show R.1.1 + 1 ≠ R.1.1 by omega)).trans (h.2.2.2.1 _ (by omega) (by omega))) (by decide), cnt_role (by decide)]
  unfold r_pd at z ⊢
  by_cases c1 : (tE E).1 R.1.1 = 40
  · rw [if_pos c1] at z ⊢
    by_cases c2 : (tE E).1 (R.1.1 + 1) = 4
    · rw [if_pos c2] at z ⊢
      exact key 4 (by decide) c1 c2 (of_decide_eq_true z)
    rw [if_neg c2] at z ⊢
    by_cases c3 : (tE E).1 (R.1.1 + 1) = 5
    · rw [if_pos c3] at z ⊢
      exact key 5 (by decide) c1 c3 (of_decide_eq_true z)
    · rw [if_neg c3] at z
      exact absurd z Bool.false_ne_true
  · rw [if_neg c1] at z
    exact absurd z Bool.false_ne_true
theorem c3_plp (hN : r_tok (tE E) N) : ∀ (w : Nat) (R : rS), RI (tE E) N pre ty R → r_hs2 2 R → (r_plp (tE E) w R).2 = true → cnt (r_plp (tE E) w R).1.2.2.2.1 3 (r_plp (tE E) w R).1.1.1 = cnt R.2.2.2.1 3 R.1.1 := by
  intro w
  induction w with
  | zero => intro R _ _ _; rfl
  | succ w ih =>
    intro R h hd z
    unfold r_plp at z ⊢
    by_cases c1 : (tE E).1 R.1.1 = 94
    · rw [if_pos c1] at z ⊢
      have hl := RI_lt hN h c1 (by decide)
      by_cases c2 : (r_pd (tE E) (r_adv R)).2 = true
      · rw [if_pos c2] at z ⊢
        obtain ⟨a, b⟩ := RL_pd hN (RI_adv h hl) (r_hs_adv hd) c2
        rw [ih _ a b z, c3_pd (RI_adv h hl) hN c2, cnt_adv (RI_z h) (by decide)]
      · rw [if_neg c2] at z
        exact absurd z Bool.false_ne_true
    · rw [if_neg c1]
theorem c3_dl (h : RI (tE E) N pre ty R) (hN : r_tok (tE E) N) (z : (r_dl (tE E) R).2 = true) : cnt (r_dl (tE E) R).1.2.2.2.1 3 (r_dl (tE E) R).1.1.1 = cnt R.2.2.2.1 3 R.1.1 := by
  unfold r_dl at z ⊢
  by_cases c1 : (tE E).1 R.1.1 = 40
  · rw [if_pos c1] at z ⊢
    by_cases c2 : (tE E).1 (R.1.1 + 1) = 3
    · rw [if_pos c2] at z ⊢
      have l0 := RI_lt hN h c1 (by decide)
      have l1 : R.1.1 + 1 < N := r_ltn hN l0 c2 (by decide)
      have h1 : RI (tE E) N pre ty (r_adv (r_role R 2)) := RI_role h l0 (rr_2 upd_at)
      have h2 : RI (tE E) N pre ty (r_adv (r_adv (r_role R 2))) := RI_adv h1 l1
      have hs : r_hs2 2 (r_adv (r_adv (r_role R 2))) := ⟨R.1.1, by show R.1.1 < R.1.1 + 1 + 1; omega, upd_at⟩
      by_cases c3 : (r_pd (tE E) (r_adv (r_adv (r_role R 2)))).2 = true
      · rw [if_pos c3] at z ⊢
        obtain ⟨a, b⟩ := RL_pd hN h2 hs c3
        rw [c3_plp hN 401 _ a b z, c3_pd h2 hN c3, cnt_adv (RI_z h1) (by decide), cnt_role (by decide)]
      · rw [if_neg c3] at z
        exact absurd z Bool.false_ne_true
    · rw [if_neg c2] at z
      exact absurd z Bool.false_ne_true
  · rw [if_neg c1] at z
    exact absurd z Bool.false_ne_true
end XDM
