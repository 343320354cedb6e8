section XDE
variable {D : tK} {E Ev B : rE} {N od dn kn : Nat} {S : tS} {R : rS} {pre : List rI} {ty : List Bool} {deal part : Int32}
theorem t_row_eq {r : Nat} {f : Nat → Int32} : (t_row S r f).1 r = f := by
  show (if r = r then f else S.1 r) = f
  rw [if_pos rfl]
theorem cnt_adv {b : Int32} (h0 : R.2.2.2.1 R.1.1 = 0) (hb : (0 : Int32) ≠ b) : cnt (r_adv R).2.2.2.1 b (r_adv R).1.1 = cnt R.2.2.2.1 b R.1.1 := by
  show cnt R.2.2.2.1 b (R.1.1 + 1) = _
  rw [cnt_n (by rw [h0]; exact hb)]
theorem CUR_row {S' : tS} {nd m p : Nat} (h : CUR S B nd m p) (h2 : S'.1 2 = S.1 2) (h3 : S'.1 3 = S.1 3) : CUR S' B nd m p := by
  intro j hj
  rw [h2, h3]
  exact h j hj
theorem XQ_adv {x0 y : Int32} (h : XQ D E N Ev od deal part x0 y S R B) (h0 : R.2.2.2.1 R.1.1 = 0) : XQ D E N Ev od deal part x0 y (t_adv D S) (r_adv R) B := by
  obtain ⟨m, p, a, b, c, d, e, f, g, i, j, k⟩ := h
  unfold XQ
  rw [cnt_adv h0 (by decide), cnt_adv h0 (by decide)]
  exact ⟨m, p, a, b, c, d, LX_adv e h0, f, CUR_row g (t_adv_row (by decide)) (t_adv_row (by decide)), i, j, k⟩
theorem XQ_role {x0 y a : Int32} (h : XQ D E N Ev od deal part x0 y S R B) (n1 : a ≠ 1) (n2 : a ≠ 2) (n3 : a ≠ 3) : XQ D E N Ev od deal part x0 y (t_adv D S) (r_adv (r_role R a)) B := by
  obtain ⟨m, p, a, b, c, d, e, f, g, i, j, k⟩ := h
  unfold XQ
  rw [cnt_role n1, cnt_role n2]
  exact ⟨m, p, a, b, c, d, LX_role e (fun _ _ => rfl) rfl rfl rfl rfl n1 n2 n3, f, CUR_row g (t_adv_row (by decide)) (t_adv_row (by decide)), i, j, k⟩
theorem XP_adv {q0 : Nat} (h : XP D E N Ev od q0 deal part S R B) (h0 : R.2.2.2.1 R.1.1 = 0) : XP D E N Ev od q0 deal part (t_adv D S) (r_adv R) B := by
  obtain ⟨m, p, a, b, c, d, e, f, g, i⟩ := h
  unfold XP
  rw [cnt_adv h0 (by decide), cnt_adv h0 (by decide)]
  exact ⟨m, p, a, b, c, d, e, LX_adv f h0, g, CUR_row i (t_adv_row (by decide)) (t_adv_row (by decide))⟩
theorem pt9_11 {f x : Int32} : (t_pt9 S deal part f x).1 11 = S.1 11 := by
  unfold t_pt9
  by_cases c : 6 ≤ part
  · rw [if_pos c]
  · rw [if_neg c]
    exact (t_row_ne (by decide)).trans (t_row_ne (by decide))
theorem pt9_2 {f x : Int32} : (t_pt9 S deal part f x).2 = S.2 := by
  unfold t_pt9
  by_cases c : 6 ≤ part
  · rw [if_pos c]
  · rw [if_neg c]; rfl
theorem pt9_Syn {f x : Int32} {t : Nat} (h : Syn D S t) : Syn D (t_pt9 S deal part f x) t := by
  unfold Syn
  rw [pt9_11, pt9_2]
  exact h
/-- a part is set -/
theorem XP_pt9 {x0 y : Int32} (h : XQ D E N Ev od deal part x0 y S R B) : XP D E N Ev od 1 deal (part + 1) (t_pt9 S deal part x0 y) R B := by
  obtain ⟨m, p, a, b, c, d, e, f, g, ⟨d9, i1, i2⟩, j, k⟩ := h
  have hm6 : m < 6 := by have := e.2.1.2.2.2.1; omega
  have e0 : t_pt9 S deal part x0 y = t_row (t_row S 2 (upd (S.1 2) (6 * m + p) x0)) 3 (upd (S.1 3) (6 * m + p) y) := by
    unfold t_pt9
    rw [d, if_neg (show ¬ (6 : Int32) ≤ nI p from fun q => (nI_ge (show p < 6 by omega) (by decide)) q), c, slot_nI, rs_nI (by omega) (by decide), rs_nI (by omega) (by decide)]
  have r0 : ∀ r, r ≠ 2 → r ≠ 3 → (t_pt9 S deal part x0 y).1 r = S.1 r := fun r h2 h3 => by
    rw [e0]
    exact (t_row_ne h3).trans (t_row_ne h2)
  have r2 : (t_pt9 S deal part x0 y).1 2 = upd (S.1 2) (6 * m + p) x0 := by
    rw [e0]
    exact (t_row_ne (by decide)).trans t_row_eq
  have r3 : (t_pt9 S deal part x0 y).1 3 = upd (S.1 3) (6 * m + p) y := by
    rw [e0]
    exact t_row_eq
  refine ⟨m, p + 1, by omega, by omega, b, c, by rw [d]; exact nI_1 p, ?_, f, fun q hq => ?_⟩
  · obtain ⟨⟨a1, a2⟩, hb, hr, ⟨d1, d2⟩, ⟨k1, k2, k3⟩, ⟨o1, o2⟩, ⟨c1, c2⟩, nm⟩ := e
    unfold LX
    rw [pt9_11, r0 10 (by decide) (by decide), r0 0 (by decide) (by decide)]
    refine ⟨⟨a1, a2⟩, hb, hr, ⟨d1, d2⟩, ⟨k1, fun q hq => PRT_mono (k2 q hq) (congrFun (r0 1 (by decide) (by decide)) q) (fun j hj => ?_) (fun j hj => ?_) rfl (fun _ _ => rfl) (fun _ _ => rfl) (Nat.le_refl _), k3⟩, ⟨o1, fun o ho => ORD_mono (o2 o ho) (congrFun (r0 4 (by decide) (by decide)) o) (congrFun (r0 5 (by decide) (by decide)) o) (congrFun (r0 6 (by decide) (by decide)) o) (congrFun (r0 7 (by decide) (by decide)) o) rfl rfl rfl rfl ⟨[], (List.append_nil _).symm⟩ (Nat.le_refl _) (Nat.le_refl _)⟩, ⟨(congrFun (r0 10 (by decide) (by decide)) 3).trans c1, fun i q hq => ?_⟩, NM_same nm (congrFun pt9_11 6) (congrFun pt9_11 7) (by rw [pt9_2]) (by rw [pt9_2])⟩
    · rw [r2, upd_ne (by omega)]
    · rw [r3, upd_ne (by omega)]
    · rw [r0 8 (by decide) (by decide), r0 9 (by decide) (by decide)]
      exact c2 i q hq
  · rw [r2, r3]
    by_cases z : q = p
    · rw [z, upd_at, upd_at, j, k]
      exact ⟨⟨d9, i1, i2⟩, rfl, rfl⟩
    · rw [upd_ne (by omega), upd_ne (by omega)]
      exact g q (by omega)
theorem gs_pt9 {x0 y : Int32} (h : GS D E (XQ D E N Ev od deal part x0 y) S R) : GS D E (XP D E N Ev od 1 deal (part + 1)) (t_pt9 S deal part x0 y) R :=
  ⟨pt9_Syn h.1, by
    rcases h.2 with q | ⟨B, q1, q2, x⟩
    · exact Or.inl (FT_same q (congrFun pt9_11 4) (congrFun pt9_11 5))
    · exact Or.inr ⟨B, q1, (congrFun pt9_11 4).trans q2, XP_pt9 x⟩⟩
/-- behind a part's verb: its number -/
theorem pt_num (hC : CX D E N) {x0 y : Int32} (h : GS D E (XQ D E N Ev od deal part x0 y) S R) (hl : R.1.1 < N) (k3 : (tE E).1 R.1.1 = 41) : t_exp D (t_pt7 S) 3 = t_adv D (t_pt7 S) ∧ GS D E (XQ D E N Ev od deal part x0 y) (t_exp D (t_pt7 S) 3) (r_adv (r_role R 9)) := by
  have hz := pt7_Syn h.1
  have e2 : t_exp D (t_pt7 S) 3 = t_adv D (t_pt7 S) := gs_exy hC hz (Nat.le_of_lt hl) 3 41 (by decide) k3
  have hv : S.2.2.2.toInt32 = (tE E).2 R.1.1 := Syn_num hC h.1 hl k3
  rw [e2]
  refine ⟨rfl, gs_role hC h hl hz (fun q => by rw [pt7_ff q]; exact ⟨rfl, rfl⟩) (fun B p b x => ?_)⟩
  have ea := e_at9 (E := B) (R := rf (upd R.2.2.2.1 R.1.1 9)) (i := R.1.1) upd_at
  have hnum : (tE B).2 R.1.1 = S.2.2.2.toInt32 := by
    obtain ⟨m, p, -, -, -, -, e, -⟩ := x
    rw [LX_num e, hv]
  have hr : r_rng B R.1.1 1 20 = if S.2.2.2.toInt32 < 1 then 5 else if S.2.2.2.toInt32 ≤ 20 then 0 else 5 := by
    unfold r_rng
    rw [hnum]
    by_cases c : S.2.2.2.toInt32 < 1
    · rw [if_pos c, decide_eq_true c]
      rfl
    · rw [if_neg c, decide_eq_false c]
      by_cases c2 : S.2.2.2.toInt32 ≤ 20
      · rw [if_pos c2, decide_eq_false (Int32.not_lt.mpr c2)]
        rfl
      · rw [if_neg c2, decide_eq_true (Int32.not_le.mp c2)]
        rfl
  rw [ea, hr]
  unfold t_pt7
  have bad := t_blame_yes (S := S) (e := 5) b
  by_cases c : S.2.2.2.toInt32 < 1
  · rw [if_pos c, if_pos c]
    exact Or.inr ⟨show ¬ (5 : Int32) = 0 by decide, bad.1, bad.2⟩
  rw [if_neg c, if_neg c]
  by_cases c2 : S.2.2.2.toInt32 ≤ 20
  · rw [if_pos c2, if_pos c2]
    refine Or.inl ⟨rfl, b, ?_⟩
    show XQ D E N Ev od deal part x0 y (t_adv D S) (r_adv (r_role R 9)) B
    exact XQ_role x (by decide) (by decide) (by decide)
  · rw [if_neg c2, if_neg c2]
    exact Or.inr ⟨show ¬ (5 : Int32) = 0 by decide, bad.1, bad.2⟩
/-- one part -/
theorem ln_part (hC : CX D E N) (hri : RI (tE E) N pre ty R) {q0 : Nat} (h : GS D E (XP D E N Ev od q0 deal part) S R) : ((r_pd (tE E) R).2 = true → GS D E (XP D E N Ev od 1 deal (part + 1)) (t_part D S deal part) (r_pd (tE E) R).1) ∧ (¬ (r_pd (tE E) R).2 = true → t_bk (t_part D S deal part) (D.2.2.2.1 (r_pd (tE E) R).1.1.1)) := by
  unfold t_part r_pd
  by_cases c1 : (tE E).1 R.1.1 = 40
  · have hl := RI_lt hC.1 hri c1 (by decide)
    obtain ⟨-, h1⟩ := pt_role hC hri h hl c1
    have z1 : (r_adv (r_role R 4)).2.2.2.1 (r_adv (r_role R 4)).1.1 = 0 := (upd_ne (show R.1.1 + 1 ≠ R.1.1 by omega)).trans (hri.2.2.2.1 _ (by omega) (by omega))
    rw [if_pos c1]
    have K := fun c0 r0 hq => GS_k (R := r_adv (r_role R 4)) hC h1 (show R.1.1 + 1 ≤ N from hl) c0 r0 hq
    have step : ∀ (r0 : Int32), r0 < 900 → (tE E).1 (R.1.1 + 1) = r0 → t_pt5 D S deal part = t_adv D (t_pt4 D S deal part) → t_ptx D S deal part = (if (tE E).1 (R.1.1 + 1) = 5 then (t_pt5 D S deal part).2.2.2.toInt32 else -(t_pt5 D S deal part).2.2.2.toInt32) → (((r_eatAs (tE E) (r_adv (r_adv (r_role R 4))) 41 9, decide ((tE E).1 (R.1.1 + 2) = 41))).2 = true → GS D E (XP D E N Ev od 1 deal (part + 1)) (t_pt9 (t_exp D (t_pt7 (t_pt5 D S deal part)) 3) deal part (t_fd0 S) (t_ptx D S deal part)) ((r_eatAs (tE E) (r_adv (r_adv (r_role R 4))) 41 9, decide ((tE E).1 (R.1.1 + 2) = 41))).1) ∧ (¬ ((r_eatAs (tE E) (r_adv (r_adv (r_role R 4))) 41 9, decide ((tE E).1 (R.1.1 + 2) = 41))).2 = true → t_bk (t_pt9 (t_exp D (t_pt7 (t_pt5 D S deal part)) 3) deal part (t_fd0 S) (t_ptx D S deal part)) (D.2.2.2.1 ((r_eatAs (tE E) (r_adv (r_adv (r_role R 4))) 41 9, decide ((tE E).1 (R.1.1 + 2) = 41))).1.1.1)) := by
      intro r0 h9 hr0 e5 ex
      have hl1 : R.1.1 + 1 < N := r_ltn hC.1 hl hr0 h9
      have h2 := gs_adv hC h1 hl1 z1 (fun B x => XQ_adv x z1)
      rw [← e5] at h2
      generalize hA : t_pt5 D S deal part = A at *
      generalize hR2 : r_adv (r_adv (r_role R 4)) = R2 at *
      have t2 : R2.1.1 = R.1.1 + 2 := by rw [← hR2]; rfl
      by_cases c3 : (tE E).1 (R.1.1 + 2) = 41
      · have k3 : (tE E).1 R2.1.1 = 41 := by rw [t2]; exact c3
        have hl2 : R2.1.1 < N := by rw [t2]; exact r_ltn hC.1 (by omega) c3 (by decide)
        obtain ⟨-, h3⟩ := pt_num hC h2 hl2 k3
        have hv : A.2.2.2.toInt32 = (tE E).2 R2.1.1 := Syn_num hC h2.1 hl2 k3
        rw [decide_eq_true c3, r_eatAs_p k3]
        refine ⟨fun _ => ?_, fun z => absurd rfl z⟩
        rw [hv, t2] at ex
        rw [ex]
        exact gs_pt9 h3
      · have k3 : ¬ (tE E).1 R2.1.1 = 41 := by rw [t2]; exact c3
        rw [decide_eq_false c3, r_eatAs_n k3]
        refine ⟨fun z => absurd z Bool.false_ne_true, fun _ => kb_pt9 ?_⟩
        exact gs_exn hC (pt7_Syn h2.1) (by rw [t2]; omega) 3 41 (by decide) k3
    by_cases c4 : (tE E).1 (R.1.1 + 1) = 4
    · have k4 := (K 260 4 (by decide)).mpr c4
      have e5 : t_pt5 D S deal part = t_adv D (t_pt4 D S deal part) := by
        unfold t_pt5 t_pt6
        rw [if_pos k4]
        exact if_pos k4
      have ex : t_ptx D S deal part = (if (tE E).1 (R.1.1 + 1) = 5 then (t_pt5 D S deal part).2.2.2.toInt32 else -(t_pt5 D S deal part).2.2.2.toInt32) := by
        unfold t_ptx
        rw [if_pos k4, if_neg (by rw [c4]; decide)]
      rw [if_pos c4]
      exact step 4 (by decide) c4 e5 ex
    rw [if_neg c4]
    have k4 : ¬ (t_pt4 D S deal part).1 11 1 = 260 := fun q => c4 ((K 260 4 (by decide)).mp q)
    by_cases c5 : (tE E).1 (R.1.1 + 1) = 5
    · have k5 := (K 261 5 (by decide)).mpr c5
      have e5 : t_pt5 D S deal part = t_adv D (t_pt4 D S deal part) := by
        unfold t_pt5 t_pt6 t_acc
        rw [if_neg k4, if_neg k4]
        exact if_pos k5
      have ex : t_ptx D S deal part = (if (tE E).1 (R.1.1 + 1) = 5 then (t_pt5 D S deal part).2.2.2.toInt32 else -(t_pt5 D S deal part).2.2.2.toInt32) := by
        unfold t_ptx
        rw [if_neg k4, if_pos c5]
      rw [if_pos c5]
      exact step 5 (by decide) c5 e5 ex
    · rw [if_neg c5]
      refine ⟨fun z => absurd z Bool.false_ne_true, fun _ => kb_pt9 (kb_exp _ _ (kb_pt7 _ _ ?_))⟩
      unfold t_pt5 t_pt6 t_acc
      rw [if_neg k4, if_neg k4]
      exact gs_exn hC h1.1 (show R.1.1 + 1 ≤ N from hl) 261 5 (by decide) c5
  · rw [if_neg c1]
    refine ⟨fun z => absurd z Bool.false_ne_true, fun _ => kb_pt9 (kb_exp _ _ (kb_pt7 _ _ (kb_pt6 _ _ ?_)))⟩
    exact gs_exn hC (pt3_Syn (pt2_Syn (lk0_Syn h.1))) hri.1 2 40 (by decide) c1
/-- the parts behind the first -/
theorem ln_parts (hC : CX D E N) : ∀ (w1 w2 : Nat) (part : Int32) (S : tS) (R : rS), N < R.1.1 + w1 → N < R.1.1 + w2 → RI (tE E) N pre ty R → r_hs2 2 R → r_ok N R → GS D E (XP D E N Ev od 1 deal part) S R → ((r_plp (tE E) w2 R).2 = true → GS D E (XP D E N Ev od 1 deal (t_dlp D deal w1 part S).2) (t_dlp D deal w1 part S).1 (r_plp (tE E) w2 R).1) ∧ (¬ (r_plp (tE E) w2 R).2 = true → t_bk (t_dlp D deal w1 part S).1 (D.2.2.2.1 (r_plp (tE E) w2 R).1.1.1)) := by
  intro w1
  induction w1 with
  | zero => intro w2 part S R a b hri; have := hri.1; omega
  | succ w1 ih =>
    intro w2 part S R a b hri hd hok h
    obtain ⟨w2, rfl⟩ : ∃ w, w2 = w + 1 := ⟨w2 - 1, by have := hri.1; omega⟩
    have K := GS_k hC h hri.1 44 94 (by decide)
    unfold t_dlp r_plp
    by_cases c1 : (tE E).1 R.1.1 = 94
    · have hl := RI_lt hC.1 hri c1 (by decide)
      have ea : t_acc D S 44 = t_adv D S := if_pos (K.mpr c1)
      rw [if_pos c1, if_pos (K.mpr c1), ea]
      have h1 := gs_adv hC h hl (RI_z hri) (fun B x => XP_adv x (RI_z hri))
      obtain ⟨y, n⟩ := ln_part hC (RI_adv hri hl) h1
      have g := r_gd_pd (T := tE E) hC.1 (r_adv R) (r_ok_adv hC.1 hok c1 (by decide)).1
      by_cases c2 : (r_pd (tE E) (r_adv R)).2 = true
      · rw [if_pos c2]
        obtain ⟨q1, q2⟩ := RL_pd hC.1 (RI_adv hri hl) (r_hs_adv hd) c2
        have g1 := (g.2 c2).1
        have g1 : R.1.1 + 1 < (r_pd (tE E) (r_adv R)).1.1.1 := g1
        exact ih w2 (part + 1) _ _ (by omega) (by omega) q1 q2 (r_st_ok (r_ok_adv hC.1 hok c1 (by decide)).1 g.1) (y c2)
      · rw [if_neg c2]
        exact ⟨fun z => absurd z Bool.false_ne_true, fun _ => kb_dlp w1 _ _ _ (n c2)⟩
    · have ea : t_acc D S 44 = S := if_neg (fun q => c1 (K.mp q))
      rw [if_neg c1, if_neg (fun q => c1 (K.mp q)), ea]
      exact ⟨fun _ => h, fun z => absurd rfl z⟩
end XDE
