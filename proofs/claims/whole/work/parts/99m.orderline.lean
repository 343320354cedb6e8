section XON
variable {D : tK} {E Ev B B0 : rE} {N od : Nat} {S S0 : tS} {R R0 : rS} {pre : List rI} {ty : List Bool}
theorem r_isv3 {k : Int32} (h : r_isv k = true) : k = 6 ∨ k = 7 ∨ k = 8 := by
  unfold r_isv at h
  rw [Bool.or_eq_true, Bool.or_eq_true, beq_iff_eq, beq_iff_eq, beq_iff_eq] at h
  exact h
theorem tg_f {T : rT} {k : Int32} (hz : R.2.2.2.1 R.1.1 = 0) (z : (r_tg T R k).2 = true) : (r_tg T R k).1.2.2.2.2 = R.2.2.2.2 ∧ (r_tg T R k).1.2.1 = R.2.1 ∧ cnt (r_tg T R k).1.2.2.2.1 3 (r_tg T R k).1.1.1 = cnt R.2.2.2.1 3 R.1.1 := by
  unfold r_tg at z ⊢
  by_cases c1 : k = 6
  · rw [if_pos c1] at z ⊢
    rw [r_eatAs_p (of_decide_eq_true z)]
    exact ⟨rfl, rfl, cnt_role (by decide)⟩
  rw [if_neg c1] at z ⊢
  by_cases c2 : T.1 R.1.1 = 9
  · rw [if_pos c2]
    exact ⟨rfl, rfl, cnt_adv hz (by decide)⟩
  · rw [if_neg c2] at z ⊢
    rw [r_eatAs_p (of_decide_eq_true z)]
    exact ⟨rfl, rfl, cnt_role (by decide)⟩
/-- what an order names -/
theorem ln_tgt (hC : CX D E N) (hri : RI (tE E) N pre ty R) {k : Int32} (h : GS D E (XW D E N Ev od k 8 True True) S R) (h1 : 1 ≤ R.1.1) (hk : (tE E).1 (R.1.1 - 1) = k) (hk3 : k = 6 ∨ k = 7 ∨ k = 8) : ((r_tg (tE E) R k).2 = true → GS D E (XW D E N Ev od k (if k = 6 then t_fd1 S else t_dqv D S) False True) (if k = 6 then t_known1 D S else t_dq D S) (r_tg (tE E) R k).1) ∧ (¬ (r_tg (tE E) R k).2 = true → t_bk (if k = 6 then t_known1 D S else t_dq D S) (D.2.2.2.1 (r_tg (tE E) R k).1.1.1)) := by
  unfold r_tg
  by_cases c1 : k = 6
  · rw [if_pos c1, if_pos c1, if_pos c1]
    by_cases c2 : (tE E).1 R.1.1 = 40
    · have hl := RI_lt hC.1 hri c2 (by decide)
      rw [decide_eq_true c2, r_eatAs_p c2]
      exact ⟨fun _ => (of1_role hC hri h hl c2 h1 hk c1).2, fun z => absurd rfl z⟩
    · rw [decide_eq_false c2, r_eatAs_n c2]
      refine ⟨fun z => absurd z Bool.false_ne_true, fun _ => ?_⟩
      exact gs_exn hC (lk1_Syn h.1) hri.1 2 40 (by decide) c2
  rw [if_neg c1, if_neg c1, if_neg c1]
  have hk2 : k = 7 ∨ k = 8 := hk3.resolve_left c1
  have K := GS_k hC h hri.1 265 9 (by decide)
  unfold t_dq t_dqv
  by_cases c9 : (tE E).1 R.1.1 = 9
  · have hl := RI_lt hC.1 hri c9 (by decide)
    have ea : t_acc D S 265 = t_adv D S := if_pos (K.mpr c9)
    rw [if_pos c9, if_pos (K.mpr c9), if_pos (K.mpr c9), ea]
    refine ⟨fun _ => gs_adv hC h hl (RI_z hri) (fun B x => ?_), fun z => absurd rfl z⟩
    obtain ⟨a, b, c, d, e, ⟨tg, f1, f2⟩, g⟩ := XW_adv x (RI_z hri)
    exact ⟨a, b, c, d, e, ⟨8, rfl, Or.inr (Or.inl ⟨hk2, Or.inr rfl⟩)⟩, g⟩
  · have ea : t_acc D S 265 = S := if_neg (fun q => c9 (K.mp q))
    rw [if_neg c9, if_neg (fun q => c9 (K.mp q)), if_neg (fun q => c9 (K.mp q)), ea]
    by_cases c2 : (tE E).1 R.1.1 = 40
    · have hl := RI_lt hC.1 hri c2 (by decide)
      rw [decide_eq_true c2, r_eatAs_p c2]
      exact ⟨fun _ => (of0_role hC hri h hl c2 h1 hk hk2).2, fun z => absurd rfl z⟩
    · rw [decide_eq_false c2, r_eatAs_n c2]
      refine ⟨fun z => absurd z Bool.false_ne_true, fun _ => ?_⟩
      exact gs_exn hC (lk0_Syn h.1) hri.1 2 40 (by decide) c2
/-- an order's line -/
theorem ln_order (hC : CX D E N) (hri : RI (tE E) N R.2.2.2.2 [] R) (hok : r_ok N R) (hd : R.1.2 = 0) (hsl : R.2.2.2.2.length ≤ R.1.1) (hod : od = cnt R.2.2.2.1 3 R.1.1) (h : GS D E (LD D E N Ev od) S R) {Q : rQ × Bool} (hQ : q_ord (tE E) (r_testN (tE E) 8) ((od, Ev), R) ((tE E).1 R.1.1) = Q) : (Q.2 = true → GS D E (LD D E N Q.1.1.2 (od + 1)) (t_order D (t_testN D 8) S) Q.1.2 ∧ Q.1.1.1 = od + 1 ∧ cnt Q.1.2.2.2.2.1 3 Q.1.2.1.1 = od + 1 ∧ Q.1.2.2.2.2.2.length ≤ Q.1.2.1.1) ∧ (¬ Q.2 = true → t_bk (t_order D (t_testN D 8) S) (D.2.2.2.1 Q.1.2.1.1)) := by
  have hzs := or1_Syn h.1
  have K := fun c0 r0 hq => Syn_k hC hzs hri.1 c0 r0 hq
  unfold q_ord at hQ
  dsimp only at hQ
  unfold t_order
  by_cases c1 : r_isv ((tE E).1 R.1.1) = true
  · rw [if_pos c1] at hQ
    have hl : R.1.1 < N := RI_lt hC.1 hri rfl (r_isv_lt c1)
    have h1 := or_role hC h hod hl rfl
    have hri1 : RI (tE E) N R.2.2.2.2 [] (r_adv (r_role R 3)) := RI_role hri hl (rr_3 upd_at)
    have hok1 : r_ok N (r_adv (r_role R 3)) := (r_ok_adv (R := r_role R 3) hC.1 hok rfl (r_isv_lt c1)).1
    have hhs : r_hs2 3 (r_adv (r_role R 3)) := ⟨R.1.1, Nat.lt_succ_self _, upd_at⟩
    have hk3 := r_isv3 c1
    have hc3 : cnt (r_adv (r_role R 3)).2.2.2.1 3 (r_adv (r_role R 3)).1.1 = od + 1 := by
      show cnt (upd R.2.2.2.1 R.1.1 3) 3 (R.1.1 + 1) = _
      rw [cnt_y upd_at, cnt_loc R.1.1 (fun k hk => upd_ne (by omega)), hod]
    have hsl1 : (r_adv (r_role R 3)).2.2.2.2.length ≤ (r_adv (r_role R 3)).1.1 := by show R.2.2.2.2.length ≤ R.1.1 + 1; omega
    have hgh1 : (r_adv (r_role R 3)).2.2.2.2 = R.2.2.2.2 := rfl
    have hvc : ((tE E).1 R.1.1 = 6 ∧ (t_or1 S).1 11 1 = 262) ∨ ((tE E).1 R.1.1 = 7 ∧ (t_or1 S).1 11 1 = 263) ∨ ((tE E).1 R.1.1 = 8 ∧ (t_or1 S).1 11 1 = 264) := by
      rcases hk3 with q | q | q
      · exact Or.inl ⟨q, (K 262 6 (by decide)).mpr q⟩
      · exact Or.inr (Or.inl ⟨q, (K 263 7 (by decide)).mpr q⟩)
      · exact Or.inr (Or.inr ⟨q, (K 264 8 (by decide)).mpr q⟩)
    have eT : t_or2 D (t_or1 S) = (if (tE E).1 R.1.1 = 6 then t_known1 D (t_adv D (t_or1 S)) else t_dq D (t_adv D (t_or1 S))) ∧ t_orv D (t_or1 S) = (if (tE E).1 R.1.1 = 6 then t_fd1 (t_adv D (t_or1 S)) else t_dqv D (t_adv D (t_or1 S))) := by
      unfold t_or2 t_orv
      rcases hvc with ⟨q, v⟩ | ⟨q, v⟩ | ⟨q, v⟩
      · have ea : t_acc D (t_or1 S) 262 = t_adv D (t_or1 S) := if_pos v
        rw [if_pos q, if_pos q, if_pos v, if_pos v, ea]
        exact ⟨rfl, rfl⟩
      · have n2 : ¬ (t_or1 S).1 11 1 = 262 := by rw [v]; decide
        have ea : t_acc D (t_or1 S) 262 = t_or1 S := if_neg n2
        have eb : t_acc D (t_or1 S) 263 = t_adv D (t_or1 S) := if_pos v
        have n6 : ¬ (tE E).1 R.1.1 = 6 := by rw [q]; decide
        rw [if_neg n6, if_neg n6, if_neg n2, if_neg n2, ea, if_pos v, if_pos v, eb]
        exact ⟨rfl, rfl⟩
      · have n2 : ¬ (t_or1 S).1 11 1 = 262 := by rw [v]; decide
        have n3 : ¬ (t_or1 S).1 11 1 = 263 := by rw [v]; decide
        have ea : t_acc D (t_or1 S) 262 = t_or1 S := if_neg n2
        have eb : t_acc D (t_or1 S) 263 = t_or1 S := if_neg n3
        have ec : t_exp D (t_or1 S) 264 = t_adv D (t_or1 S) := if_pos v
        have n6 : ¬ (tE E).1 R.1.1 = 6 := by rw [q]; decide
        rw [if_neg n6, if_neg n6, if_neg n2, if_neg n2, ea, if_neg n3, if_neg n3, eb, ec]
        exact ⟨rfl, rfl⟩
    obtain ⟨y, n⟩ := ln_tgt hC hri1 h1 (show 1 ≤ R.1.1 + 1 by omega) (show (tE E).1 (R.1.1 + 1 - 1) = (tE E).1 R.1.1 by rw [Nat.add_sub_cancel]) hk3
    rw [← eT.1, ← eT.2] at y
    rw [← eT.1] at n
    have hz1 := RI_z hri1
    generalize hK : (tE E).1 R.1.1 = k at *
    generalize hR1 : r_adv (r_role R 3) = R1 at *
    generalize hS2 : t_or2 D (t_or1 S) = S2 at *
    generalize hV : t_orv D (t_or1 S) = tv at *
    by_cases c2 : (r_tg (tE E) R1 k).2 = true
    · rw [if_pos c2] at hQ
      obtain ⟨t1, t2, t3⟩ := tg_f hz1 c2
      have hri2 := RL_tg hC.1 hri1 (by rw [← hR1]; show 1 ≤ R.1.1 + 1; omega) hhs c2
      have hgt := r_gd_tg (k := k) hC.1 hok1
      have hok2 := r_st_ok hok1 hgt.1
      have hd2 : (r_tg (tE E) R1 k).1.1.2 = 0 := (hgt.2 c2).2.trans (by rw [← hR1]; exact hd)
      have hle := hgt.1.1
      have h2 := y c2
      generalize hR2 : (r_tg (tE E) R1 k).1 = R2 at *
      have hgh2 : R2.2.2.2.2 = R.2.2.2.2 := t1.trans hgh1
      have hriG : RI (tE E) N R2.2.2.2.2 [] R2 := RI_0 hri2
      have hst : GS D E (XW D E N Ev od k tv False (S2.1 10 3 = nI R2.2.2.2.2.length)) S2 R2 := gs_mono h2 (fun B ⟨a, b, c, d, e, f, g⟩ => ⟨a, b, c, d, e, f, b.2.2.2.2.2.2.1.1⟩)
      obtain ⟨y3, n3⟩ := wh_step hC hst hriG hok2 hd2 (by rw [t1]; omega)
      by_cases c3 : (r_wh (tE E) (r_testN (tE E) 8) R2).2 = true
      · rw [if_pos c3] at hQ
        obtain ⟨h3, sl3⟩ := y3 c3
        rw [← hQ]
        refine ⟨fun _ => ?_, fun z => absurd rfl z⟩
        have hres : ∃ L, (r_wh (tE E) (r_testN (tE E) 8) R2).1.2.2.2.2 = R2.2.2.2.2 ++ L ∧ (L = [] ∨ p_ty (L.map g_ks) [] = some [true]) ∧ RI (tE E) N (r_wh (tE E) (r_testN (tE E) 8) R2).1.2.2.2.2 [] (r_wh (tE E) (r_testN (tE E) 8) R2).1 := by
          rcases RL_wh hC.1 (RO_testN hC.1 8) hriG c3 with ⟨e, q⟩ | q
          · exact ⟨[], by rw [e, List.append_nil], Or.inl rfl, RI_0 q⟩
          · obtain ⟨L, l1, l2⟩ := q.2.2.2.2.2.1
            exact ⟨L, l1, Or.inr l2, RI_0 q⟩
        obtain ⟨L, l1, l2, hri3⟩ := hres
        have hgo := gs_ord h3 hvc l1 l2
        have hn : R2.2.1 = g_tr (R2.2.2.2.2.map (g_rs nI)) := hriG.2.1
        have hm := hri3.2.1
        rw [← hn, ← hm] at hgo
        have hcn : cnt (r_wh (tE E) (r_testN (tE E) 8) R2).1.2.2.2.1 3 (r_wh (tE E) (r_testN (tE E) 8) R2).1.1.1 = od + 1 := by
          rw [← hc3, ← t3]
          unfold r_wh at c3 hri3 ⊢
          by_cases cw : (tE E).1 R2.1.1 = 10
          · rw [if_pos cw] at c3 hri3 ⊢
            have hjr := jr_testN (T := tE E) 8 (r_adv R2)
            rw [jr_cnt (a := 3) hjr (RI_adv hriG (RI_lt hC.1 hriG cw (by decide))).2.2.2.1 hri3.1 (by decide) (by decide) (by decide)]
            exact cnt_adv (b := 3) (RI_z hriG) (by decide)
          · rw [if_neg cw]
        exact ⟨hgo, rfl, hcn, sl3⟩
      · rw [if_neg c3] at hQ
        rw [← hQ]
        exact ⟨fun z => absurd z Bool.false_ne_true, fun _ => kb_ord (n3 c3)⟩
    · rw [if_neg c2] at hQ
      rw [← hQ]
      exact ⟨fun z => absurd z Bool.false_ne_true, fun _ => kb_ord (kb_or3 (kb_testN 8) _ _ (n c2))⟩
  · rw [if_neg c1] at hQ
    rw [← hQ]
    refine ⟨fun z => absurd z Bool.false_ne_true, fun _ => kb_ord (kb_or3 (kb_testN 8) _ _ ?_)⟩
    have m : ∀ c0 r0, (c0, r0) ∈ tk_M → r_isv r0 = true → ¬ (t_or1 S).1 11 1 = c0 := fun c0 r0 hq hi q => c1 (by rw [(K c0 r0 hq).mp q]; exact hi)
    have ea : t_acc D (t_or1 S) 262 = t_or1 S := if_neg (m 262 6 (by decide) rfl)
    have eb : t_acc D (t_or1 S) 263 = t_or1 S := if_neg (m 263 7 (by decide) rfl)
    unfold t_or2
    rw [if_neg (m 262 6 (by decide) rfl), ea, if_neg (m 263 7 (by decide) rfl), eb]
    exact kb_dq _ _ (gs_exn hC hzs hri.1 264 8 (by decide) (fun q => c1 (by rw [q]; rfl)))
end XON
