section XLL
variable {D : tK} {E : rE} {N : Nat} {S : tS} {R : rS} {q : rQ} {pre : List rI} {ty : List Bool}
theorem gh_dr {T : rT} (z : (r_dr T R).2 = true) : (r_dr T R).1.2.2.2.2 = R.2.2.2.2 := by
  unfold r_dr at z ⊢
  by_cases c1 : T.1 R.1.1 = 40
  · rw [if_pos c1] at z ⊢
    by_cases c2 : T.1 (R.1.1 + 1) = 1
    · rw [if_pos c2] at z ⊢
      rw [r_eatAs_p (R := r_adv (r_adv (r_role R 1))) (of_decide_eq_true z)]
      rfl
    · rw [if_neg c2] at z
      exact absurd z Bool.false_ne_true
  · rw [if_neg c1] at z
    exact absurd z Bool.false_ne_true
theorem gh_pd {T : rT} (z : (r_pd T R).2 = true) : (r_pd T R).1.2.2.2.2 = R.2.2.2.2 := by
  unfold r_pd at z ⊢
  by_cases c1 : T.1 R.1.1 = 40
  · rw [if_pos c1] at z ⊢
    by_cases c2 : T.1 (R.1.1 + 1) = 4
    · rw [if_pos c2] at z ⊢
      rw [r_eatAs_p (R := r_adv (r_adv (r_role R 4))) (of_decide_eq_true z)]
      rfl
    rw [if_neg c2] at z ⊢
    by_cases c3 : T.1 (R.1.1 + 1) = 5
    · rw [if_pos c3] at z ⊢
      rw [r_eatAs_p (R := r_adv (r_adv (r_role R 4))) (of_decide_eq_true z)]
      rfl
    · rw [if_neg c3] at z
      exact absurd z Bool.false_ne_true
  · rw [if_neg c1] at z
    exact absurd z Bool.false_ne_true
theorem gh_plp {T : rT} : ∀ (w : Nat) (R : rS), (r_plp T w R).2 = true → (r_plp T w R).1.2.2.2.2 = R.2.2.2.2 := by
  intro w
  induction w with
  | zero => intro R _; rfl
  | succ w ih =>
    intro R z
    unfold r_plp at z ⊢
    by_cases c1 : T.1 R.1.1 = 94
    · rw [if_pos c1] at z ⊢
      by_cases c2 : (r_pd T (r_adv R)).2 = true
      · rw [if_pos c2] at z ⊢
        exact (ih _ z).trans (gh_pd c2)
      · rw [if_neg c2] at z
        exact absurd z Bool.false_ne_true
    · rw [if_neg c1]
theorem gh_dl {T : rT} (z : (r_dl T R).2 = true) : (r_dl T R).1.2.2.2.2 = R.2.2.2.2 := by
  unfold r_dl at z ⊢
  by_cases c1 : T.1 R.1.1 = 40
  · rw [if_pos c1] at z ⊢
    by_cases c2 : T.1 (R.1.1 + 1) = 3
    · rw [if_pos c2] at z ⊢
      by_cases c3 : (r_pd T (r_adv (r_adv (r_role R 2)))).2 = true
      · rw [if_pos c3] at z ⊢
        exact (gh_plp 401 _ z).trans (gh_pd c3)
      · rw [if_neg c3] at z
        exact absurd z Bool.false_ne_true
    · rw [if_neg c2] at z
      exact absurd z Bool.false_ne_true
  · rw [if_neg c1] at z
    exact absurd z Bool.false_ne_true
/-- where both stand ahead of a line -/
def LNV (D : tK) (E : rE) (N : Nat) (S : tS) (q : rQ) : Prop := RI (tE E) N q.2.2.2.2.2 [] q.2 ∧ r_ok N q.2 ∧ q.2.1.2 = 0 ∧ q.2.2.2.2.2.length ≤ q.2.1.1 ∧ q.1.1 = cnt q.2.2.2.2.1 3 q.2.1.1 ∧ q.1.2.2 10 3 = nI q.1.1 ∧ GS D E (LD D E N q.1.2 q.1.1) S q.2
theorem ln_line (hC : CX D E N) (h : LNV D E N S q) {Q : rQ × Bool} (hQ : q_line (tE E) (r_testN (tE E) 8) q = Q) : (Q.2 = true → LNV D E N (t_line D (t_testN D 8) S) Q.1) ∧ (¬ Q.2 = true → t_bk (t_line D (t_testN D 8) S) (D.2.2.2.1 Q.1.2.1.1)) := by
  obtain ⟨hri, hok, hd, hsl, hod, h3, hg⟩ := h
  have K := fun c0 r0 hq => GS_k hC hg hri.1 c0 r0 hq
  have hgd := q_line_gd (q := q) hC.1 (r_gd_testN hC.1 8) hok h3
  have hrl := RL_line (q := q) hC.1 (RO_testN hC.1 8) hri
  rw [hQ] at hgd hrl
  obtain ⟨⟨g1, g2⟩, g3, g4, g5⟩ := hgd
  have fin : Q.2 = true → GS D E (LD D E N Q.1.1.2 Q.1.1.1) (t_line D (t_testN D 8) S) Q.1.2 → Q.1.1.1 = cnt Q.1.2.2.2.2.1 3 Q.1.2.1.1 → Q.1.2.2.2.2.2.length ≤ Q.1.2.1.1 → LNV D E N (t_line D (t_testN D 8) S) Q.1 := fun z a b c => ⟨hrl z, r_st_ok hok g1, (g2 z).2.trans hd, c, b, g5, a⟩
  unfold q_line at hQ
  unfold t_line
  unfold t_line at fin
  by_cases c1 : (tE E).1 q.2.1.1 = 0
  · have hl := RI_lt hC.1 hri c1 (by decide)
    have ea : t_acc D S 256 = t_adv D S := if_pos ((K 256 0 (by decide)).mpr c1)
    rw [if_pos c1] at hQ
    rw [if_pos ((K 256 0 (by decide)).mpr c1), ea] at fin ⊢
    have hg1 := gs_adv hC hg hl (RI_z hri) (fun B x => LD_adv x (RI_z hri))
    obtain ⟨y, n⟩ := ln_drone hC (RI_adv hri hl) hg1
    rw [← hQ] at fin g1 ⊢
    refine ⟨fun z => fin z (y z) ?_ ?_, n⟩
    · show q.1.1 = cnt (r_dr (tE E) (r_adv q.2)).1.2.2.2.1 3 (r_dr (tE E) (r_adv q.2)).1.1.1
      rw [c3_dr (RI_adv hri hl) hC.1 z, cnt_adv (b := 3) (RI_z hri) (by decide)]
      exact hod
    · show (r_dr (tE E) (r_adv q.2)).1.2.2.2.2.length ≤ (r_dr (tE E) (r_adv q.2)).1.1.1
      rw [gh_dr z]
      have := g1.1
      exact Nat.le_trans hsl this
  rw [if_neg c1] at hQ
  have ea : t_acc D S 256 = S := if_neg (fun z => c1 ((K 256 0 (by decide)).mp z))
  rw [if_neg (fun z => c1 ((K 256 0 (by decide)).mp z)), ea] at fin ⊢
  by_cases c2 : (tE E).1 q.2.1.1 = 2
  · have hl := RI_lt hC.1 hri c2 (by decide)
    have eb : t_acc D S 258 = t_adv D S := if_pos ((K 258 2 (by decide)).mpr c2)
    rw [if_pos c2] at hQ
    rw [if_pos ((K 258 2 (by decide)).mpr c2), eb] at fin ⊢
    have hg1 := gs_adv hC hg hl (RI_z hri) (fun B x => LD_adv x (RI_z hri))
    obtain ⟨y, n⟩ := ln_deal hC (RI_adv hri hl) (r_ok_adv hC.1 hok c2 (by decide)).1 hg1
    rw [← hQ] at fin g1 ⊢
    refine ⟨fun z => fin z (y z) ?_ ?_, n⟩
    · show q.1.1 = cnt (r_dl (tE E) (r_adv q.2)).1.2.2.2.1 3 (r_dl (tE E) (r_adv q.2)).1.1.1
      rw [c3_dl (RI_adv hri hl) hC.1 z, cnt_adv (b := 3) (RI_z hri) (by decide)]
      exact hod
    · show (r_dl (tE E) (r_adv q.2)).1.2.2.2.2.length ≤ (r_dl (tE E) (r_adv q.2)).1.1.1
      rw [gh_dl z]
      have := g1.1
      exact Nat.le_trans hsl this
  rw [if_neg c2] at hQ
  have eb : t_acc D S 258 = S := if_neg (fun z => c2 ((K 258 2 (by decide)).mp z))
  rw [if_neg (fun z => c2 ((K 258 2 (by decide)).mp z)), eb] at fin ⊢
  obtain ⟨y, n⟩ := ln_order hC hri hok hd hsl hod hg hQ
  refine ⟨fun z => ?_, n⟩
  obtain ⟨y1, y2, y3, y4⟩ := y z
  exact fin z (by rw [y2]; exact y1) (y2.trans y3.symm) y4
theorem kb_lines {ft : tS → tS} (hf : t_kb ft) : ∀ (k : Nat) (S : tS) (x : Int32), t_bk S x → t_bk (t_lines D ft k S) x := by
  intro k
  cases k with
  | zero => intro S x h; exact h
  | succ k =>
    intro S x h
    unfold t_lines
    by_cases c : S.1 11 1 = 0
    · rw [if_pos c]; exact h
    · rw [if_neg c, if_neg (t_bk_ne h)]
      exact h
/-- all lines -/
theorem ln_lines (hC : CX D E N) : ∀ (w1 w2 : Nat) (S : tS) (q : rQ), N < q.2.1.1 + 2 * w1 → N < q.2.1.1 + w2 → LNV D E N S q → ((q_bk (tE E) (r_testN (tE E) 8) w2 q).2 = true → LNV D E N (t_lines D (t_testN D 8) w1 S) (q_bk (tE E) (r_testN (tE E) 8) w2 q).1 ∧ (tE E).1 (q_bk (tE E) (r_testN (tE E) 8) w2 q).1.2.1.1 = 900) ∧ (¬ (q_bk (tE E) (r_testN (tE E) 8) w2 q).2 = true → t_bk (t_lines D (t_testN D 8) w1 S) (D.2.2.2.1 (q_bk (tE E) (r_testN (tE E) 8) w2 q).1.2.1.1)) := by
  intro w1
  induction w1 with
  | zero => intro w2 S q a b h; have := h.1.1; omega
  | succ w1 ih =>
    intro w2 S q a b h
    obtain ⟨w2, rfl⟩ : ∃ w, w2 = w + 1 := ⟨w2 - 1, by have := h.1.1; omega⟩
    have K := GS_k hC h.2.2.2.2.2.2 h.1.1 0 900 (by decide)
    simp only [t_lines, q_bk]
    by_cases c1 : (tE E).1 q.2.1.1 = 900
    · rw [if_pos c1, if_pos (K.mpr c1)]
      exact ⟨fun _ => ⟨h, c1⟩, fun z => absurd rfl z⟩
    rw [if_neg c1, if_neg (fun z => c1 (K.mp z)), if_pos h.2.2.2.2.2.2.1.1]
    have hgd := q_line_gd (q := q) hC.1 (r_gd_testN hC.1 8) h.2.1 h.2.2.2.2.2.1
    obtain ⟨y, n⟩ := ln_line hC h rfl
    by_cases c2 : (q_line (tE E) (r_testN (tE E) 8) q).2 = true
    · rw [if_pos c2]
      have h2 := y c2
      have hg1 := (hgd.1.2 c2).1
      have K2 := GS_k hC h2.2.2.2.2.2.2 h2.1.1 59 109 (by decide)
      by_cases c3 : (tE E).1 (q_line (tE E) (r_testN (tE E) 8) q).1.2.1.1 = 109
      · rw [if_pos c3]
        have hl := RI_lt hC.1 h2.1 c3 (by decide)
        obtain ⟨i1, i2, i3, i4, i5, i6, i7⟩ := h2
        have e9 : t_exp D (t_line D (t_testN D 8) S) 59 = t_adv D (t_line D (t_testN D 8) S) := if_pos (K2.mpr c3)
        rw [e9]
        refine ih w2 _ ((q_line (tE E) (r_testN (tE E) 8) q).1.1, r_adv (q_line (tE E) (r_testN (tE E) 8) q).1.2) (by show N < (q_line (tE E) (r_testN (tE E) 8) q).1.2.1.1 + 1 + 2 * w1; omega) (by show N < (q_line (tE E) (r_testN (tE E) 8) q).1.2.1.1 + 1 + w2; omega) ⟨RI_adv i1 hl, (r_ok_adv hC.1 i2 c3 (by decide)).1, i3, Nat.le_succ_of_le i4, ?_, i6, gs_adv hC i7 hl (RI_z i1) (fun B x => LD_adv x (RI_z i1))⟩
        show (q_line (tE E) (r_testN (tE E) 8) q).1.1.1 = cnt (r_adv (q_line (tE E) (r_testN (tE E) 8) q).1.2).2.2.2.1 3 (r_adv (q_line (tE E) (r_testN (tE E) 8) q).1.2).1.1
        rw [cnt_adv (b := 3) (RI_z i1) (by decide)]
        exact i5
      · rw [if_neg c3]
        exact ⟨fun z => absurd z Bool.false_ne_true, fun _ => kb_lines (kb_testN 8) w1 _ _ (gs_exn hC h2.2.2.2.2.2.2.1 h2.1.1 59 109 (by decide) c3)⟩
    · rw [if_neg c2]
      exact ⟨fun z => absurd z Bool.false_ne_true, fun _ => kb_lines (kb_testN 8) w1 _ _ (kb_exp _ _ (n c2))⟩
end XLL
