section XRL
variable {T : rT} {N : Nat} {pre : List rI} {ty : List Bool} {R : rS}
theorem RI_0 (h : RI T N pre ty R) : RI T N R.2.2.2.2 [] R := ⟨h.1, h.2.1, h.2.2.1, h.2.2.2.1, h.2.2.2.2.1, ⟨[], (List.append_nil _).symm, rfl⟩, h.2.2.2.2.2.2⟩
theorem upd_at {f : Nat → Int32} {i : Nat} {x : Int32} : upd f i x i = x := by unfold upd; rw [if_pos rfl]
theorem upd_ne {f : Nat → Int32} {i j : Nat} {x : Int32} (h : j ≠ i) : upd f i x j = f j := by unfold upd; rw [if_neg h]
theorem RI_role {a : Int32} (h : RI T N pre ty R) (hl : R.1.1 < N) (hr : rr_ok N (upd R.2.2.2.1 R.1.1 a) R.1.1) : RI T N pre ty (r_adv (r_role R a)) := by
  obtain ⟨h1, h2, h3, h4, h5, h6, h7⟩ := h
  have hu : ∀ j, j < R.1.1 → R.2.2.2.1 j = upd R.2.2.2.1 R.1.1 a j := fun j hj => (upd_ne (by omega)).symm
  refine ⟨hl, h2, h3, fun i p q => ?_, fun i p => ?_, h6, fun e he => g_ok_mono (Nat.le_succ _) hu (h7 e he)⟩
  · have p : R.1.1 + 1 ≤ i := p
    exact (upd_ne (by omega)).trans (h4 i (by omega) q)
  · have p : i < R.1.1 + 1 := p
    by_cases q : i < R.1.1
    · exact rr_loc (fun j hj => hu j (by omega)) (h5 i q)
    · have e : i = R.1.1 := by omega
      rw [e]
      exact hr
theorem rr_1 {f : Nat → Int32} {i : Nat} (h : f i = 1) (h2 : i + 2 < N) : rr_ok N f i := Or.inr (Or.inl ⟨h, h2⟩)
theorem rr_2 {f : Nat → Int32} {i : Nat} (h : f i = 2) : rr_ok N f i := Or.inr (Or.inr (Or.inl h))
theorem rr_3 {f : Nat → Int32} {i : Nat} (h : f i = 3) : rr_ok N f i := Or.inr (Or.inr (Or.inr (Or.inl h)))
theorem rr_4 {f : Nat → Int32} {i : Nat} (h : f i = 4) (h2 : i + 2 < N) (h3 : ∃ j, j < i ∧ f j = 2) : rr_ok N f i := Or.inr (Or.inr (Or.inr (Or.inr (Or.inl ⟨h, h2, h3⟩))))
theorem rr_7 {f : Nat → Int32} {i : Nat} (h : f i = 7) (h2 : 1 ≤ i) (h3 : ∃ j, j < i ∧ f j = 3) : rr_ok N f i := Or.inr (Or.inr (Or.inr (Or.inr (Or.inr (Or.inr (Or.inr (Or.inl ⟨h, h2, h3⟩)))))))
theorem rr_8 {f : Nat → Int32} {i : Nat} (h : f i = 8) : rr_ok N f i := Or.inr (Or.inr (Or.inr (Or.inr (Or.inr (Or.inr (Or.inr (Or.inr (Or.inl h))))))))
theorem rr_9 {f : Nat → Int32} {i : Nat} (h : f i = 9) : rr_ok N f i := Or.inr (Or.inr (Or.inr (Or.inr (Or.inr (Or.inr (Or.inr (Or.inr (Or.inr h))))))))
/-- a name with a role, a word, a number with a role -/
theorem RI_trip {a b k2 : Int32} (hN : r_tok T N) (h : RI T N pre ty R) (h1 : T.1 R.1.1 = 40) (h2 : T.1 (R.1.1 + 1) = k2) (h9 : k2 < 900) (h3 : T.1 (R.1.1 + 2) = 41) (hr : R.1.1 + 2 < N → rr_ok N (upd R.2.2.2.1 R.1.1 a) R.1.1) (hb : b = 8 ∨ b = 9) : RI T N pre ty (r_eatAs T (r_adv (r_adv (r_role R a))) 41 b) := by
  have l0 := RI_lt hN h h1 (by decide)
  have l1 : R.1.1 + 1 < N := r_ltn hN l0 h2 h9
  have l2 : R.1.1 + 2 < N := r_ltn hN l1 h3 (by decide)
  rw [r_eatAs_p (R := r_adv (r_adv (r_role R a))) h3]
  refine RI_role (R := r_adv (r_adv (r_role R a))) (RI_adv (R := r_adv (r_role R a)) (RI_role h l0 (hr l2)) l1) l2 ?_
  rcases hb with e | e
  · exact rr_8 (upd_at.trans e)
  · exact rr_9 (upd_at.trans e)
theorem RL_dr (hN : r_tok T N) (h : RI T N pre ty R) (z : (r_dr T R).2 = true) : RI T N pre ty (r_dr T R).1 := by
  unfold r_dr at z ⊢
  by_cases c1 : T.1 R.1.1 = 40
  · rw [if_pos c1] at z ⊢
    by_cases c2 : T.1 (R.1.1 + 1) = 1
    · rw [if_pos c2] at z ⊢
      exact RI_trip hN h c1 c2 (by decide) (of_decide_eq_true z) (fun l => rr_1 upd_at l) (Or.inl rfl)
    · rw [if_neg c2] at z
      exact absurd z Bool.false_ne_true
  · rw [if_neg c1] at z
    exact absurd z Bool.false_ne_true
/-- a deal has been named ahead -/
def r_hs2 (a : Int32) (R : rS) : Prop := ∃ j, j < R.1.1 ∧ R.2.2.2.1 j = a
theorem r_hs_trip {a b c : Int32} (h : r_hs2 c R) (h3 : T.1 (R.1.1 + 2) = 41) : r_hs2 c (r_eatAs T (r_adv (r_adv (r_role R a))) 41 b) := by
  obtain ⟨j, p, q⟩ := h
  rw [r_eatAs_p (R := r_adv (r_adv (r_role R a))) h3]
  refine ⟨j, (by show j < R.1.1 + 1 + 1 + 1; omega), ?_⟩
  show upd (upd R.2.2.2.1 R.1.1 a) (R.1.1 + 2) b j = c
  rw [upd_ne (by omega), upd_ne (by omega)]
  exact q
theorem RL_pd (hN : r_tok T N) (h : RI T N pre ty R) (hd : r_hs2 2 R) (z : (r_pd T R).2 = true) : RI T N pre ty (r_pd T R).1 ∧ r_hs2 2 (r_pd T R).1 := by
  have hr : ∀ l : R.1.1 + 2 < N, rr_ok N (upd R.2.2.2.1 R.1.1 4) R.1.1 := fun l => rr_4 upd_at l (by obtain ⟨j, p, q⟩ := hd; exact ⟨j, p, (upd_ne (by omega)).trans q⟩)
  unfold r_pd at z ⊢
  by_cases c1 : T.1 R.1.1 = 40
  · rw [if_pos c1] at z ⊢
    by_cases c2 : T.1 (R.1.1 + 1) = 4
    · rw [if_pos c2] at z ⊢
      exact ⟨RI_trip hN h c1 c2 (by decide) (of_decide_eq_true z) hr (Or.inr rfl), r_hs_trip hd (of_decide_eq_true z)⟩
    rw [if_neg c2] at z ⊢
    by_cases c3 : T.1 (R.1.1 + 1) = 5
    · rw [if_pos c3] at z ⊢
      exact ⟨RI_trip hN h c1 c3 (by decide) (of_decide_eq_true z) hr (Or.inr rfl), r_hs_trip hd (of_decide_eq_true z)⟩
    · rw [if_neg c3] at z
      exact absurd z Bool.false_ne_true
  · rw [if_neg c1] at z
    exact absurd z Bool.false_ne_true
theorem r_hs_adv {a : Int32} (h : r_hs2 a R) : r_hs2 a (r_adv R) := by
  obtain ⟨j, p, q⟩ := h
  exact ⟨j, Nat.lt_succ_of_lt p, q⟩
theorem RL_plp (hN : r_tok T N) : ∀ (w : Nat) (R : rS), RI T N pre ty R → r_hs2 2 R → (r_plp T w R).2 = true → RI T N pre ty (r_plp T w R).1 := by
  intro w
  induction w with
  | zero => intro R h _ _; exact h
  | succ w ih =>
    intro R h hd z
    unfold r_plp at z ⊢
    by_cases c1 : T.1 R.1.1 = 94
    · rw [if_pos c1] at z ⊢
      by_cases c2 : (r_pd T (r_adv R)).2 = true
      · rw [if_pos c2] at z ⊢
        obtain ⟨a, b⟩ := RL_pd hN (RI_adv h (RI_lt hN h c1 (by decide))) (r_hs_adv hd) c2
        exact ih _ a b z
      · rw [if_neg c2] at z
        exact absurd z Bool.false_ne_true
    · rw [if_neg c1]
      exact h
theorem RL_dl (hN : r_tok T N) (h : RI T N pre ty R) (z : (r_dl T R).2 = true) : RI T N pre ty (r_dl T R).1 := by
  unfold r_dl at z ⊢
  by_cases c1 : T.1 R.1.1 = 40
  · rw [if_pos c1] at z ⊢
    by_cases c2 : T.1 (R.1.1 + 1) = 3
    · rw [if_pos c2] at z ⊢
      have l0 := RI_lt hN h c1 (by decide)
      have l1 : R.1.1 + 1 < N := r_ltn hN l0 c2 (by decide)
      have h1 : RI T N pre ty (r_adv (r_adv (r_role R 2))) := RI_adv (R := r_adv (r_role R 2)) (RI_role h l0 (rr_2 upd_at)) l1
      have h2 : r_hs2 2 (r_adv (r_adv (r_role R 2))) := ⟨R.1.1, by show R.1.1 < R.1.1 + 1 + 1; omega, upd_at⟩
      by_cases c3 : (r_pd T (r_adv (r_adv (r_role R 2)))).2 = true
      · rw [if_pos c3] at z ⊢
        obtain ⟨a, b⟩ := RL_pd hN h1 h2 c3
        exact RL_plp hN 401 _ a b z
      · rw [if_neg c3] at z
        exact absurd z Bool.false_ne_true
    · rw [if_neg c2] at z
      exact absurd z Bool.false_ne_true
  · rw [if_neg c1] at z
    exact absurd z Bool.false_ne_true
theorem RI_of {a : Int32} (hN : r_tok T N) (h : RI T N pre ty R) (h1 : 1 ≤ R.1.1) (hd : r_hs2 3 R) (z : T.1 R.1.1 = 40) : RI T N pre ty (r_eatAs T R 40 7) := by
  rw [r_eatAs_p z]
  exact RI_role h (RI_lt hN h z (by decide)) (rr_7 upd_at h1 (by obtain ⟨j, p, q⟩ := hd; exact ⟨j, p, (upd_ne (by omega)).trans q⟩))
theorem RL_tg {k : Int32} (hN : r_tok T N) (h : RI T N pre ty R) (h1 : 1 ≤ R.1.1) (hd : r_hs2 3 R) (z : (r_tg T R k).2 = true) : RI T N pre ty (r_tg T R k).1 := by
  unfold r_tg at z ⊢
  by_cases c1 : k = 6
  · rw [if_pos c1] at z ⊢
    exact RI_of (a := 7) hN h h1 hd (of_decide_eq_true z)
  rw [if_neg c1] at z ⊢
  by_cases c2 : T.1 R.1.1 = 9
  · rw [if_pos c2]
    exact RI_adv h (RI_lt hN h c2 (by decide))
  · rw [if_neg c2] at z ⊢
    exact RI_of (a := 7) hN h h1 hd (of_decide_eq_true z)
/-- behind 'when': a test, or nothing -/
theorem RL_wh {ft : rF} (hN : r_tok T N) (hf : RO T N ft true) (h : RI T N pre ty R) (z : (r_wh T ft R).2 = true) : (r_wh T ft R).1 = R ∧ RI T N pre ty (r_wh T ft R).1 ∨ RI T N pre (true :: ty) (r_wh T ft R).1 := by
  unfold r_wh at z ⊢
  by_cases c : T.1 R.1.1 = 10
  · rw [if_pos c] at z ⊢
    exact Or.inr (hf pre ty _ (RI_adv h (RI_lt hN h c (by decide))) z)
  · rw [if_neg c]
    exact Or.inl ⟨rfl, h⟩
end XRL
theorem RL_ord {T : rT} {N : Nat} {ft : rF} {q : rQ} {k : Int32} (hN : r_tok T N) (hf : RO T N ft true) (h : RI T N q.2.2.2.2.2 [] q.2) (hk : T.1 q.2.1.1 = k) (z : (q_ord T ft q k).2 = true) : RI T N (q_ord T ft q k).1.2.2.2.2.2 [] (q_ord T ft q k).1.2 := by
  unfold q_ord at z ⊢
  by_cases c1 : r_isv k = true
  · rw [if_pos c1] at z ⊢
    have h1 : RI T N q.2.2.2.2.2 [] (r_adv (r_role q.2 3)) := RI_role h (RI_lt hN h hk (r_isv_lt c1)) (rr_3 upd_at)
    by_cases c2 : (r_tg T (r_adv (r_role q.2 3)) k).2 = true
    · rw [if_pos c2] at z ⊢
      have h2 := RL_tg hN h1 (Nat.succ_le_succ (Nat.zero_le _)) ⟨q.2.1.1, Nat.lt_succ_self _, upd_at⟩ c2
      by_cases c3 : (r_wh T ft (r_tg T (r_adv (r_role q.2 3)) k).1).2 = true
      · rw [if_pos c3]
        rcases RL_wh hN hf h2 c3 with ⟨-, a⟩ | a
        · exact RI_0 a
        · exact RI_0 a
      · rw [if_neg c3] at z
        exact absurd z Bool.false_ne_true
    · rw [if_neg c2] at z
      exact absurd z Bool.false_ne_true
  · rw [if_neg c1] at z
    exact absurd z Bool.false_ne_true
theorem RL_line {T : rT} {N : Nat} {ft : rF} {q : rQ} (hN : r_tok T N) (hf : RO T N ft true) (h : RI T N q.2.2.2.2.2 [] q.2) (z : (q_line T ft q).2 = true) : RI T N (q_line T ft q).1.2.2.2.2.2 [] (q_line T ft q).1.2 := by
  unfold q_line at z ⊢
  by_cases c1 : T.1 q.2.1.1 = 0
  · rw [if_pos c1] at z ⊢
    exact RI_0 (RL_dr hN (RI_adv h (RI_lt hN h c1 (by decide))) z)
  rw [if_neg c1] at z ⊢
  by_cases c2 : T.1 q.2.1.1 = 2
  · rw [if_pos c2] at z ⊢
    exact RI_0 (RL_dl hN (RI_adv h (RI_lt hN h c2 (by decide))) z)
  · rw [if_neg c2] at z ⊢
    exact RL_ord hN hf h rfl z
theorem RL_bk {T : rT} {N : Nat} {ft : rF} (hN : r_tok T N) (hg : r_gd N ft) (hf : RO T N ft true) : ∀ (w : Nat) (q : rQ), RI T N q.2.2.2.2.2 [] q.2 → r_ok N q.2 → q.1.2.2 10 3 = nI q.1.1 → N < q.2.1.1 + w → tE q.1.2 = T → (q_bk T ft w q).2 = true → RI T N (q_bk T ft w q).1.2.2.2.2.2 [] (q_bk T ft w q).1.2 ∧ T.1 (q_bk T ft w q).1.2.1.1 = 900 := by
  intro w
  induction w with
  | zero => intro q h hk _ hw _ _; have := h.1; omega
  | succ w ih =>
    intro q h hk hod hw he z
    unfold q_bk at z ⊢
    by_cases c1 : T.1 q.2.1.1 = 900
    · rw [if_pos c1]
      exact ⟨h, c1⟩
    rw [if_neg c1] at z ⊢
    by_cases c2 : (q_line T ft q).2 = true
    · rw [if_pos c2] at z ⊢
      obtain ⟨⟨s1, s2⟩, s3, s4, s5⟩ := q_line_gd hN hg hk hod
      have h1 := RL_line hN hf h c2
      have hk1 := r_st_ok hk s1
      by_cases c3 : T.1 (q_line T ft q).1.2.1.1 = 109
      · rw [if_pos c3] at z ⊢
        have h2 := RI_adv h1 (RI_lt hN h1 c3 (by decide))
        have s6 := (s2 c2).1
        exact ih ((q_line T ft q).1.1, r_adv (q_line T ft q).1.2) h2 (r_ok_adv hN hk1 c3 (by decide)).1 s5 (by show N < (q_line T ft q).1.2.1.1 + 1 + w; omega) (s4.trans he) z
      · rw [if_neg c3] at z
        exact absurd z Bool.false_ne_true
    · rw [if_neg c2] at z
      exact absurd z Bool.false_ne_true
