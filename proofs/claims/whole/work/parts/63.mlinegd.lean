theorem q_ord_gd {T : rT} {N : Nat} (hN : r_tok T N) {ft : rF} (hf : r_gd N ft) {q : rQ} {k : Int32} (hk : r_ok N q.2) (hkk : T.1 q.2.1.1 = k) (hod : q.1.2.2 10 3 = nI q.1.1) : (r_st N q.2 (q_ord T ft q k).1.2 ∧ ((q_ord T ft q k).2 = true → q.2.1.1 < (q_ord T ft q k).1.2.1.1 ∧ (q_ord T ft q k).1.2.1.2 = q.2.1.2)) ∧ (q_ord T ft q k).1.1.1 ≤ q.1.1 + 1 ∧ tE (q_ord T ft q k).1.1.2 = tE q.1.2 ∧ (q_ord T ft q k).1.1.2.2 10 3 = nI (q_ord T ft q k).1.1.1 := by
  unfold q_ord
  by_cases c1 : r_isv k = true
  · rw [if_pos c1]
    obtain ⟨d1, d2⟩ := r_ok_adv (R := r_role q.2 3) hN hk rfl (show T.1 q.2.1.1 < 900 by rw [hkk]; exact r_isv_lt c1)
    obtain ⟨s1, t1⟩ := r_gd_tg (T := T) (k := k) hN d1
    by_cases c2 : (r_tg T (r_adv (r_role q.2 3)) k).2 = true
    · rw [if_pos c2]
      obtain ⟨s2, t2⟩ := r_gd_wh hN hf (r_st_ok d1 s1)
      have g1 := (t1 c2).1
      have g2 := (t1 c2).2
      have h1 : r_st N q.2 (r_wh T ft (r_tg T (r_adv (r_role q.2 3)) k).1).1 := r_st_tr (R := q.2) d2 (r_st_tr s1 s2)
      by_cases c3 : (r_wh T ft (r_tg T (r_adv (r_role q.2 3)) k).1).2 = true
      · rw [if_pos c3]
        refine ⟨⟨h1, fun _ => ⟨?_, (t2 c3).trans g2⟩⟩, Nat.le_refl _, rfl, ?_⟩
        · exact Nat.lt_of_lt_of_le (Nat.lt_of_le_of_lt (Nat.le_succ _) g1) s2.1
        · rfl
      · rw [if_neg c3]
        exact ⟨⟨h1, fun z => absurd z Bool.false_ne_true⟩, Nat.le_refl _, rfl, rfl⟩
    · rw [if_neg c2]
      exact ⟨⟨r_st_tr (R := q.2) d2 s1, fun z => absurd z Bool.false_ne_true⟩, Nat.le_refl _, rfl, rfl⟩
  · rw [if_neg c1]
    exact ⟨⟨r_st_rf hk, fun z => absurd z Bool.false_ne_true⟩, Nat.le_succ _, rfl, hod⟩
theorem q_w_gd {N : Nat} {q : rQ} {p : rS × Bool} {R : rS} (s : r_st N q.2 R) (hR : q.2.1.1 < R.1.1) (hR2 : R.1.2 = q.2.1.2) (t : r_st N R p.1 ∧ (p.2 = true → R.1.1 < p.1.1.1 ∧ p.1.1.2 = R.1.2)) (hod : q.1.2.2 10 3 = nI q.1.1) : (r_st N q.2 (q_w q p).1.2 ∧ ((q_w q p).2 = true → q.2.1.1 < (q_w q p).1.2.1.1 ∧ (q_w q p).1.2.1.2 = q.2.1.2)) ∧ (q_w q p).1.1.1 ≤ q.1.1 + 1 ∧ tE (q_w q p).1.1.2 = tE q.1.2 ∧ (q_w q p).1.1.2.2 10 3 = nI (q_w q p).1.1.1 := ⟨⟨r_st_tr s t.1, fun z => ⟨Nat.lt_trans hR (t.2 z).1, (t.2 z).2.trans hR2⟩⟩, Nat.le_succ _, rfl, hod⟩
theorem q_line_gd {T : rT} {N : Nat} (hN : r_tok T N) {ft : rF} (hf : r_gd N ft) {q : rQ} (hk : r_ok N q.2) (hod : q.1.2.2 10 3 = nI q.1.1) : (r_st N q.2 (q_line T ft q).1.2 ∧ ((q_line T ft q).2 = true → q.2.1.1 < (q_line T ft q).1.2.1.1 ∧ (q_line T ft q).1.2.1.2 = q.2.1.2)) ∧ (q_line T ft q).1.1.1 ≤ q.1.1 + 1 ∧ tE (q_line T ft q).1.1.2 = tE q.1.2 ∧ (q_line T ft q).1.1.2.2 10 3 = nI (q_line T ft q).1.1.1 := by
  unfold q_line
  by_cases c1 : T.1 q.2.1.1 = 0
  · rw [if_pos c1]
    obtain ⟨d1, d2⟩ := r_ok_adv hN hk c1 (by decide)
    exact q_w_gd d2 (Nat.lt_succ_self _) rfl (r_gd_dr hN _ d1) hod
  · rw [if_neg c1]
    by_cases c2 : T.1 q.2.1.1 = 2
    · rw [if_pos c2]
      obtain ⟨d1, d2⟩ := r_ok_adv hN hk c2 (by decide)
      exact q_w_gd d2 (Nat.lt_succ_self _) rfl (r_gd_dl hN _ d1) hod
    · rw [if_neg c2]
      exact q_ord_gd hN hf hk rfl hod
theorem q_line_in {T : rT} {N : Nat} {ft : rF} {q : rQ} (hin : ∀ i, i < N → (tE q.1.2).1 i = 41 → r_in q.1.2 i) : ∀ i, i < N → (tE (q_line T ft q).1.1.2).1 i = 41 → r_in (q_line T ft q).1.1.2 i := by
  unfold q_line
  by_cases c1 : T.1 q.2.1.1 = 0
  · rw [if_pos c1]; exact hin
  rw [if_neg c1]
  by_cases c2 : T.1 q.2.1.1 = 2
  · rw [if_pos c2]; exact hin
  rw [if_neg c2]
  unfold q_ord
  split
  · split
    · split
      · exact hin
      · exact hin
    · exact hin
  · exact hin
