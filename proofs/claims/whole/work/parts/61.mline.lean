theorem r_eatAs_p {T : rT} {R : rS} {k a : Int32} (h : T.1 R.1.1 = k) : r_eatAs T R k a = r_adv (r_role R a) := r_eat_p (R := r_role R a) h
theorem r_eatAs_n {T : rT} {R : rS} {k a : Int32} (h : ¬ T.1 R.1.1 = k) : r_eatAs T R k a = r_role R a := r_eat_n (R := r_role R a) h
/-- a part of a deal, behind its name .. -/
def r_pd (T : rT) (R : rS) : rS × Bool :=
  if T.1 R.1.1 = 40 then
    if T.1 (R.1.1 + 1) = 4 then (r_eatAs T (r_adv (r_adv (r_role R 4))) 41 9, decide (T.1 (R.1.1 + 2) = 41))
    else if T.1 (R.1.1 + 1) = 5 then (r_eatAs T (r_adv (r_adv (r_role R 4))) 41 9, decide (T.1 (R.1.1 + 2) = 41))
    else (r_adv (r_role R 4), false)
  else (r_role R 4, false)
/-- a drone's line behind its keyword -/
def r_dr (T : rT) (R : rS) : rS × Bool :=
  if T.1 R.1.1 = 40 then
    if T.1 (R.1.1 + 1) = 1 then (r_eatAs T (r_adv (r_adv (r_role R 1))) 41 8, decide (T.1 (R.1.1 + 2) = 41))
    else (r_adv (r_role R 1), false)
  else (r_role R 1, false)
/-- further parts -/
def r_plp (T : rT) : Nat → rS → rS × Bool
  | 0, R => (R, true)
  | w + 1, R => if T.1 R.1.1 = 94 then (if (r_pd T (r_adv R)).2 = true then r_plp T w (r_pd T (r_adv R)).1 else ((r_pd T (r_adv R)).1, false)) else (R, true)
/-- a deal's line behind its keyword -/
def r_dl (T : rT) (R : rS) : rS × Bool :=
  if T.1 R.1.1 = 40 then
    if T.1 (R.1.1 + 1) = 3 then (if (r_pd T (r_adv (r_adv (r_role R 2)))).2 = true then r_plp T 401 (r_pd T (r_adv (r_adv (r_role R 2)))).1 else ((r_pd T (r_adv (r_adv (r_role R 2)))).1, false))
    else (r_adv (r_role R 2), false)
  else (r_role R 2, false)
/-- an order: its verb, its target, its test -/
def r_isv (k : Int32) : Bool := k == 6 || (k == 7 || k == 8)
def r_tg (T : rT) (R : rS) (k : Int32) : rS × Bool := if k = 6 then (r_eatAs T R 40 7, decide (T.1 R.1.1 = 40)) else if T.1 R.1.1 = 9 then (r_adv R, true) else (r_eatAs T R 40 7, decide (T.1 R.1.1 = 40))
def r_wh (T : rT) (ft : rF) (R : rS) : rS × Bool := if T.1 R.1.1 = 10 then ft (r_adv R) else (R, true)
def o_p (od : Nat) : Nat := if 16 < od then 16 else od
def o_E1 (E : rE) (od : Nat) : rE := (E.1, h_u E.2 10 3 (nI (od + 1)))
def o_E2 (E : rE) (od n : Nat) : rE := (E.1, h_u (h_u E.2 10 3 (nI (od + 1))) 6 (o_p od) (nI n))
def o_E3 (E : rE) (od n m : Nat) : rE := (E.1, h_u (h_u (h_u E.2 10 3 (nI (od + 1))) 6 (o_p od) (nI n)) 7 (o_p od) (nI m))
theorem o_pI {od : Nat} (h : od < 2 ^ 31) : (if (16 : Int32) < nI od then (16 : Int32) else nI od) = nI (o_p od) := by
  unfold o_p
  by_cases q : 16 < od
  · have h2 : (16 : Int32) < nI od := nI_lt (a := 16) q h
    rw [if_pos q, if_pos h2]
    rfl
  · have h2 : ¬ (16 : Int32) < nI od := nI_nlt (b := od) (a := 16) (by omega) (by decide)
    rw [if_neg q, if_neg h2]
theorem o_p17 (od : Nat) : o_p od < 17 := by
  unfold o_p
  split <;> omega
abbrev rQ : Type := (Nat × rE) × rS
def q_ord (T : rT) (ft : rF) (q : rQ) (k : Int32) : rQ × Bool :=
  if r_isv k = true then
    if (r_tg T (r_adv (r_role q.2 3)) k).2 = true then
      if (r_wh T ft (r_tg T (r_adv (r_role q.2 3)) k).1).2 = true then (((q.1.1 + 1, o_E3 q.1.2 q.1.1 (r_tg T (r_adv (r_role q.2 3)) k).1.2.1.length (r_wh T ft (r_tg T (r_adv (r_role q.2 3)) k).1).1.2.1.length), (r_wh T ft (r_tg T (r_adv (r_role q.2 3)) k).1).1), true)
      else (((q.1.1 + 1, o_E2 q.1.2 q.1.1 (r_tg T (r_adv (r_role q.2 3)) k).1.2.1.length), (r_wh T ft (r_tg T (r_adv (r_role q.2 3)) k).1).1), false)
    else (((q.1.1 + 1, o_E1 q.1.2 q.1.1), (r_tg T (r_adv (r_role q.2 3)) k).1), false)
  else (q, false)
/-- a line; lines up to the end -/
def q_w (q : rQ) (p : rS × Bool) : rQ × Bool := ((q.1, p.1), p.2)
def q_line (T : rT) (ft : rF) (q : rQ) : rQ × Bool :=
  if T.1 q.2.1.1 = 0 then q_w q (r_dr T (r_adv q.2))
  else if T.1 q.2.1.1 = 2 then q_w q (r_dl T (r_adv q.2))
  else q_ord T ft q (T.1 q.2.1.1)
def q_bk (T : rT) (ft : rF) : Nat → rQ → rQ × Bool
  | 0, q => (q, true)
  | w + 1, q => if T.1 q.2.1.1 = 900 then (q, true) else if (q_line T ft q).2 = true then (if T.1 (q_line T ft q).1.2.1.1 = 109 then q_bk T ft w ((q_line T ft q).1.1, r_adv (q_line T ft q).1.2) else ((q_line T ft q).1, false)) else ((q_line T ft q).1, false)
/-- what lines keep: as r_st, but nothing of depth -/
theorem r_role_st {N : Nat} {R : rS} {a : Int32} (h : r_ok N R) : r_ok N (r_role R a) ∧ r_st N R (r_role R a) := ⟨h, r_st_rf h⟩
theorem r_eatAs_st {T : rT} {N : Nat} {R : rS} {k a : Int32} (hN : r_tok T N) (hk : r_ok N R) (h9 : k < 900) : r_st N R (r_eatAs T R k a) := r_st_eat (R := r_role R a) hN hk h9
theorem r_role2 {T : rT} {N : Nat} {R : rS} {a : Int32} {k1 k2 : Int32} (hN : r_tok T N) (hk : r_ok N R) (h1 : T.1 R.1.1 = k1) (h2 : T.1 (R.1.1 + 1) = k2) (q1 : k1 < 900) (q2 : k2 < 900) : r_ok N (r_adv (r_adv (r_role R a))) ∧ r_st N R (r_adv (r_adv (r_role R a))) := by
  have e1 := r_ok_adv (R := r_role R a) hN hk h1 q1
  have e2 := r_ok_adv (R := r_adv (r_role R a)) hN e1.1 h2 q2
  exact ⟨e2.1, r_st_tr (R := R) e1.2 e2.2⟩
theorem r_three {T : rT} {N : Nat} {R : rS} {a k : Int32} (hN : r_tok T N) (hk : r_ok N R) (h9 : k < 900) : r_st N R (r_eatAs T R k a) ∧ (T.1 R.1.1 = k → R.1.1 < (r_eatAs T R k a).1.1) ∧ (r_eatAs T R k a).1.2 = R.1.2 := by
  refine ⟨r_eatAs_st hN hk h9, fun q => ?_, ?_⟩
  · rw [r_eatAs_p q]
    exact Nat.lt_succ_self _
  · by_cases q : T.1 R.1.1 = k
    · rw [r_eatAs_p q]
      rfl
    · rw [r_eatAs_n q]
      rfl
theorem r_gd_pd {T : rT} {N : Nat} (hN : r_tok T N) : r_gd N (r_pd T) := by
  intro R hk
  unfold r_pd
  by_cases c1 : T.1 R.1.1 = 40
  · rw [if_pos c1]
    by_cases c2 : T.1 (R.1.1 + 1) = 4
    · rw [if_pos c2]
      obtain ⟨h1, h2⟩ := r_role2 (a := 4) hN hk c1 c2 (by decide) (by decide)
      obtain ⟨g1, g2, g3⟩ := r_three (a := 9) (k := 41) hN h1 (by decide)
      refine r_res (r_st_tr h2 g1) (fun z => ⟨?_, g3⟩)
      have := g1.1
      have e : (r_adv (r_adv (r_role R 4))).1.1 = R.1.1 + 2 := rfl
      omega
    rw [if_neg c2]
    by_cases c3 : T.1 (R.1.1 + 1) = 5
    · rw [if_pos c3]
      obtain ⟨h1, h2⟩ := r_role2 (a := 4) hN hk c1 c3 (by decide) (by decide)
      obtain ⟨g1, g2, g3⟩ := r_three (a := 9) (k := 41) hN h1 (by decide)
      refine r_res (r_st_tr h2 g1) (fun z => ⟨?_, g3⟩)
      have := g1.1
      have e : (r_adv (r_adv (r_role R 4))).1.1 = R.1.1 + 2 := rfl
      omega
    · rw [if_neg c3]
      exact r_no (r_ok_adv (R := r_role R 4) hN hk c1 (by decide)).2
  · rw [if_neg c1]
    exact r_no (r_role_st hk).2
theorem r_gd_dr {T : rT} {N : Nat} (hN : r_tok T N) : r_gd N (r_dr T) := by
  intro R hk
  unfold r_dr
  by_cases c1 : T.1 R.1.1 = 40
  · rw [if_pos c1]
    by_cases c2 : T.1 (R.1.1 + 1) = 1
    · rw [if_pos c2]
      obtain ⟨h1, h2⟩ := r_role2 (a := 1) hN hk c1 c2 (by decide) (by decide)
      obtain ⟨g1, g2, g3⟩ := r_three (a := 8) (k := 41) hN h1 (by decide)
      refine r_res (r_st_tr h2 g1) (fun z => ⟨?_, g3⟩)
      have := g1.1
      have e : (r_adv (r_adv (r_role R 1))).1.1 = R.1.1 + 2 := rfl
      omega
    · rw [if_neg c2]
      exact r_no (r_ok_adv (R := r_role R 1) hN hk c1 (by decide)).2
  · rw [if_neg c1]
    exact r_no (r_role_st hk).2
theorem r_gd_plp {T : rT} {N : Nat} (hN : r_tok T N) : ∀ w R, r_ok N R → r_st N R (r_plp T w R).1 ∧ ((r_plp T w R).2 = true → (r_plp T w R).1.1.2 = R.1.2) := by
  intro w
  induction w with
  | zero => intro R hk; exact ⟨r_st_rf hk, fun _ => rfl⟩
  | succ w ih =>
    intro R hk
    unfold r_plp
    by_cases c1 : T.1 R.1.1 = 94
    · rw [if_pos c1]
      obtain ⟨d1, d2⟩ := r_ok_adv hN hk c1 (by decide)
      obtain ⟨s, t⟩ := r_gd_pd hN _ d1
      by_cases c2 : (r_pd T (r_adv R)).2 = true
      · rw [if_pos c2]
        obtain ⟨i1, i2⟩ := ih _ (r_st_ok d1 s)
        exact ⟨r_st_tr d2 (r_st_tr s i1), fun z => (i2 z).trans (t c2).2⟩
      · rw [if_neg c2]
        exact r_no2 (r_st_tr d2 s)
    · rw [if_neg c1]
      exact ⟨r_st_rf hk, fun _ => rfl⟩
theorem r_gd_dl {T : rT} {N : Nat} (hN : r_tok T N) : r_gd N (r_dl T) := by
  intro R hk
  unfold r_dl
  by_cases c1 : T.1 R.1.1 = 40
  · rw [if_pos c1]
    by_cases c2 : T.1 (R.1.1 + 1) = 3
    · rw [if_pos c2]
      obtain ⟨h1, h2⟩ := r_role2 (a := 2) hN hk c1 c2 (by decide) (by decide)
      obtain ⟨s, t⟩ := r_gd_pd hN _ h1
      by_cases c3 : (r_pd T (r_adv (r_adv (r_role R 2)))).2 = true
      · rw [if_pos c3]
        obtain ⟨i1, i2⟩ := r_gd_plp hN 401 _ (r_st_ok h1 s)
        refine ⟨r_st_tr h2 (r_st_tr s i1), fun z => ⟨?_, (i2 z).trans (t c3).2⟩⟩
        have e1 := i1.1
        have e2 := (t c3).1
        have e3 := h2.1
        omega
      · rw [if_neg c3]
        exact r_no (r_st_tr h2 s)
    · rw [if_neg c2]
      exact r_no (r_ok_adv (R := r_role R 2) hN hk c1 (by decide)).2
  · rw [if_neg c1]
    exact r_no (r_role_st hk).2
theorem r_gd_tg {T : rT} {N : Nat} (hN : r_tok T N) {R : rS} {k : Int32} (hk : r_ok N R) : r_st N R (r_tg T R k).1 ∧ ((r_tg T R k).2 = true → R.1.1 < (r_tg T R k).1.1.1 ∧ (r_tg T R k).1.1.2 = R.1.2) := by
  have hA : r_st N R (r_eatAs T R 40 7) ∧ (decide (T.1 R.1.1 = 40) = true → R.1.1 < (r_eatAs T R 40 7).1.1 ∧ (r_eatAs T R 40 7).1.2 = R.1.2) := by
    obtain ⟨g1, g2, g3⟩ := r_three (a := 7) (k := 40) hN hk (by decide)
    exact ⟨g1, fun z => ⟨g2 (of_decide_eq_true z), g3⟩⟩
  unfold r_tg
  by_cases c1 : k = 6
  · rw [if_pos c1]
    exact hA
  rw [if_neg c1]
  by_cases c2 : T.1 R.1.1 = 9
  · rw [if_pos c2]
    exact ⟨(r_ok_adv hN hk c2 (by decide)).2, fun _ => ⟨Nat.lt_succ_self _, rfl⟩⟩
  · rw [if_neg c2]
    exact hA
theorem r_gd_wh {T : rT} {N : Nat} (hN : r_tok T N) {ft : rF} (hf : r_gd N ft) {R : rS} (hk : r_ok N R) : r_st N R (r_wh T ft R).1 ∧ ((r_wh T ft R).2 = true → (r_wh T ft R).1.1.2 = R.1.2) := by
  unfold r_wh
  by_cases c1 : T.1 R.1.1 = 10
  · rw [if_pos c1]
    obtain ⟨d1, d2⟩ := r_ok_adv hN hk c1 (by decide)
    obtain ⟨s, t⟩ := hf _ d1
    exact ⟨r_st_tr d2 s, fun z => (t z).2⟩
  · rw [if_neg c1]
    exact ⟨r_st_rf hk, fun _ => rfl⟩
theorem r_isv_lt {k : Int32} (h : r_isv k = true) : k < 900 := by
  unfold r_isv at h
  rw [Bool.or_eq_true, Bool.or_eq_true] at h
  rcases h with h | h | h
  · rw [eq_of_beq h]; decide
  · rw [eq_of_beq h]; decide
  · rw [eq_of_beq h]; decide
