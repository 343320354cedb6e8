theorem r_lt {T : rT} {N : Nat} {R : rS} {k : Int32} (hN : r_tok T N) (h : R.1.1 ≤ N) (hk : T.1 R.1.1 = k) (h9 : k < 900) : R.1.1 < N := by
  rcases Nat.lt_or_ge R.1.1 N with q | q
  · exact q
  · exfalso
    have e : R.1.1 = N := by omega
    exact hN.2.2 (by rw [← e, hk]; exact h9)
theorem r_ltn {T : rT} {N i : Nat} {k : Int32} (hN : r_tok T N) (h : i ≤ N) (hk : T.1 i = k) (h9 : k < 900) : i < N := by
  rcases Nat.lt_or_ge i N with q | q
  · exact q
  · exfalso
    have e : i = N := by omega
    exact hN.2.2 (by rw [← e, hk]; exact h9)
theorem r_eat_p {T : rT} {R : rS} {k : Int32} (h : T.1 R.1.1 = k) : r_eat T R k = r_adv R := if_pos h
theorem r_eat_n {T : rT} {R : rS} {k : Int32} (h : ¬ T.1 R.1.1 = k) : r_eat T R k = R := if_neg h
theorem r_deep_n {R : rS} (h : ¬ R.1.2 = 8) : r_deep R = ((R.1.1 + 1, R.1.2 + 1), R.2) := if_neg h
theorem r_deep_p {R : rS} (h : R.1.2 = 8) : r_deep R = R := if_pos h
theorem r_app1 {α : Type} (l : List α) (x : α) : (l ++ [x]).length = l.length + 1 := by simp
theorem r_name_p {T : rT} {R : rS} {a : Int32} (h : T.1 R.1.1 = 40) : (r_name T R a).1 = (R.1.1 + 1, R.1.2) ∧ (r_name T R a).2.1 = R.2.1 ++ [nI R.1.1] ∧ (r_name T R a).2.2.1 = R.2.2.1 ++ [R.2.1.length] := by
  unfold r_name r_eatAs
  rw [r_eat_p (show T.1 (r_role (r_put (r_opn R) (nI R.1.1)) a).1.1 = 40 from h)]
  exact ⟨rfl, rfl, rfl⟩
theorem r_name_n {T : rT} {R : rS} {a : Int32} (h : ¬ T.1 R.1.1 = 40) : (r_name T R a).1 = R.1 ∧ (r_name T R a).2.1 = R.2.1 ++ [nI R.1.1] ∧ (r_name T R a).2.2.1 = R.2.2.1 ++ [R.2.1.length] := by
  unfold r_name r_eatAs
  rw [r_eat_n (show ¬ T.1 (r_role (r_put (r_opn R) (nI R.1.1)) a).1.1 = 40 from h)]
  exact ⟨rfl, rfl, rfl⟩
/-- what a name does to where it stands: at most one token, one more of code and places -/
theorem r_name_st {T : rT} {N : Nat} {R : rS} {a : Int32} (hN : r_tok T N) (h : R.1.1 ≤ N) : R.1.1 ≤ (r_name T R a).1.1 ∧ (r_name T R a).1.1 ≤ N ∧ (r_name T R a).1.2 = R.1.2 ∧ (r_name T R a).2.1.length = R.2.1.length + 1 ∧ (r_name T R a).2.2.1.length = R.2.2.1.length + 1 ∧ (T.1 R.1.1 = 40 → (r_name T R a).1.1 = R.1.1 + 1) := by
  by_cases q : T.1 R.1.1 = 40
  · have hl := r_ltn hN h q (by decide)
    obtain ⟨e1, e2, e3⟩ := r_name_p (a := a) q
    rw [e1, e2, e3, r_app1, r_app1]
    exact ⟨by omega, hl, rfl, rfl, rfl, fun _ => rfl⟩
  · obtain ⟨e1, e2, e3⟩ := r_name_n (a := a) q
    rw [e1, e2, e3, r_app1, r_app1]
    exact ⟨Nat.le_refl _, h, rfl, rfl, rfl, fun h => absurd h q⟩
theorem r_res {N : Nat} {R R' : rS} {b : Bool} (h : r_st N R R') (hb : b = true → R.1.1 < R'.1.1 ∧ R'.1.2 = R.1.2) : r_st N R ((R', b) : rS × Bool).1 ∧ (((R', b) : rS × Bool).2 = true → R.1.1 < ((R', b) : rS × Bool).1.1.1 ∧ ((R', b) : rS × Bool).1.1.2 = R.1.2) := ⟨h, hb⟩
theorem r_no {N : Nat} {R R' : rS} (h : r_st N R R') : r_st N R ((R', false) : rS × Bool).1 ∧ (((R', false) : rS × Bool).2 = true → R.1.1 < ((R', false) : rS × Bool).1.1.1 ∧ ((R', false) : rS × Bool).1.1.2 = R.1.2) := ⟨h, fun z => absurd z Bool.false_ne_true⟩
theorem r_no2 {N : Nat} {R R' : rS} (h : r_st N R R') : r_st N R ((R', false) : rS × Bool).1 ∧ (((R', false) : rS × Bool).2 = true → ((R', false) : rS × Bool).1.1.2 = R.1.2) := ⟨h, fun z => absurd z Bool.false_ne_true⟩
theorem r_gd_vn {T : rT} {N : Nat} {R : rS} {k : Int32} (hN : r_tok T N) (hk : r_ok N R) (h : T.1 R.1.1 = k) (h9 : k < 900) : r_st N R (r_vn T R k).1 ∧ ((r_vn T R k).2 = true → R.1.1 < (r_vn T R k).1.1.1 ∧ (r_vn T R k).1.1.2 = R.1.2) := by
  obtain ⟨a1, a2, a3, a4⟩ := hk
  have h1 := r_ltn hN a1 h h9
  have l1 : (R.2.1 ++ [k]).length = R.2.1.length + 1 := r_app1 _ _
  unfold r_vn
  by_cases q : T.1 (r_adv (r_put R k)).1.1 = 15
  · have h2 : R.1.1 + 1 < N := r_ltn hN h1 q (by decide)
    rw [if_pos q, r_eat_p q]
    obtain ⟨b1, b2, b3, b4, b5, b6⟩ := r_name_st (T := T) (R := r_adv (r_adv (r_put R k))) (a := if k = 1 then 5 else 6) hN h2
    have c1 : (r_adv (r_adv (r_put R k))).1.1 = R.1.1 + 2 := rfl
    have c2 : (r_adv (r_adv (r_put R k))).1.2 = R.1.2 := rfl
    have c3 : (r_adv (r_adv (r_put R k))).2.1.length = R.2.1.length + 1 := l1
    have c4 : (r_adv (r_adv (r_put R k))).2.2.1.length = R.2.2.1.length := rfl
    rw [c1] at b1
    rw [c2] at b3
    rw [c3] at b4
    rw [c4] at b5
    refine ⟨⟨?_, b2, ?_, ?_, ?_⟩, fun z => ⟨?_, b3⟩⟩
    · show R.1.1 ≤ (r_name T (r_adv (r_adv (r_put R k))) (if k = 1 then 5 else 6)).1.1
      omega
    · show (r_name T (r_adv (r_adv (r_put R k))) (if k = 1 then 5 else 6)).1.2 ≤ 8
      omega
    · show (r_name T (r_adv (r_adv (r_put R k))) (if k = 1 then 5 else 6)).2.1.length + 2 * R.1.1 ≤ R.2.1.length + 2 * (r_name T (r_adv (r_adv (r_put R k))) (if k = 1 then 5 else 6)).1.1
      omega
    · show (r_name T (r_adv (r_adv (r_put R k))) (if k = 1 then 5 else 6)).2.2.1.length + R.1.1 ≤ R.2.2.1.length + (r_name T (r_adv (r_adv (r_put R k))) (if k = 1 then 5 else 6)).1.1
      omega
    · show R.1.1 < (r_name T (r_adv (r_adv (r_put R k))) (if k = 1 then 5 else 6)).1.1
      omega
  · rw [if_neg q, r_eat_n q]
    refine r_no ⟨Nat.le_succ _, h1, a2, ?_, ?_⟩
    · show (R.2.1 ++ [k]).length + 2 * R.1.1 ≤ R.2.1.length + 2 * (R.1.1 + 1)
      omega
    · show R.2.2.1.length + R.1.1 ≤ R.2.2.1.length + (R.1.1 + 1)
      omega
/-- going in, and what is behind it -/
theorem r_ok_deep {T : rT} {N : Nat} {R : rS} {k : Int32} (hN : r_tok T N) (hk : r_ok N R) (h : T.1 R.1.1 = k) (h9 : k < 900) (h8 : ¬ R.1.2 = 8) : r_ok N (r_deep R) ∧ (r_deep R).1 = (R.1.1 + 1, R.1.2 + 1) ∧ (r_deep R).2 = R.2 := by
  obtain ⟨a1, a2, a3, a4⟩ := hk
  have h1 := r_ltn hN a1 h h9
  rw [r_deep_n h8]
  exact ⟨⟨h1, by show R.1.2 + 1 ≤ 8; omega, by show R.2.1.length ≤ 2 * (R.1.1 + 1); omega, by show R.2.2.1.length ≤ R.1.1 + 1; omega⟩, rfl, rfl⟩
theorem r_ok_adv {T : rT} {N : Nat} {R : rS} {k : Int32} (hN : r_tok T N) (hk : r_ok N R) (h : T.1 R.1.1 = k) (h9 : k < 900) : r_ok N (r_adv R) ∧ r_st N R (r_adv R) := by
  obtain ⟨a1, a2, a3, a4⟩ := hk
  have h1 := r_ltn hN a1 h h9
  exact ⟨⟨h1, a2, by show R.2.1.length ≤ 2 * (R.1.1 + 1); omega, by show R.2.2.1.length ≤ R.1.1 + 1; omega⟩, ⟨Nat.le_succ _, h1, a2, by show R.2.1.length + 2 * R.1.1 ≤ R.2.1.length + 2 * (R.1.1 + 1); omega, by show R.2.2.1.length + R.1.1 ≤ R.2.2.1.length + (R.1.1 + 1); omega⟩⟩
theorem r_st_eat {T : rT} {N : Nat} {R : rS} {k : Int32} (hN : r_tok T N) (hk : r_ok N R) (h9 : k < 900) : r_st N R (r_eat T R k) := by
  by_cases q : T.1 R.1.1 = k
  · rw [r_eat_p q]; exact (r_ok_adv hN hk q h9).2
  · rw [r_eat_n q]; exact r_st_rf hk
theorem r_gd_ins {T : rT} {N : Nat} {fs : rF} {R : rS} {k : Int32} {two : Bool} (hN : r_tok T N) (hk : r_ok N R) (hfs : ¬ R.1.2 = 8 → r_gd N fs) : r_st N R (r_ins T fs R k two).1 ∧ ((r_ins T fs R k two).2 = true → R.1.1 < (r_ins T fs R k two).1.1.1 ∧ (r_ins T fs R k two).1.1.2 = R.1.2) := by
  unfold r_ins
  by_cases c1 : T.1 R.1.1 = 90
  · rw [if_pos c1]
    by_cases c2 : R.1.2 = 8
    · rw [if_pos c2, r_deep_p c2]
      exact r_no (r_st_rf hk)
    rw [if_neg c2]
    obtain ⟨d1, d2, d3⟩ := r_ok_deep hN hk c1 (by decide) c2
    have hf := hfs c2
    obtain ⟨⟨s1, s2, s3, s4, s5⟩, s6⟩ := hf _ d1
    rw [d2, d3] at s4 s5
    rw [d2] at s1 s6
    have hk1 : r_ok N (fs (r_deep R)).1 := r_st_ok d1 (hf _ d1).1
    obtain ⟨a1, a2, a3, a4⟩ := hk
    have s1 : R.1.1 + 1 ≤ (fs (r_deep R)).1.1.1 := s1
    have s4 : (fs (r_deep R)).1.2.1.length + 2 * (R.1.1 + 1) ≤ R.2.1.length + 2 * (fs (r_deep R)).1.1.1 := s4
    have s5 : (fs (r_deep R)).1.2.2.1.length + (R.1.1 + 1) ≤ R.2.2.1.length + (fs (r_deep R)).1.1.1 := s5
    by_cases c3 : (fs (r_deep R)).2 = true
    · rw [if_pos c3]
      obtain ⟨s7, s8⟩ := s6 c3
      have s8 : (fs (r_deep R)).1.1.2 = R.1.2 + 1 := s8
      cases two with
      | false =>
        rw [if_neg (by decide)]
        have hu : r_ok N (r_up (fs (r_deep R)).1) := ⟨hk1.1, Nat.le_trans (Nat.sub_le _ _) hk1.2.1, hk1.2.2⟩
        obtain ⟨t1, t2, t3, t4, t5⟩ := r_st_eat (k := 91) hN hu (by decide)
        have t1 : (fs (r_deep R)).1.1.1 ≤ (r_eat T (r_up (fs (r_deep R)).1) 91).1.1 := t1
        have t4 : (r_eat T (r_up (fs (r_deep R)).1) 91).2.1.length + 2 * (fs (r_deep R)).1.1.1 ≤ (fs (r_deep R)).1.2.1.length + 2 * (r_eat T (r_up (fs (r_deep R)).1) 91).1.1 := t4
        have t5 : (r_eat T (r_up (fs (r_deep R)).1) 91).2.2.1.length + (fs (r_deep R)).1.1.1 ≤ (fs (r_deep R)).1.2.2.1.length + (r_eat T (r_up (fs (r_deep R)).1) 91).1.1 := t5
        refine r_res ⟨by omega, t2, t3, by omega, by omega⟩ (fun z => ⟨by omega, ?_⟩)
        have e : (r_eat T (r_up (fs (r_deep R)).1) 91).1.2 = (fs (r_deep R)).1.1.2 - 1 := by
          unfold r_eat
          split <;> rfl
        show (r_eat T (r_up (fs (r_deep R)).1) 91).1.2 = R.1.2
        omega
      | true =>
        rw [if_pos rfl]
        by_cases c4 : T.1 (fs (r_deep R)).1.1.1 = 94
        · rw [if_pos c4, r_eat_p c4]
          obtain ⟨e1, e2⟩ := r_ok_adv hN hk1 c4 (by decide)
          obtain ⟨⟨u1, u2, u3, u4, u5⟩, u6⟩ := hf _ e1
          have u1 : (fs (r_deep R)).1.1.1 + 1 ≤ (fs (r_adv (fs (r_deep R)).1)).1.1.1 := u1
          have u4 : (fs (r_adv (fs (r_deep R)).1)).1.2.1.length + 2 * ((fs (r_deep R)).1.1.1 + 1) ≤ (fs (r_deep R)).1.2.1.length + 2 * (fs (r_adv (fs (r_deep R)).1)).1.1.1 := u4
          have u5 : (fs (r_adv (fs (r_deep R)).1)).1.2.2.1.length + ((fs (r_deep R)).1.1.1 + 1) ≤ (fs (r_deep R)).1.2.2.1.length + (fs (r_adv (fs (r_deep R)).1)).1.1.1 := u5
          by_cases c5 : (fs (r_adv (fs (r_deep R)).1)).2 = true
          · rw [if_pos c5]
            obtain ⟨u7, u8⟩ := u6 c5
            have u8 : (fs (r_adv (fs (r_deep R)).1)).1.1.2 = (fs (r_deep R)).1.1.2 := u8
            have l1 : ((fs (r_adv (fs (r_deep R)).1)).1.2.1 ++ [k]).length = (fs (r_adv (fs (r_deep R)).1)).1.2.1.length + 1 := r_app1 _ _
            generalize hG : r_gh (r_put (r_up (fs (r_adv (fs (r_deep R)).1)).1) k) (k.toNatClampNeg + 256, 0, none) = G
            have g1 : G.1.1 = (fs (r_adv (fs (r_deep R)).1)).1.1.1 := by rw [← hG]; rfl
            have g2 : G.1.2 = (fs (r_adv (fs (r_deep R)).1)).1.1.2 - 1 := by rw [← hG]; rfl
            have g3 : G.2.1.length = (fs (r_adv (fs (r_deep R)).1)).1.2.1.length + 1 := by rw [← hG]; exact l1
            have g4 : G.2.2.1.length = (fs (r_adv (fs (r_deep R)).1)).1.2.2.1.length := by rw [← hG]; rfl
            by_cases c6 : T.1 G.1.1 = 91
            · have hl := r_ltn hN (show G.1.1 ≤ N by omega) c6 (by decide)
              rw [r_eat_p c6]
              refine ⟨⟨?_, ?_, ?_, ?_, ?_⟩, fun z => ⟨?_, ?_⟩⟩
              · show R.1.1 ≤ G.1.1 + 1; omega
              · show G.1.1 + 1 ≤ N; omega
              · show G.1.2 ≤ 8; omega
              · show G.2.1.length + 2 * R.1.1 ≤ R.2.1.length + 2 * (G.1.1 + 1); omega
              · show G.2.2.1.length + R.1.1 ≤ R.2.2.1.length + (G.1.1 + 1); omega
              · show R.1.1 < G.1.1 + 1; omega
              · show G.1.2 = R.1.2; omega
            · rw [r_eat_n c6]
              refine ⟨⟨?_, ?_, ?_, ?_, ?_⟩, fun z => absurd (of_decide_eq_true z) (by rw [← g1]; exact c6)⟩
              · show R.1.1 ≤ G.1.1; omega
              · show G.1.1 ≤ N; omega
              · show G.1.2 ≤ 8; omega
              · show G.2.1.length + 2 * R.1.1 ≤ R.2.1.length + 2 * G.1.1; omega
              · show G.2.2.1.length + R.1.1 ≤ R.2.2.1.length + G.1.1; omega
          · rw [if_neg c5]
            exact r_no ⟨by show R.1.1 ≤ (fs (r_adv (fs (r_deep R)).1)).1.1.1; omega, u2, u3, by show (fs (r_adv (fs (r_deep R)).1)).1.2.1.length + 2 * R.1.1 ≤ R.2.1.length + 2 * (fs (r_adv (fs (r_deep R)).1)).1.1.1; omega, by show (fs (r_adv (fs (r_deep R)).1)).1.2.2.1.length + R.1.1 ≤ R.2.2.1.length + (fs (r_adv (fs (r_deep R)).1)).1.1.1; omega⟩
        · rw [if_neg c4, r_eat_n c4]
          exact r_no ⟨by show R.1.1 ≤ (fs (r_deep R)).1.1.1; omega, s2, s3, by show (fs (r_deep R)).1.2.1.length + 2 * R.1.1 ≤ R.2.1.length + 2 * (fs (r_deep R)).1.1.1; omega, by show (fs (r_deep R)).1.2.2.1.length + R.1.1 ≤ R.2.2.1.length + (fs (r_deep R)).1.1.1; omega⟩
    · rw [if_neg c3]
      exact r_no ⟨by show R.1.1 ≤ (fs (r_deep R)).1.1.1; omega, s2, s3, by show (fs (r_deep R)).1.2.1.length + 2 * R.1.1 ≤ R.2.1.length + 2 * (fs (r_deep R)).1.1.1; omega, by show (fs (r_deep R)).1.2.2.1.length + R.1.1 ≤ R.2.2.1.length + (fs (r_deep R)).1.1.1; omega⟩
  · rw [if_neg c1]
    exact r_no (r_st_rf hk)
/-- one deeper, then up again, with one more of code -/
theorem r_gd_dp {T : rT} {N : Nat} {f : rF} {R : rS} {k x : Int32} {i : rI} (hN : r_tok T N) (hk : r_ok N R) (hkd : T.1 R.1.1 = k) (h9 : k < 900) (c2 : ¬ R.1.2 = 8) (hf : r_gd N f) : r_st N R (f (r_deep R)).1 ∧ ((f (r_deep R)).2 = true → r_st N R (r_gh (r_put (r_up (f (r_deep R)).1) x) i) ∧ R.1.1 < (r_gh (r_put (r_up (f (r_deep R)).1) x) i).1.1 ∧ (r_gh (r_put (r_up (f (r_deep R)).1) x) i).1.2 = R.1.2 ∧ (f (r_deep R)).1.1.2 = R.1.2 + 1 ∧ (f (r_deep R)).1.2.1.length < 799) := by
  obtain ⟨d1, d2, d3⟩ := r_ok_deep hN hk hkd h9 c2
  obtain ⟨⟨s1, s2, s3, s4, s5⟩, s6⟩ := hf _ d1
  rw [d2, d3] at s4 s5
  rw [d2] at s1 s6
  have s1 : R.1.1 + 1 ≤ (f (r_deep R)).1.1.1 := s1
  have s4 : (f (r_deep R)).1.2.1.length + 2 * (R.1.1 + 1) ≤ R.2.1.length + 2 * (f (r_deep R)).1.1.1 := s4
  have s5 : (f (r_deep R)).1.2.2.1.length + (R.1.1 + 1) ≤ R.2.2.1.length + (f (r_deep R)).1.1.1 := s5
  obtain ⟨a1, a2, a3, a4⟩ := hk
  have hN4 := hN.1
  refine ⟨⟨by omega, s2, s3, by omega, by omega⟩, fun z => ?_⟩
  obtain ⟨s7, s8⟩ := s6 z
  have s8 : (f (r_deep R)).1.1.2 = R.1.2 + 1 := s8
  have l1 : ((f (r_deep R)).1.2.1 ++ [x]).length = (f (r_deep R)).1.2.1.length + 1 := r_app1 _ _
  refine ⟨⟨?_, ?_, ?_, ?_, ?_⟩, ?_, ?_, s8, by omega⟩
  · show R.1.1 ≤ (f (r_deep R)).1.1.1; omega
  · exact s2
  · show (f (r_deep R)).1.1.2 - 1 ≤ 8; omega
  · show ((f (r_deep R)).1.2.1 ++ [x]).length + 2 * R.1.1 ≤ R.2.1.length + 2 * (f (r_deep R)).1.1.1; omega
  · show (f (r_deep R)).1.2.2.1.length + R.1.1 ≤ R.2.2.1.length + (f (r_deep R)).1.1.1; omega
  · show R.1.1 < (f (r_deep R)).1.1.1; omega
  · show (f (r_deep R)).1.1.2 - 1 = R.1.2; omega
theorem r_dv_lt {k : Int32} (h : r_dv k = true) : k < 900 := by
  unfold r_dv at h
  rw [Bool.and_eq_true] at h
  have h2 : ¬ 13 < k := by simpa using h.2
  exact Int32.lt_of_le_of_lt (Int32.not_lt.mp h2) (by decide)
theorem r_ins_st {T : rT} {N : Nat} {R R1 : rS} {p : rS × Bool} (h1 : r_st N R R1) (hd : R1.1.2 = R.1.2) (h : r_st N R1 p.1 ∧ (p.2 = true → R1.1.1 < p.1.1.1 ∧ p.1.1.2 = R1.1.2)) : r_st N R p.1 ∧ (p.2 = true → R.1.1 < p.1.1.1 ∧ p.1.1.2 = R.1.2) := by
  refine ⟨r_st_tr h1 h.1, fun z => ⟨?_, ?_⟩⟩
  · have := (h.2 z).1
    have := h1.1
    omega
  · rw [(h.2 z).2, hd]
theorem r_gd_val {T : rT} {N : Nat} {fv fs : rF} {d : Nat} (hN : r_tok T N) (hfv : ¬ d = 8 → r_gd N fv) (hfs : ¬ d = 8 → r_gd N fs) {R : rS} (hk : r_ok N R) (hd : R.1.2 = d) : r_st N R (r_val T fv fs R).1 ∧ ((r_val T fv fs R).2 = true → R.1.1 < (r_val T fv fs R).1.1.1 ∧ (r_val T fv fs R).1.1.2 = R.1.2) := by
  subst hd
  unfold r_val
  obtain ⟨a1, a2, a3, a4⟩ := hk
  by_cases c1 : T.1 R.1.1 = 41
  · rw [if_pos c1]
    have h1 := r_ltn hN a1 c1 (by decide)
    have l2 : (R.2.1 ++ [32] ++ [T.2 R.1.1]).length = R.2.1.length + 2 := by simp
    refine ⟨⟨Nat.le_succ _, h1, a2, ?_, ?_⟩, fun _ => ⟨Nat.lt_succ_self _, rfl⟩⟩
    · show (R.2.1 ++ [32] ++ [T.2 R.1.1]).length + 2 * R.1.1 ≤ R.2.1.length + 2 * (R.1.1 + 1); omega
    · show R.2.2.1.length + R.1.1 ≤ R.2.2.1.length + (R.1.1 + 1); omega
  rw [if_neg c1]
  by_cases c2 : r_dv (T.1 R.1.1) = true
  · rw [if_pos c2]
    have h1 := r_ltn hN a1 rfl (r_dv_lt c2)
    have l1 : (R.2.1 ++ [T.1 R.1.1]).length = R.2.1.length + 1 := r_app1 _ _
    refine ⟨⟨Nat.le_succ _, h1, a2, ?_, ?_⟩, fun _ => ⟨Nat.lt_succ_self _, rfl⟩⟩
    · show (R.2.1 ++ [T.1 R.1.1]).length + 2 * R.1.1 ≤ R.2.1.length + 2 * (R.1.1 + 1); omega
    · show R.2.2.1.length + R.1.1 ≤ R.2.2.1.length + (R.1.1 + 1); omega
  rw [if_neg c2]
  have hk : r_ok N R := ⟨a1, a2, a3, a4⟩
  by_cases c3 : T.1 R.1.1 = 1
  · rw [if_pos c3]; exact r_gd_vn hN hk rfl (by rw [c3]; decide)
  rw [if_neg c3]
  by_cases c4 : T.1 R.1.1 = 14
  · rw [if_pos c4]; exact r_gd_vn hN hk rfl (by rw [c4]; decide)
  rw [if_neg c4]
  by_cases c5 : T.1 R.1.1 = 95
  · rw [if_pos c5]
    by_cases c6 : R.1.2 = 8
    · rw [if_pos c6, r_deep_p c6]
      exact r_no (r_st_rf hk)
    rw [if_neg c6]
    obtain ⟨g1, g2⟩ := r_gd_dp (x := 33) (i := (4, 0, none)) hN hk c5 (by decide) c6 (hfv c6)
    by_cases c7 : (fv (r_deep R)).2 = true
    · rw [if_pos c7]
      obtain ⟨g3, g4, g5, -, -⟩ := g2 c7
      exact ⟨g3, fun _ => ⟨g4, g5⟩⟩
    · rw [if_neg c7]
      exact r_no g1
  rw [if_neg c5]
  by_cases c8 : T.1 R.1.1 = 20
  · rw [if_pos c8, r_eat_p c8]
    have h := r_ok_adv hN hk c8 (by decide)
    exact r_ins_st (T := T) h.2 rfl (r_gd_ins hN h.1 hfs)
  rw [if_neg c8, r_eat_n c8]
  by_cases c9 : T.1 R.1.1 = 21
  · rw [if_pos c9, r_eat_p c9]
    have h := r_ok_adv hN hk c9 (by decide)
    exact r_ins_st (T := T) h.2 rfl (r_gd_ins hN h.1 hfs)
  · rw [if_neg c9, r_eat_n c9]
    exact r_gd_ins hN hk hfs
/-- an operator, its right side, what is put for it -/
theorem r_gd_op {T : rT} {N : Nat} {f : rF} {R : rS} {k x : Int32} {i : rI} (hN : r_tok T N) (hk : r_ok N R) (hkd : T.1 R.1.1 = k) (h9 : k < 900) (hf : r_gd N f) : r_st N R (f (r_adv R)).1 ∧ (f (r_adv R)).1.2.1.length < 799 ∧ ((f (r_adv R)).2 = true → r_st N R (r_gh (r_put (f (r_adv R)).1 x) i) ∧ R.1.1 + 1 < (r_gh (r_put (f (r_adv R)).1 x) i).1.1 ∧ (r_gh (r_put (f (r_adv R)).1 x) i).1.2 = R.1.2) := by
  obtain ⟨d1, d2⟩ := r_ok_adv hN hk hkd h9
  obtain ⟨⟨s1, s2, s3, s4, s5⟩, s6⟩ := hf _ d1
  have s1 : R.1.1 + 1 ≤ (f (r_adv R)).1.1.1 := s1
  have s4 : (f (r_adv R)).1.2.1.length + 2 * (R.1.1 + 1) ≤ R.2.1.length + 2 * (f (r_adv R)).1.1.1 := s4
  have s5 : (f (r_adv R)).1.2.2.1.length + (R.1.1 + 1) ≤ R.2.2.1.length + (f (r_adv R)).1.1.1 := s5
  obtain ⟨a1, a2, a3, a4⟩ := hk
  have hN4 := hN.1
  refine ⟨⟨by omega, s2, s3, by omega, by omega⟩, by omega, fun z => ?_⟩
  obtain ⟨s7, s8⟩ := s6 z
  have s7 : R.1.1 + 1 < (f (r_adv R)).1.1.1 := s7
  have s8 : (f (r_adv R)).1.1.2 = R.1.2 := s8
  have l1 : ((f (r_adv R)).1.2.1 ++ [x]).length = (f (r_adv R)).1.2.1.length + 1 := r_app1 _ _
  refine ⟨⟨?_, ?_, ?_, ?_, ?_⟩, ?_, ?_⟩
  · show R.1.1 ≤ (f (r_adv R)).1.1.1; omega
  · exact s2
  · show (f (r_adv R)).1.1.2 ≤ 8; omega
  · show ((f (r_adv R)).1.2.1 ++ [x]).length + 2 * R.1.1 ≤ R.2.1.length + 2 * (f (r_adv R)).1.1.1; omega
  · show (f (r_adv R)).1.2.2.1.length + R.1.1 ≤ R.2.2.1.length + (f (r_adv R)).1.1.1; omega
  · exact s7
  · exact s8
theorem r_gd_lpb {T : rT} {N : Nat} {k1 k2 p1 p2 : Int32} {n1 n2 : Nat} {f : rF} (hN : r_tok T N) (h1 : k1 < 900) (h2 : k2 < 900) (hf : r_gd N f) : ∀ w R, r_ok N R → r_st N R (r_lpb T k1 k2 p1 p2 n1 n2 f w R).1 ∧ ((r_lpb T k1 k2 p1 p2 n1 n2 f w R).2 = true → (r_lpb T k1 k2 p1 p2 n1 n2 f w R).1.1.2 = R.1.2) := by
  intro w
  induction w with
  | zero => intro R hk; exact ⟨r_st_rf hk, fun _ => rfl⟩
  | succ w ih =>
    intro R hk
    unfold r_lpb
    by_cases c1 : T.1 R.1.1 = k1
    · rw [if_pos c1]
      obtain ⟨g1, -, g2⟩ := r_gd_op (x := p1) (i := (n1, 0, none)) hN hk c1 h1 hf
      by_cases c2 : (f (r_adv R)).2 = true
      · rw [if_pos c2]
        obtain ⟨g3, g4, g5⟩ := g2 c2
        obtain ⟨i1, i2⟩ := ih _ (r_st_ok hk g3)
        exact ⟨r_st_tr g3 i1, fun z => (i2 z).trans g5⟩
      · rw [if_neg c2]
        exact r_no2 g1
    rw [if_neg c1]
    by_cases c3 : T.1 R.1.1 = k2
    · rw [if_pos c3]
      obtain ⟨g1, -, g2⟩ := r_gd_op (x := p2) (i := (n2, 0, none)) hN hk c3 h2 hf
      by_cases c2 : (f (r_adv R)).2 = true
      · rw [if_pos c2]
        obtain ⟨g3, g4, g5⟩ := g2 c2
        obtain ⟨i1, i2⟩ := ih _ (r_st_ok hk g3)
        exact ⟨r_st_tr g3 i1, fun z => (i2 z).trans g5⟩
      · rw [if_neg c2]
        exact r_no2 g1
    · rw [if_neg c3]
      exact ⟨r_st_rf hk, fun _ => rfl⟩
theorem r_gd_lpa {T : rT} {N : Nat} {k1 : Int32} {n1 : Nat} {f : rF} (hN : r_tok T N) (h1 : k1 < 900) (hf : r_gd N f) : ∀ w R, r_ok N R → r_st N R (r_lpa T k1 n1 f w R).1 ∧ ((r_lpa T k1 n1 f w R).2 = true → (r_lpa T k1 n1 f w R).1.1.2 = R.1.2) := by
  intro w
  induction w with
  | zero => intro R hk; exact ⟨r_st_rf hk, fun _ => rfl⟩
  | succ w ih =>
    intro R hk
    unfold r_lpa
    by_cases c1 : T.1 R.1.1 = k1
    · rw [if_pos c1, r_eat_p c1]
      obtain ⟨g1, -, g2⟩ := r_gd_op (x := k1) (i := (n1, 0, none)) hN hk c1 h1 hf
      by_cases c2 : (f (r_adv R)).2 = true
      · rw [if_pos c2]
        obtain ⟨g3, g4, g5⟩ := g2 c2
        obtain ⟨i1, i2⟩ := ih _ (r_st_ok hk g3)
        exact ⟨r_st_tr g3 i1, fun z => (i2 z).trans g5⟩
      · rw [if_neg c2]
        exact r_no2 g1
    · rw [if_neg c1, r_eat_n c1]
      exact ⟨r_st_rf hk, fun _ => rfl⟩
theorem r_gd_then {N : Nat} {f : rF} {g : rS → rS × Bool} (hf : r_gd N f) (hg : ∀ R, r_ok N R → r_st N R (g R).1 ∧ ((g R).2 = true → (g R).1.1.2 = R.1.2)) : r_gd N (fun R => if (f R).2 = true then g (f R).1 else ((f R).1, false)) := by
  intro R hk
  obtain ⟨s, t⟩ := hf R hk
  show r_st N R (if (f R).2 = true then g (f R).1 else ((f R).1, false)).1 ∧ _
  by_cases c : (f R).2 = true
  · simp only [if_pos c]
    obtain ⟨s2, t2⟩ := hg _ (r_st_ok hk s)
    obtain ⟨t3, t4⟩ := t c
    refine ⟨r_st_tr s s2, fun z => ⟨?_, ?_⟩⟩
    · have := s2.1
      omega
    · rw [t2 z, t4]
  · simp only [if_neg c]
    exact r_no s
theorem r_gd_prod {T : rT} {N : Nat} {fv : rF} (hN : r_tok T N) (hf : r_gd N fv) : r_gd N (r_prod T fv) := r_gd_then hf (r_gd_lpb hN (by decide) (by decide) hf 401)
theorem r_gd_sum {T : rT} {N : Nat} {fv : rF} (hN : r_tok T N) (hf : r_gd N fv) : r_gd N (r_sum T fv) := r_gd_then (r_gd_prod hN hf) (r_gd_lpb hN (by decide) (by decide) (r_gd_prod hN hf) 401)
theorem r_gd_both {T : rT} {N : Nat} {fo : rF} (hN : r_tok T N) (hf : r_gd N fo) : r_gd N (r_both T fo) := r_gd_then hf (r_gd_lpa hN (by decide) hf 401)
theorem r_gd_test {T : rT} {N : Nat} {fo : rF} (hN : r_tok T N) (hf : r_gd N fo) : r_gd N (r_test T fo) := r_gd_then (r_gd_both hN hf) (r_gd_lpa hN (by decide) (r_gd_both hN hf) 401)
theorem r_how_lt {k : Int32} (h : ¬ r_how k = -1) : k < 900 := by
  unfold r_how at h
  split at h
  · rename_i q; subst q; decide
  split at h
  · rename_i q; subst q; decide
  split at h
  · rename_i q; subst q; decide
  split at h
  · rename_i q; subst q; decide
  split at h
  · rename_i q; subst q; decide
  · exact absurd rfl h
theorem r_gd_cmp {T : rT} {N : Nat} {fs : rF} (hN : r_tok T N) (hf : r_gd N fs) : r_gd N (r_cmp T fs) := by
  intro R hk
  obtain ⟨s, t⟩ := hf R hk
  unfold r_cmp
  by_cases c : (fs R).2 = true
  · rw [if_pos c]
    obtain ⟨t3, t4⟩ := t c
    by_cases c1 : r_how (T.1 (fs R).1.1.1) = -1
    · rw [if_pos c1]
      exact r_no s
    rw [if_neg c1]
    obtain ⟨g1, -, g2⟩ := r_gd_op (x := r_how (T.1 (fs R).1.1.1)) (i := (r_hwn (T.1 (fs R).1.1.1), 0, none)) hN (r_st_ok hk s) rfl (r_how_lt c1) hf
    by_cases c2 : (fs (r_adv (fs R).1)).2 = true
    · rw [if_pos c2]
      obtain ⟨g3, g4, g5⟩ := g2 c2
      exact r_res (r_st_tr s g3) (fun z => ⟨by omega, g5.trans t4⟩)
    · rw [if_neg c2]
      exact r_no (r_st_tr s g1)
  · rw [if_neg c]
    exact r_no s
theorem r_gd_awk {T : rT} {N : Nat} {R : rS} (hN : r_tok T N) (hk : r_ok N R) (h1 : 1 ≤ R.1.1) (hl : R.2.1.length + 2 ≤ 2 * R.1.1) : (R.1.1 ≤ (r_awk T R).1.1.1 ∧ (r_awk T R).1.1.1 ≤ N ∧ (r_awk T R).1.1.2 = R.1.2 ∧ (r_awk T R).1.2.1.length = R.2.1.length + 2 ∧ (r_awk T R).1.2.2.1.length ≤ R.2.2.1.length + 1) ∧ ((r_awk T R).2 = true → R.1.1 < (r_awk T R).1.1.1) := by
  obtain ⟨a1, a2, a3, a4⟩ := hk
  unfold r_awk
  by_cases c : T.1 (r_put R 16).1.1 = 9
  · rw [if_pos c]
    have hlt := r_ltn hN a1 c (by decide)
    have l2 : (R.2.1 ++ [16] ++ [8]).length = R.2.1.length + 2 := by simp
    exact ⟨⟨Nat.le_succ _, hlt, rfl, l2, Nat.le_succ _⟩, fun _ => Nat.lt_succ_self _⟩
  · rw [if_neg c]
    obtain ⟨b1, b2, b3, b4, b5, b6⟩ := r_name_st (T := T) (R := r_put R 16) (a := 5) hN a1
    have l1 : (R.2.1 ++ [16]).length = R.2.1.length + 1 := r_app1 _ _
    have b4 : (r_name T (r_put R 16) 5).2.1.length = (R.2.1 ++ [16]).length + 1 := b4
    have b5 : (r_name T (r_put R 16) 5).2.2.1.length = R.2.2.1.length + 1 := b5
    refine ⟨⟨b1, b2, b3, ?_, ?_⟩, fun z => ?_⟩
    · show (r_name T (r_put R 16) 5).2.1.length = R.2.1.length + 2; omega
    · show (r_name T (r_put R 16) 5).2.2.1.length ≤ R.2.2.1.length + 1; omega
    · have z : T.1 R.1.1 = 40 := of_decide_eq_true z
      show R.1.1 < (r_name T (r_put R 16) 5).1.1
      rw [b6 z]
      exact Nat.lt_succ_self _
theorem r_gd_single {T : rT} {N : Nat} {fo ft fs : rF} {d : Nat} (hN : r_tok T N) (hfo : ¬ d = 8 → r_gd N fo) (hft : ¬ d = 8 → r_gd N ft) (hfs : r_gd N fs) {R : rS} (hk : r_ok N R) (hd : R.1.2 = d) : r_st N R (r_single T fo ft fs R).1 ∧ ((r_single T fo ft fs R).2 = true → R.1.1 < (r_single T fo ft fs R).1.1.1 ∧ (r_single T fo ft fs R).1.1.2 = R.1.2) := by
  subst hd
  unfold r_single
  by_cases c1 : T.1 R.1.1 = 17
  · rw [if_pos c1]
    by_cases c6 : R.1.2 = 8
    · rw [if_pos c6, r_deep_p c6]
      exact r_no (r_st_rf hk)
    rw [if_neg c6]
    obtain ⟨g1, g2⟩ := r_gd_dp (x := 17) (i := (273, 0, none)) hN hk c1 (by decide) c6 (hfo c6)
    by_cases c7 : (fo (r_deep R)).2 = true
    · rw [if_pos c7]
      obtain ⟨g3, g4, g5, -, -⟩ := g2 c7
      exact ⟨g3, fun _ => ⟨g4, g5⟩⟩
    · rw [if_neg c7]
      exact r_no g1
  rw [if_neg c1]
  by_cases c2 : T.1 R.1.1 = 141
  · rw [if_pos c2]
    by_cases c6 : R.1.2 = 8
    · rw [if_pos c6, r_deep_p c6]
      exact r_no (r_st_rf hk)
    rw [if_neg c6]
    obtain ⟨g1, g2⟩ := r_gd_dp (x := 17) (i := (273, 0, none)) hN hk c2 (by decide) c6 (hft c6)
    by_cases c7 : (ft (r_deep R)).2 = true
    · rw [if_pos c7]
      obtain ⟨-, g4, g5, g6, -⟩ := g2 c7
      have g4 : R.1.1 < (ft (r_deep R)).1.1.1 := g4
      have hk1 : r_ok N (ft (r_deep R)).1 := r_st_ok hk g1
      have hu : r_ok N (r_up (ft (r_deep R)).1) := ⟨hk1.1, Nat.le_trans (Nat.sub_le _ _) hk1.2.1, hk1.2.2⟩
      have hus : r_st N R (r_up (ft (r_deep R)).1) := ⟨g1.1, g1.2.1, Nat.le_trans (Nat.sub_le _ _) g1.2.2.1, g1.2.2.2⟩
      have t := r_st_eat (k := 143) hN hu (by decide)
      have e : (r_eat T (r_up (ft (r_deep R)).1) 143).1.2 = (ft (r_deep R)).1.1.2 - 1 := by
        unfold r_eat
        split <;> rfl
      refine ⟨r_st_tr hus t, fun z => ⟨?_, ?_⟩⟩
      · have t1 : (ft (r_deep R)).1.1.1 ≤ (r_eat T (r_up (ft (r_deep R)).1) 143).1.1 := t.1
        show R.1.1 < (r_eat T (r_up (ft (r_deep R)).1) 143).1.1
        omega
      · show (r_eat T (r_up (ft (r_deep R)).1) 143).1.2 = R.1.2
        omega
    · rw [if_neg c7]
      exact r_no g1
  rw [if_neg c2]
  by_cases c3 : T.1 R.1.1 = 16
  · rw [if_pos c3, r_eat_p c3]
    obtain ⟨h1, h2⟩ := r_ok_adv hN hk c3 (by decide)
    obtain ⟨a1, a2, a3, a4⟩ := hk
    obtain ⟨⟨b1, b2, b3, b4, b5⟩, b6⟩ := r_gd_awk (T := T) hN h1 (Nat.le_add_left _ _) (by show R.2.1.length + 2 ≤ 2 * (R.1.1 + 1); omega)
    have b1 : R.1.1 + 1 ≤ (r_awk T (r_adv R)).1.1.1 := b1
    have b3 : (r_awk T (r_adv R)).1.1.2 = R.1.2 := b3
    have b4 : (r_awk T (r_adv R)).1.2.1.length = R.2.1.length + 2 := b4
    have b5 : (r_awk T (r_adv R)).1.2.2.1.length ≤ R.2.2.1.length + 1 := b5
    exact ⟨⟨by omega, b2, by omega, by omega, by omega⟩, fun z => ⟨by omega, b3⟩⟩
  · rw [if_neg c3, r_eat_n c3]
    exact r_gd_cmp hN hfs R hk
