section XRO
variable {T : rT} {N : Nat}
theorem r_dv3 {k : Int32} (h : r_dv k = true) : k = 11 ∨ k = 12 ∨ k = 13 := by
  unfold r_dv at h
  rw [Bool.and_eq_true] at h
  have h1 : ¬ k < 11 := by simpa using h.1
  have h2 : ¬ 13 < k := by simpa using h.2
  rw [Int32.lt_iff_toInt_lt] at h1 h2
  have e1 : (11 : Int32).toInt = 11 := by decide
  have e2 : (13 : Int32).toInt = 13 := by decide
  rw [e1] at h1
  rw [e2] at h2
  have : k.toInt = 11 ∨ k.toInt = 12 ∨ k.toInt = 13 := by omega
  rcases this with q | q | q
  · exact Or.inl (Int32.toInt_inj.mp (q.trans (by decide)))
  · exact Or.inr (Or.inl (Int32.toInt_inj.mp (q.trans (by decide))))
  · exact Or.inr (Or.inr (Int32.toInt_inj.mp (q.trans (by decide))))
theorem RO_vn {pre : List rI} {ty : List Bool} {R : rS} {k : Int32} (hN : r_tok T N) (h : RI T N pre ty R) (hk : T.1 R.1.1 = k) (h9 : k = 1 ∨ k = 14) (z : (r_vn T R k).2 = true) : RI T N pre (false :: ty) (r_vn T R k).1 := by
  have hl : R.1.1 < N := RI_lt hN h hk (by rcases h9 with q | q <;> rw [q] <;> decide)
  unfold r_vn at z ⊢
  by_cases q : T.1 (r_adv (r_put R k)).1.1 = 15
  · rw [if_pos q, r_eat_p q] at z ⊢
    have q : T.1 (R.1.1 + 1) = 15 := q
    have z40 : T.1 (R.1.1 + 2) = 40 := of_decide_eq_true z
    clear z
    have h2 : RI T N pre ty (r_adv (r_adv R)) := RI_adv (RI_adv h hl) (r_ltn hN hl q (by decide))
    have hl3 : R.1.1 + 2 < N := r_ltn hN h2.1 z40 (by decide)
    unfold r_name r_eatAs
    rw [r_eat_p (show T.1 (r_role (r_put (r_opn (r_adv (r_adv (r_put R k)))) (nI (r_adv (r_adv (r_put R k))).1.1)) (if k = 1 then 5 else 6)).1.1 = 40 from z40)]
    rcases h9 with e | e
    · subst e
      exact RI_nm (k := 257) (a := 5) (c := 1) h2 hl3 z40 rfl (Or.inl ⟨Or.inl rfl, rfl⟩) rfl
    · subst e
      exact RI_nm (k := 270) (a := 6) (c := 14) h2 hl3 z40 rfl (Or.inr ⟨rfl, rfl⟩) rfl
  · rw [if_neg q] at z
    exact absurd z Bool.false_ne_true
theorem RI_up {pre : List rI} {ty : List Bool} {R : rS} (h : RI T N pre ty R) : RI T N pre ty (r_up R) := h
theorem RO_ins {pre : List rI} {ty : List Bool} {fs : rF} {R : rS} {k : Int32} {two : Bool} (hN : r_tok T N) (h : RI T N pre ty R) (hfs : ¬ R.1.2 = 8 → RO T N fs false) (hk : two = true → k = 20 ∨ k = 21) (z : (r_ins T fs R k two).2 = true) : RI T N pre (false :: ty) (r_ins T fs R k two).1 := by
  unfold r_ins at z ⊢
  by_cases c1 : T.1 R.1.1 = 90
  · rw [if_pos c1] at z ⊢
    by_cases c2 : R.1.2 = 8
    · rw [if_pos c2] at z
      exact absurd z Bool.false_ne_true
    rw [if_neg c2] at z ⊢
    have h1 := RI_deep hN h c1 (by decide) c2
    by_cases c3 : (fs (r_deep R)).2 = true
    · rw [if_pos c3] at z ⊢
      have h2 := hfs c2 pre ty _ h1 c3
      cases two with
      | false =>
        rw [if_neg (by decide)] at z ⊢
        exact RI_eat hN (RI_up h2) (by decide)
      | true =>
        rw [if_pos rfl] at z ⊢
        by_cases c4 : T.1 (fs (r_deep R)).1.1.1 = 94
        · rw [if_pos c4] at z ⊢
          have h3 := RI_eat (k := 94) hN h2 (by decide)
          by_cases c5 : (fs (r_eat T (fs (r_deep R)).1 94)).2 = true
          · rw [if_pos c5] at z ⊢
            have h4 := hfs c2 pre (false :: ty) _ h3 c5
            refine RI_eat hN ?_ (by decide)
            rcases hk rfl with e | e
            · subst e
              exact RI_gh (k := 276) (d := 0) (c := [20]) (RI_up h4) rfl ⟨by decide, by decide, fun q => absurd q (by decide)⟩ rfl
            · subst e
              exact RI_gh (k := 277) (d := 0) (c := [21]) (RI_up h4) rfl ⟨by decide, by decide, fun q => absurd q (by decide)⟩ rfl
          · rw [if_neg c5] at z
            exact absurd z Bool.false_ne_true
        · rw [if_neg c4] at z
          exact absurd z Bool.false_ne_true
    · rw [if_neg c3] at z
      exact absurd z Bool.false_ne_true
  · rw [if_neg c1] at z
    exact absurd z Bool.false_ne_true
theorem RO_val {fv fs : rF} {d : Nat} (hN : r_tok T N) (hfv : ¬ d = 8 → RO T N fv false) (hfs : ¬ d = 8 → RO T N fs false) {pre : List rI} {ty : List Bool} {R : rS} (h : RI T N pre ty R) (hd : R.1.2 = d) (z : (r_val T fv fs R).2 = true) : RI T N pre (false :: ty) (r_val T fv fs R).1 := by
  subst hd
  unfold r_val at z ⊢
  by_cases c1 : T.1 R.1.1 = 41
  · rw [if_pos c1] at z ⊢
    refine RI_adv ?_ (show R.1.1 < N from RI_lt hN h c1 (by decide))
    have e := RI_gh (k := 3) (d := T.2 R.1.1) (c := [32, T.2 R.1.1]) h (ty' := false :: ty) rfl ⟨by decide, by decide, fun q => absurd q (by decide)⟩ rfl
    have e2 : R.2.1 ++ [32, T.2 R.1.1] = R.2.1 ++ [32] ++ [T.2 R.1.1] := by simp
    rw [e2] at e
    exact e
  rw [if_neg c1] at z ⊢
  by_cases c2 : r_dv (T.1 R.1.1) = true
  · rw [if_pos c2] at z ⊢
    refine RI_adv ?_ (show R.1.1 < N from RI_lt hN h rfl (r_dv_lt c2))
    rcases r_dv3 c2 with q | q | q
    · rw [q]
      exact RI_gh (k := 267) (d := 0) (c := [11]) h rfl ⟨by decide, by decide, fun q => absurd q (by decide)⟩ rfl
    · rw [q]
      exact RI_gh (k := 268) (d := 0) (c := [12]) h rfl ⟨by decide, by decide, fun q => absurd q (by decide)⟩ rfl
    · rw [q]
      exact RI_gh (k := 269) (d := 0) (c := [13]) h rfl ⟨by decide, by decide, fun q => absurd q (by decide)⟩ rfl
  rw [if_neg c2] at z ⊢
  by_cases c3 : T.1 R.1.1 = 1
  · rw [if_pos c3] at z ⊢; exact RO_vn hN h rfl (Or.inl c3) z
  rw [if_neg c3] at z ⊢
  by_cases c4 : T.1 R.1.1 = 14
  · rw [if_pos c4] at z ⊢; exact RO_vn hN h rfl (Or.inr c4) z
  rw [if_neg c4] at z ⊢
  by_cases c5 : T.1 R.1.1 = 95
  · rw [if_pos c5] at z ⊢
    by_cases c6 : R.1.2 = 8
    · rw [if_pos c6] at z
      exact absurd z Bool.false_ne_true
    rw [if_neg c6] at z ⊢
    by_cases c7 : (fv (r_deep R)).2 = true
    · rw [if_pos c7] at z ⊢
      exact RI_gh (k := 4) (d := 0) (c := [33]) (RI_up (hfv c6 pre ty _ (RI_deep hN h c5 (by decide) c6) c7)) rfl ⟨by decide, by decide, fun q => absurd q (by decide)⟩ rfl
    · rw [if_neg c7] at z
      exact absurd z Bool.false_ne_true
  rw [if_neg c5] at z ⊢
  by_cases c8 : T.1 R.1.1 = 20
  · rw [if_pos c8] at z ⊢
    rw [r_eat_p c8] at z ⊢
    exact RO_ins (R := r_adv R) hN (RI_adv h (RI_lt hN h c8 (by decide))) hfs (fun _ => Or.inl c8) z
  rw [if_neg c8] at z ⊢
  by_cases c9 : T.1 R.1.1 = 21
  · rw [if_pos c9] at z ⊢
    rw [r_eat_n c8, r_eat_p c9] at z ⊢
    exact RO_ins (R := r_adv R) hN (RI_adv h (RI_lt hN h c9 (by decide))) hfs (fun _ => Or.inr c9) z
  · rw [if_neg c9] at z ⊢
    rw [r_eat_n c8, r_eat_n c9] at z ⊢
    exact RO_ins hN h hfs (fun q => absurd q Bool.false_ne_true) z
theorem RO_lpb {k1 k2 p1 p2 : Int32} {n1 n2 : Nat} {f : rF} (hN : r_tok T N) (h1 : k1 < 900) (h2 : k2 < 900) (hf : RO T N f false) (o1 : ∀ ty, p_op n1 (false :: false :: ty) = some (false :: ty)) (o2 : ∀ ty, p_op n2 (false :: false :: ty) = some (false :: ty)) (m1 : n1 ≠ 257 ∧ n1 ≠ 270 ∧ (n1 = 272 → (0 : Int32) = 8)) (m2 : n2 ≠ 257 ∧ n2 ≠ 270 ∧ (n2 = 272 → (0 : Int32) = 8)) (e1 : g_tr1 (n1, 0) = [p1]) (e2 : g_tr1 (n2, 0) = [p2]) : ∀ (w : Nat) (pre : List rI) (ty : List Bool) (R : rS), RI T N pre (false :: ty) R → (r_lpb T k1 k2 p1 p2 n1 n2 f w R).2 = true → RI T N pre (false :: ty) (r_lpb T k1 k2 p1 p2 n1 n2 f w R).1 := by
  intro w
  induction w with
  | zero => intro pre ty R h _; exact h
  | succ w ih =>
    intro pre ty R h z
    unfold r_lpb at z ⊢
    by_cases c1 : T.1 R.1.1 = k1
    · rw [if_pos c1] at z ⊢
      by_cases c2 : (f (r_adv R)).2 = true
      · rw [if_pos c2] at z ⊢
        exact ih pre ty _ (RI_gh (hf pre _ _ (RI_adv h (RI_lt hN h c1 h1)) c2) (o1 ty) m1 e1) z
      · rw [if_neg c2] at z
        exact absurd z Bool.false_ne_true
    rw [if_neg c1] at z ⊢
    by_cases c3 : T.1 R.1.1 = k2
    · rw [if_pos c3] at z ⊢
      by_cases c2 : (f (r_adv R)).2 = true
      · rw [if_pos c2] at z ⊢
        exact ih pre ty _ (RI_gh (hf pre _ _ (RI_adv h (RI_lt hN h c3 h2)) c2) (o2 ty) m2 e2) z
      · rw [if_neg c2] at z
        exact absurd z Bool.false_ne_true
    · rw [if_neg c3]
      exact h
theorem RO_lpa {k1 : Int32} {n1 : Nat} {f : rF} (hN : r_tok T N) (h1 : k1 < 900) (hf : RO T N f true) (o1 : ∀ ty, p_op n1 (true :: true :: ty) = some (true :: ty)) (m1 : n1 ≠ 257 ∧ n1 ≠ 270 ∧ (n1 = 272 → (0 : Int32) = 8)) (e1 : g_tr1 (n1, 0) = [k1]) : ∀ (w : Nat) (pre : List rI) (ty : List Bool) (R : rS), RI T N pre (true :: ty) R → (r_lpa T k1 n1 f w R).2 = true → RI T N pre (true :: ty) (r_lpa T k1 n1 f w R).1 := by
  intro w
  induction w with
  | zero => intro pre ty R h _; exact h
  | succ w ih =>
    intro pre ty R h z
    unfold r_lpa at z ⊢
    by_cases c1 : T.1 R.1.1 = k1
    · rw [if_pos c1] at z ⊢
      by_cases c2 : (f (r_eat T R k1)).2 = true
      · rw [if_pos c2] at z ⊢
        exact ih pre ty _ (RI_gh (hf pre _ _ (RI_eat hN h h1) c2) (o1 ty) m1 e1) z
      · rw [if_neg c2] at z
        exact absurd z Bool.false_ne_true
    · rw [if_neg c1]
      exact RI_eat hN h h1
theorem RO_then {b : Bool} {f : rF} {g : rS → rS × Bool} (hf : RO T N f b) (hg : ∀ (pre : List rI) (ty : List Bool) (R : rS), RI T N pre (b :: ty) R → (g R).2 = true → RI T N pre (b :: ty) (g R).1) : RO T N (fun R => if (f R).2 = true then g (f R).1 else ((f R).1, false)) b := by
  intro pre ty R h z
  have z : (if (f R).2 = true then g (f R).1 else ((f R).1, false)).2 = true := z
  show RI T N pre (b :: ty) (if (f R).2 = true then g (f R).1 else ((f R).1, false)).1
  by_cases c : (f R).2 = true
  · rw [if_pos c] at z ⊢
    exact hg pre ty _ (hf pre ty R h c) z
  · rw [if_neg c] at z
    exact absurd z Bool.false_ne_true
theorem RO_prod {fv : rF} (hN : r_tok T N) (hf : RO T N fv false) : RO T N (r_prod T fv) false := RO_then hf (RO_lpb hN (by decide) (by decide) hf (fun _ => rfl) (fun _ => rfl) ⟨by decide, by decide, fun q => absurd q (by decide)⟩ ⟨by decide, by decide, fun q => absurd q (by decide)⟩ rfl rfl 401)
theorem RO_sum {fv : rF} (hN : r_tok T N) (hf : RO T N fv false) : RO T N (r_sum T fv) false := RO_then (RO_prod hN hf) (RO_lpb hN (by decide) (by decide) (RO_prod hN hf) (fun _ => rfl) (fun _ => rfl) ⟨by decide, by decide, fun q => absurd q (by decide)⟩ ⟨by decide, by decide, fun q => absurd q (by decide)⟩ rfl rfl 401)
theorem RO_both {fo : rF} (hN : r_tok T N) (hf : RO T N fo true) : RO T N (r_both T fo) true := RO_then hf (RO_lpa hN (by decide) hf (fun _ => rfl) ⟨by decide, by decide, fun q => absurd q (by decide)⟩ rfl 401)
theorem RO_test {fo : rF} (hN : r_tok T N) (hf : RO T N fo true) : RO T N (r_test T fo) true := RO_then (RO_both hN hf) (RO_lpa hN (by decide) (RO_both hN hf) (fun _ => rfl) ⟨by decide, by decide, fun q => absurd q (by decide)⟩ rfl 401)
theorem r_how5 {k : Int32} (h : ¬ r_how k = -1) : k = 110 ∨ k = 112 ∨ k = 111 ∨ k = 300 ∨ k = 301 := by
  unfold r_how at h
  by_cases c1 : k = 110
  · exact Or.inl c1
  rw [if_neg c1] at h
  by_cases c2 : k = 112
  · exact Or.inr (Or.inl c2)
  rw [if_neg c2] at h
  by_cases c3 : k = 111
  · exact Or.inr (Or.inr (Or.inl c3))
  rw [if_neg c3] at h
  by_cases c4 : k = 300
  · exact Or.inr (Or.inr (Or.inr (Or.inl c4)))
  rw [if_neg c4] at h
  by_cases c5 : k = 301
  · exact Or.inr (Or.inr (Or.inr (Or.inr c5)))
  · rw [if_neg c5] at h
    exact absurd rfl h
theorem RO_cmp {fs : rF} (hN : r_tok T N) (hf : RO T N fs false) : RO T N (r_cmp T fs) true := by
  intro pre ty R h z
  unfold r_cmp at z ⊢
  by_cases c : (fs R).2 = true
  · rw [if_pos c] at z ⊢
    have h1 := hf pre ty R h c
    by_cases c1 : r_how (T.1 (fs R).1.1.1) = -1
    · rw [if_pos c1] at z
      exact absurd z Bool.false_ne_true
    rw [if_neg c1] at z ⊢
    by_cases c2 : (fs (r_adv (fs R).1)).2 = true
    · rw [if_pos c2] at z ⊢
      have h2 := hf pre _ _ (RI_adv h1 (RI_lt hN h1 rfl (r_how_lt c1))) c2
      rcases r_how5 c1 with q | q | q | q | q <;> rw [q]
      · exact RI_gh (k := 60) (d := 0) (c := [38]) h2 rfl ⟨by decide, by decide, fun q => absurd q (by decide)⟩ rfl
      · exact RI_gh (k := 62) (d := 0) (c := [39]) h2 rfl ⟨by decide, by decide, fun q => absurd q (by decide)⟩ rfl
      · exact RI_gh (k := 61) (d := 0) (c := [42]) h2 rfl ⟨by decide, by decide, fun q => absurd q (by decide)⟩ rfl
      · exact RI_gh (k := 188) (d := 0) (c := [43]) h2 rfl ⟨by decide, by decide, fun q => absurd q (by decide)⟩ rfl
      · exact RI_gh (k := 190) (d := 0) (c := [44]) h2 rfl ⟨by decide, by decide, fun q => absurd q (by decide)⟩ rfl
    · rw [if_neg c2] at z
      exact absurd z Bool.false_ne_true
  · rw [if_neg c] at z
    exact absurd z Bool.false_ne_true
theorem RO_awk {pre : List rI} {ty : List Bool} {R : rS} (hN : r_tok T N) (h : RI T N pre ty R) (z : (r_awk T R).2 = true) : RI T N pre (true :: ty) (r_awk T R).1 := by
  unfold r_awk at z ⊢
  by_cases c : T.1 (r_put R 16).1.1 = 9
  · rw [if_pos c]
    have c : T.1 R.1.1 = 9 := c
    have e := RI_gh (k := 272) (d := 8) (c := [16, 8]) (RI_adv h (RI_lt hN h c (by decide))) (ty' := true :: ty) rfl ⟨by decide, by decide, fun _ => rfl⟩ rfl
    have e2 : (r_adv R).2.1 ++ [16, 8] = R.2.1 ++ [16] ++ [8] := by show R.2.1 ++ [16, 8] = _; simp
    rw [e2] at e
    exact e
  · rw [if_neg c] at z ⊢
    have z : T.1 R.1.1 = 40 := of_decide_eq_true z
    unfold r_name r_eatAs
    rw [r_eat_p (show T.1 (r_role (r_put (r_opn (r_put R 16)) (nI (r_put R 16).1.1)) 5).1.1 = 40 from z)]
    exact RI_nm (k := 272) (a := 5) (c := 16) h (RI_lt hN h z (by decide)) z rfl (Or.inl ⟨Or.inr rfl, rfl⟩) rfl
theorem RO_single {fo ft fs : rF} {d : Nat} (hN : r_tok T N) (hfo : ¬ d = 8 → RO T N fo true) (hft : ¬ d = 8 → RO T N ft true) (hfs : RO T N fs false) {pre : List rI} {ty : List Bool} {R : rS} (h : RI T N pre ty R) (hd : R.1.2 = d) (z : (r_single T fo ft fs R).2 = true) : RI T N pre (true :: ty) (r_single T fo ft fs R).1 := by
  subst hd
  unfold r_single at z ⊢
  by_cases c1 : T.1 R.1.1 = 17
  · rw [if_pos c1] at z ⊢
    by_cases c6 : R.1.2 = 8
    · rw [if_pos c6] at z
      exact absurd z Bool.false_ne_true
    rw [if_neg c6] at z ⊢
    by_cases c7 : (fo (r_deep R)).2 = true
    · rw [if_pos c7] at z ⊢
      exact RI_gh (k := 273) (d := 0) (c := [17]) (RI_up (hfo c6 pre ty _ (RI_deep hN h c1 (by decide) c6) c7)) rfl ⟨by decide, by decide, fun q => absurd q (by decide)⟩ rfl
    · rw [if_neg c7] at z
      exact absurd z Bool.false_ne_true
  rw [if_neg c1] at z ⊢
  by_cases c2 : T.1 R.1.1 = 141
  · rw [if_pos c2] at z ⊢
    by_cases c6 : R.1.2 = 8
    · rw [if_pos c6] at z
      exact absurd z Bool.false_ne_true
    rw [if_neg c6] at z ⊢
    by_cases c7 : (ft (r_deep R)).2 = true
    · rw [if_pos c7] at z ⊢
      exact RI_eat hN (RI_up (hft c6 pre ty _ (RI_deep hN h c2 (by decide) c6) c7)) (by decide)
    · rw [if_neg c7] at z
      exact absurd z Bool.false_ne_true
  rw [if_neg c2] at z ⊢
  by_cases c3 : T.1 R.1.1 = 16
  · rw [if_pos c3] at z ⊢
    rw [r_eat_p c3] at z ⊢
    exact RO_awk hN (RI_adv h (RI_lt hN h c3 (by decide))) z
  · rw [if_neg c3] at z ⊢
    rw [r_eat_n c3] at z ⊢
    exact RO_cmp hN hfs pre ty R h z
theorem RO_valN (hN : r_tok T N) : ∀ w, RO T N (r_valN T w) false := by
  intro w
  induction w with
  | zero => exact fun pre ty R h z => RO_val hN (fun _ => RO_dum) (fun _ => RO_dum) h rfl z
  | succ w ih => exact fun pre ty R h z => RO_val hN (fun _ => ih) (fun _ => RO_sum hN ih) h rfl z
theorem RO_sumN (hN : r_tok T N) (w : Nat) : RO T N (r_sumN T w) false := RO_sum hN (RO_valN hN w)
theorem RO_sinN (hN : r_tok T N) : ∀ w, RO T N (r_sinN T w) true := by
  intro w
  induction w with
  | zero => exact fun pre ty R h z => RO_single hN (fun _ => RO_dum) (fun _ => RO_dum) (RO_sumN hN 0) h rfl z
  | succ w ih => exact fun pre ty R h z => RO_single hN (fun _ => ih) (fun _ => RO_test hN ih) (RO_sumN hN (w + 1)) h rfl z
theorem RO_testN (hN : r_tok T N) (w : Nat) : RO T N (r_testN T w) true := RO_test hN (RO_sinN hN w)
end XRO
