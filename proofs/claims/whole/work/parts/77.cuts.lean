/-- one token cut: where it starts, its kind -/
def y_k0 (f : Nat → Int32) (n g : Nat) : Int32 := if g < n then (r_kd9 f n g).1 else 900
def y_kd (f : Nat → Int32) (n i g : Nat) : Int32 := if i = 400 then (if y_k0 f n g = 900 then 900 else 901) else y_k0 f n g
def y_K (E : rE) (i : Nat) (k : Int32) : rE := (E.1, h_u E.2 12 i k)
def y_E1 (E : rE) (i g : Nat) : rE := (E.1, h_u (h_u E.2 13 i (nI g)) 16 i 0)
def y_R1 (R : rS) (i : Nat) : rS := (R.1, R.2.1, R.2.2.1, upd R.2.2.2.1 i 0, R.2.2.2.2)
def y_E2 (E : rE) (f : Nat → Int32) (n i g : Nat) : rE := if g < n then y_E (y_E1 E i g) i (r_kd9 f n g).2 else y_E1 E i g
def y_E3 (E : rE) (f : Nat → Int32) (n i g : Nat) : rE := y_K (y_E2 E f n i g) i (y_kd f n i g)
def y_lp (f : Nat → Int32) (n : Nat) : Nat → Nat → Nat → rE × rS → rE × rS
  | 0, _, _, q => q
  | w + 1, i, x, q => if y_kd f n i (k_gap f n x) < 900 then y_lp f n w (i + 1) (k_gap f n x + (r_kd9 f n (k_gap f n x)).2) (y_E3 q.1 f n i (k_gap f n x), y_R1 q.2 i) else (y_E3 q.1 f n i (k_gap f n x), y_R1 q.2 i)
section XRC
variable {M : x_M} {o r : Nat} {E : rE} {R : rS}
theorem rH_fr (hd : o + 7 ≤ r) {i g : Nat} : x_st (rH M o r E R) (o + 3) (.inl (0, 401, .inl (upd (E.2 13) i (nI g)))) = rH M o r (E.1, h_u E.2 13 i (nI g)) R := rH_so hd 3 (E.1, h_u E.2 13 i (nI g)) R rfl rfl (by decide)
theorem rH_rl (hd : o + 7 ≤ r) {i : Nat} : x_st (rH M o r E R) (o + 5) (.inl (0, 401, .inl (upd R.2.2.2.1 i 0))) = rH M o r E (y_R1 R i) := rH_so hd 5 E (y_R1 R i) rfl rfl (by decide)
theorem rH_kd (hd : o + 7 ≤ r) {i : Nat} {k : Int32} : x_st (rH M o r E R) (o + 2) (.inl (0, 401, .inl (upd (E.2 12) i k))) = rH M o r (y_K E i k) R := rH_so hd 2 (y_K E i k) R rfl rfl (by decide)
end XRC
section XCT
variable {E : rE} {f : Nat → Int32} {n i g : Nat}
theorem y_Kat {k : Int32} : (y_K E i k).2 12 i = k := h_u_eq (A := E.2) (k := 12) (j := i) (x := k)
theorem y_Krow {k : Int32} {q : Nat} (h : q ≠ 12) : (y_K E i k).2 q = E.2 q := h_u_row h
theorem y_KK {a b : Int32} : y_K (y_K E i a) i b = y_K E i b := by
  unfold y_K
  refine Prod.ext rfl ?_
  funext q j
  by_cases h : q = 12
  · subst h
    by_cases h2 : j = i
    · subst h2
      exact (h_u_eq (A := h_u E.2 12 j a) (k := 12) (j := j) (x := b)).trans (h_u_eq (A := E.2) (k := 12) (j := j) (x := b)).symm
    · exact (h_u_ne (A := h_u E.2 12 i a) (k := 12) (x := b) h2).trans ((h_u_ne (A := E.2) (k := 12) (x := a) h2).trans (h_u_ne (A := E.2) (k := 12) (x := b) h2).symm)
  · exact congrFun ((h_u_row h).trans ((h_u_row h).trans (h_u_row h).symm)) j
theorem y_E2_1 : (y_E2 E f n i g).1 = E.1 := by
  unfold y_E2
  by_cases h : g < n
  · rw [if_pos h]; rfl
  · rw [if_neg h]; rfl
theorem y_E1_row {q : Nat} (h1 : q ≠ 13) (h2 : q ≠ 16) : (y_E1 E i g).2 q = E.2 q := (h_u_row h2).trans (h_u_row h1)
theorem y_E2_row {q : Nat} (h1 : q ≠ 13) (h2 : q ≠ 16) (h3 : q ≠ 14) : (y_E2 E f n i g).2 q = E.2 q := by
  unfold y_E2
  by_cases h : g < n
  · rw [if_pos h]; exact (h_u_row h3).trans (y_E1_row h1 h2)
  · rw [if_neg h]; exact y_E1_row h1 h2
theorem y_E3_1 : (y_E3 E f n i g).1 = E.1 := y_E2_1 (E := E)
theorem y_E3_row {q : Nat} (h1 : q ≠ 13) (h2 : q ≠ 16) (h3 : q ≠ 14) (h4 : q ≠ 12) : (y_E3 E f n i g).2 q = E.2 q := (y_Krow h4).trans (y_E2_row h1 h2 h3)
theorem y_E3a : (y_E3 E f n i g).2 12 i = y_kd f n i g := y_Kat
theorem y_lt (h : y_kd f n i g < 900) : g < n := by
  refine Decidable.byContradiction fun q => ?_
  have e : y_k0 f n g = 900 := if_neg q
  unfold y_kd at h
  rw [e] at h
  by_cases c : i = 400
  · rw [if_pos c, if_pos rfl] at h; exact absurd h (by decide)
  · rw [if_neg c] at h; exact absurd h (by decide)
theorem y_many (h : g < n) : (y_E3 E f n i g).2 14 i = nI (r_kd9 f n g).2 := by
  refine (congrFun (y_Krow (show (14 : Nat) ≠ 12 by decide)) i).trans ?_
  unfold y_E2
  rw [if_pos h]
  exact h_u_eq (A := (y_E1 E i g).2) (k := 14) (j := i)
theorem y_E1_13 : (y_E1 E i g).2 13 i = nI g := (congrFun (h_u_row (A := h_u E.2 13 i (nI g)) (k := 16) (j := i) (x := 0) (k' := 13) (by decide)) i).trans (h_u_eq (A := E.2) (k := 13) (j := i) (x := nI g))
theorem y_Erow {m q : Nat} (h : q ≠ 14) : (y_E E i m).2 q = E.2 q := h_u_row h
theorem y_from : (y_E3 E f n i g).2 13 i = nI g := by
  refine (congrFun (y_Krow (show (13 : Nat) ≠ 12 by decide)) i).trans ?_
  unfold y_E2
  by_cases h : g < n
  · rw [if_pos h]
    exact (congrFun (y_Erow (E := y_E1 E i g) (show (13 : Nat) ≠ 14 by decide)) i).trans y_E1_13
  · rw [if_neg h]
    exact y_E1_13
theorem r_kd9_le (h : g < n) : 1 ≤ (r_kd9 f n g).2 ∧ g + (r_kd9 f n g).2 ≤ n := by
  have h1 := k_run_le (q := k_isW) (f := f) (n - (g + 1)) (g + 1)
  have h2 := k_run_le (q := k_isD) (f := f) (n - (g + 1)) (g + 1)
  unfold r_kd9
  by_cases c1 : k_isL (f g) = true
  · rw [if_pos c1]
    show 1 ≤ r_kdL f n g - g ∧ g + (r_kdL f n g - g) ≤ n
    unfold r_kdL
    omega
  rw [if_neg c1]
  by_cases c2 : k_isD (f g) = true
  · rw [if_pos c2]
    show 1 ≤ r_kdD f n g - g ∧ g + (r_kdD f n g - g) ≤ n
    unfold r_kdD
    omega
  rw [if_neg c2]
  by_cases c3 : r_lng f n g = true
  · rw [if_pos c3]
    refine ⟨show 1 ≤ 2 by decide, ?_⟩
    have h9 : r_by f n (g + 1) = 61 := of_decide_eq_true (Bool.and_eq_true_iff.mp c3).2
    have : g + 1 < n := Decidable.byContradiction fun q => by rw [r_by_out q] at h9; exact absurd h9 (by decide)
    show g + 2 ≤ n
    omega
  · rw [if_neg c3]
    exact ⟨Nat.le_refl _, h⟩
end XCT
