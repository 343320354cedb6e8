/-- an entry of a test's code: kind as the class numbers it, detail, the token that names it -/
abbrev rI : Type := Nat × Int32 × Option Nat
/-- token, depth; code, places to be filled later, roles; the entries of the code -/
abbrev rS : Type := (Nat × Nat) × List Int32 × List Nat × (Nat → Int32) × List rI
/-- what stays: thrown, size, errorAt; plan, stack, s, other; rows: 0 to 7 of the plan being read, 10 its counts; 12 kind, 13 from, 14 many, 16 meant, 20 the tape -/
abbrev rE : Type := ((Int32 × Int32 × Int32) × (Nat × Nat × Nat × Nat)) × HS
def lr (l : List Int32) : Nat → Int32 := fun j => l.getD j 0
def lrN (l : List Nat) : Nat → Int32 := fun j => nI (l.getD j 0)
theorem lr_nil : lr [] = fun _ => 0 := rfl
theorem lr_app {l : List Int32} {x : Int32} : upd (lr l) l.length x = lr (l ++ [x]) := by
  funext j
  unfold upd lr
  by_cases h : j = l.length
  · subst h
    simp
  · rw [if_neg h]
    by_cases h1 : j < l.length
    · simp [List.getD, List.getElem?_append_left h1]
    · have e1 : l[j]? = none := List.getElem?_eq_none (by omega)
      have e2 : (l ++ [x])[j]? = none := List.getElem?_eq_none (by simp; omega)
      simp [List.getD, e1, e2]
theorem lrN_app {l : List Nat} {x : Nat} : upd (lrN l) l.length (nI x) = lrN (l ++ [x]) := by
  funext j
  unfold upd lrN
  by_cases h : j = l.length
  · subst h
    simp
  · rw [if_neg h]
    by_cases h1 : j < l.length
    · simp [List.getD, List.getElem?_append_left h1]
    · have e1 : l[j]? = none := List.getElem?_eq_none (by omega)
      have e2 : (l ++ [x])[j]? = none := List.getElem?_eq_none (by simp; omega)
      simp [List.getD, e1, e2]
def prG (E : rE) (R : rS) : HS := fun q => if q = 8 then lr R.2.1 else if q = 9 then lrN R.2.2.1 else if q = 10 then (fun j => if j = 4 then nI R.2.1.length else if j = 5 then nI R.2.2.1.length else E.2 10 j) else E.2 q
def moT (o r : Nat) (E : rE) (R : rS) : List x_E :=
  [.inr (11, mdF E.1.1.1 E.1.1.2.1 E.1.1.2.2 (nI R.1.1) (nI R.1.2) (o + 1) (o + 2) (o + 3) (o + 4) (o + 5) (o + 6) E.1.2.1 r E.1.2.2.1 E.1.2.2.2.1 E.1.2.2.2.2),
   .inl (0, 2000, .inl (E.2 20)), .inl (0, 401, .inl (E.2 12)), .inl (0, 401, .inl (E.2 13)), .inl (0, 401, .inl (E.2 14)), .inl (0, 401, .inl R.2.2.2.1), .inl (0, 401, .inl (E.2 16))]
def rH (M : x_M) (o r : Nat) (E : rE) (R : rS) : x_M := x_ov (x_ov M o (moT o r E R)) r (pmT r (prG E R))
def rB (M : x_M) (o r : Nat) (E : rE) (R : rS) : Prop := x_bk M o (moT o r E R) ∧ x_bk M r (pmT r (prG E R))
section XREF
variable {M : x_M} {o r : Nat} {E E' : rE} {R R' : rS} {c : x_E}
theorem rH_r (j : Nat) (h : (pmT r (prG E R))[j]? = some c) : (rH M o r E R).1 (r + j) = some c := x_ovg j h
theorem rH_o (hd : o + 7 ≤ r) (j : Nat) (h : (moT o r E R)[j]? = some c) : (rH M o r E R).1 (o + j) = some c := by
  have hj : j < (moT o r E R).length := (List.getElem?_eq_some_iff.mp h).1
  have h7 : (moT o r E R).length = 7 := rfl
  exact (x_ov_out (Or.inl (by omega))).trans (x_ovg j h)
theorem rH_B (hd : o + 7 ≤ r) : rB (rH M o r E R) o r E R := ⟨fun j _ h => rH_o hd j h, fun j _ h => rH_r j h⟩
theorem rH_self (h : rB M o r E R) : rH M o r E R = M := by
  unfold rH
  rw [x_ov_self h.1, x_ov_self h.2]
theorem rH_H (hd : o + 7 ≤ r) : rH (rH M o r E R) o r E' R' = rH M o r E' R' := by
  have l1 : (moT o r E R).length = 7 := rfl
  have l2 : (moT o r E' R').length = 7 := rfl
  have l3 : (pmT r (prG E R)).length = 11 := rfl
  have l4 : (pmT r (prG E' R')).length = 11 := rfl
  refine Prod.ext (funext fun q => ?_) rfl
  simp only [rH, x_ov, l1, l2, l3, l4]
  by_cases h1 : r ≤ q ∧ q < r + 11
  · simp [h1]
  · by_cases h2 : o ≤ q ∧ q < o + 7
    · simp [h1, h2]
    · simp [h1, h2]
theorem rH_so (hd : o + 7 ≤ r) (j : Nat) (E' : rE) (R' : rS) (h1 : (moT o r E R).set j c = moT o r E' R') (h2 : pmT r (prG E R) = pmT r (prG E' R')) (hj : j < 7) : x_st (rH M o r E R) (o + j) c = rH M o r E' R' := by
  have l1 : (moT o r E R).length = 7 := rfl
  unfold rH
  rw [← h1, ← h2]
  refine Prod.ext (funext fun q => ?_) rfl
  have l3 : (pmT r (prG E R)).length = 11 := rfl
  simp only [x_st, x_ov, l1, l3, List.length_set]
  by_cases e : q = o + j
  · subst e
    have h3 : ¬ (r ≤ o + j ∧ o + j < r + 11) := by omega
    have h4 : o ≤ o + j ∧ o + j < o + 7 := by omega
    rw [if_pos rfl, if_neg h3, if_pos h4, Nat.add_sub_cancel_left, List.getElem?_set_self (by omega)]
  · rw [if_neg e]
    by_cases h3 : r ≤ q ∧ q < r + 11
    · rw [if_pos h3, if_pos h3]
    · rw [if_neg h3, if_neg h3]
      by_cases h4 : o ≤ q ∧ q < o + 7
      · rw [if_pos h4, if_pos h4, List.getElem?_set_ne (by omega)]
      · rw [if_neg h4, if_neg h4]
theorem rH_sr (j : Nat) (E' : rE) (R' : rS) (h1 : (pmT r (prG E R)).set j c = pmT r (prG E' R')) (h2 : moT o r E R = moT o r E' R') (hj : j < 11) : x_st (rH M o r E R) (r + j) c = rH M o r E' R' := by
  unfold rH
  rw [x_st_ov j (show j < (pmT r (prG E R)).length from hj), h1, h2]
theorem rH_g0 (hd : o + 7 ≤ r) : (rH M o r E R).1 o = some (.inr (11, (mdF E.1.1.1 E.1.1.2.1 E.1.1.2.2 (nI R.1.1) (nI R.1.2) (o + 1) (o + 2) (o + 3) (o + 4) (o + 5) (o + 6) E.1.2.1 r E.1.2.2.1 E.1.2.2.2.1 E.1.2.2.2.2))) := rH_o hd 0 rfl
theorem rH_g1 (hd : o + 7 ≤ r) : (rH M o r E R).1 (o + 1) = some (.inl (0, 2000, .inl (E.2 20))) := rH_o hd 1 rfl
theorem rH_g2 (hd : o + 7 ≤ r) : (rH M o r E R).1 (o + 2) = some (.inl (0, 401, .inl (E.2 12))) := rH_o hd 2 rfl
theorem rH_g3 (hd : o + 7 ≤ r) : (rH M o r E R).1 (o + 3) = some (.inl (0, 401, .inl (E.2 13))) := rH_o hd 3 rfl
theorem rH_g4 (hd : o + 7 ≤ r) : (rH M o r E R).1 (o + 4) = some (.inl (0, 401, .inl (E.2 14))) := rH_o hd 4 rfl
theorem rH_g5 (hd : o + 7 ≤ r) : (rH M o r E R).1 (o + 5) = some (.inl (0, 401, .inl (R.2.2.2.1))) := rH_o hd 5 rfl
theorem rH_g6 (hd : o + 7 ≤ r) : (rH M o r E R).1 (o + 6) = some (.inl (0, 401, .inl (E.2 16))) := rH_o hd 6 rfl
theorem rH_p0 : (rH M o r E R).1 r = some (.inr (9, [.int (E.2 10 0), .int (E.2 10 1), .ref (r + 1), .ref (r + 2), .ref (r + 3), .ref (r + 4), .int (E.2 10 2), .int (E.2 10 3), .ref (r + 5), .ref (r + 6), .ref (r + 7), .ref (r + 8), .ref (r + 9), .int (nI R.2.1.length), .ref (r + 10), .int (nI R.2.2.1.length)])) := rH_r 0 rfl
theorem rH_adv (hd : o + 7 ≤ r) : x_st (rH M o r E R) o (.inr (11, (mdF E.1.1.1 E.1.1.2.1 E.1.1.2.2 (nI R.1.1) (nI R.1.2) (o + 1) (o + 2) (o + 3) (o + 4) (o + 5) (o + 6) E.1.2.1 r E.1.2.2.1 E.1.2.2.2.1 E.1.2.2.2.2).set 9 (.int (nI (R.1.1 + 1))))) = rH M o r E (((R.1.1 + 1, R.1.2), R.2)) := rH_so hd 0 E (((R.1.1 + 1, R.1.2), R.2)) rfl rfl (by decide)
theorem rH_dn (hd : o + 7 ≤ r) : x_st (rH M o r E R) o (.inr (11, (mdF E.1.1.1 E.1.1.2.1 E.1.1.2.2 (nI R.1.1) (nI R.1.2) (o + 1) (o + 2) (o + 3) (o + 4) (o + 5) (o + 6) E.1.2.1 r E.1.2.2.1 E.1.2.2.2.1 E.1.2.2.2.2).set 10 (.int (nI (R.1.2 + 1))))) = rH M o r E (((R.1.1, R.1.2 + 1), R.2)) := rH_so hd 0 E (((R.1.1, R.1.2 + 1), R.2)) rfl rfl (by decide)
theorem rH_up (hd : o + 7 ≤ r) : x_st (rH M o r E R) o (.inr (11, (mdF E.1.1.1 E.1.1.2.1 E.1.1.2.2 (nI R.1.1) (nI R.1.2) (o + 1) (o + 2) (o + 3) (o + 4) (o + 5) (o + 6) E.1.2.1 r E.1.2.2.1 E.1.2.2.2.1 E.1.2.2.2.2).set 10 (.int (nI (R.1.2 - 1))))) = rH M o r E (((R.1.1, R.1.2 - 1), R.2)) := rH_so hd 0 E (((R.1.1, R.1.2 - 1), R.2)) rfl rfl (by decide)
theorem rH_role (hd : o + 7 ≤ r) {a : Int32} : x_st (rH M o r E R) (o + 5) (.inl (0, 401, .inl (upd R.2.2.2.1 R.1.1 a))) = rH M o r E (R.1, R.2.1, R.2.2.1, upd R.2.2.2.1 R.1.1 a, R.2.2.2.2) := rH_so hd 5 E (R.1, R.2.1, R.2.2.1, upd R.2.2.2.1 R.1.1 a, R.2.2.2.2) rfl rfl (by decide)
end XREF
/-- what a number's token is worth -/
def r_nmF (f : Nat → Int32) (p : Nat) : Nat → Int32
  | 0 => 0
  | m + 1 => 10 * r_nmF f p m + f (p + m) - 48
def r_num (E : rE) (i : Nat) : Int32 := r_nmF (E.2 20) (E.2 13 i).toNatClampNeg (E.2 14 i).toNatClampNeg
/-- the signs of a token lie in the tape -/
def r_in (E : rE) (i : Nat) : Prop := ∃ p m, E.2 13 i = nI p ∧ E.2 14 i = nI m ∧ p + m ≤ 2000
/-- what the reading needs of the tokens: kinds, numbers -/
abbrev rT : Type := (Nat → Int32) × (Nat → Int32)
def tE (E : rE) : rT := (E.2 12, r_num E)
def r_tk (R : rS) : Nat := R.1.1
def r_kd (T : rT) (R : rS) : Int32 := T.1 R.1.1
def r_adv (R : rS) : rS := ((R.1.1 + 1, R.1.2), R.2)
def r_eat (T : rT) (R : rS) (k : Int32) : rS := if T.1 R.1.1 = k then r_adv R else R
def r_role (R : rS) (a : Int32) : rS := (R.1, R.2.1, R.2.2.1, upd R.2.2.2.1 R.1.1 a, R.2.2.2.2)
def r_eatAs (T : rT) (R : rS) (k a : Int32) : rS := r_eat T (r_role R a) k
def r_put (R : rS) (x : Int32) : rS := (R.1, R.2.1 ++ [x], R.2.2)
def r_opn (R : rS) : rS := (R.1, R.2.1, R.2.2.1 ++ [R.2.1.length], R.2.2.2)
def r_gh (R : rS) (i : rI) : rS := (R.1, R.2.1, R.2.2.1, R.2.2.2.1, R.2.2.2.2 ++ [i])
def r_deep (R : rS) : rS := if R.1.2 = 8 then R else ((R.1.1 + 1, R.1.2 + 1), R.2)
def r_up (R : rS) : rS := ((R.1.1, R.1.2 - 1), R.2)
def r_name (T : rT) (R : rS) (a : Int32) : rS := r_eatAs T (r_put (r_opn R) (nI R.1.1)) 40 a
def r_dv (k : Int32) : Bool := !decide (k < 11) && !decide (13 < k)
abbrev rF : Type := rS → rS × Bool
def r_vn (T : rT) (R : rS) (k : Int32) : rS × Bool :=
  if T.1 (r_adv (r_put R k)).1.1 = 15 then (r_gh (r_name T (r_eat T (r_adv (r_put R k)) 15) (if k = 1 then 5 else 6)) (k.toNatClampNeg + 256, 0, some (R.1.1 + 2)), decide (T.1 (R.1.1 + 2) = 40)) else (r_eat T (r_adv (r_put R k)) 15, false)
def r_ins (T : rT) (fs : rF) (R : rS) (k : Int32) (two : Bool) : rS × Bool :=
  if T.1 R.1.1 = 90 then
    if R.1.2 = 8 then (r_deep R, false)
    else if (fs (r_deep R)).2 = true then
      if two = true then
        if T.1 (fs (r_deep R)).1.1.1 = 94 then
          if (fs (r_eat T (fs (r_deep R)).1 94)).2 = true then (r_eat T (r_gh (r_put (r_up (fs (r_eat T (fs (r_deep R)).1 94)).1) k) (k.toNatClampNeg + 256, 0, none)) 91, decide (T.1 (fs (r_eat T (fs (r_deep R)).1 94)).1.1.1 = 91)) else ((fs (r_eat T (fs (r_deep R)).1 94)).1, false)
        else (r_eat T (fs (r_deep R)).1 94, false)
      else (r_eat T (r_up (fs (r_deep R)).1) 91, decide (T.1 (fs (r_deep R)).1.1.1 = 91))
    else ((fs (r_deep R)).1, false)
  else (R, false)
def r_val (T : rT) (fv fs : rF) (R : rS) : rS × Bool :=
  if T.1 R.1.1 = 41 then (r_adv (r_gh (r_put (r_put R 32) (T.2 R.1.1)) (3, T.2 R.1.1, none)), true)
  else if r_dv (T.1 R.1.1) = true then (r_adv (r_gh (r_put R (T.1 R.1.1)) ((T.1 R.1.1).toNatClampNeg + 256, 0, none)), true)
  else if T.1 R.1.1 = 1 then r_vn T R (T.1 R.1.1)
  else if T.1 R.1.1 = 14 then r_vn T R (T.1 R.1.1)
  else if T.1 R.1.1 = 95 then
    if R.1.2 = 8 then (r_deep R, false)
    else if (fv (r_deep R)).2 = true then (r_gh (r_put (r_up (fv (r_deep R)).1) 33) (4, 0, none), true)
    else ((fv (r_deep R)).1, false)
  else if T.1 R.1.1 = 20 then r_ins T fs (r_eat T R 20) (T.1 R.1.1) true
  else if T.1 R.1.1 = 21 then r_ins T fs (r_eat T (r_eat T R 20) 21) (T.1 R.1.1) true
  else r_ins T fs (r_eat T (r_eat T R 20) 21) (T.1 R.1.1) false
/-- a loop over two operators: their signs, what is put, how the class calls them -/
def r_lpb (T : rT) (k1 k2 p1 p2 : Int32) (n1 n2 : Nat) (f : rF) : Nat → rS → rS × Bool
  | 0, R => (R, true)
  | w + 1, R => if T.1 R.1.1 = k1 then (if (f (r_adv R)).2 = true then r_lpb T k1 k2 p1 p2 n1 n2 f w (r_gh (r_put (f (r_adv R)).1 p1) (n1, 0, none)) else ((f (r_adv R)).1, false))
    else if T.1 R.1.1 = k2 then (if (f (r_adv R)).2 = true then r_lpb T k1 k2 p1 p2 n1 n2 f w (r_gh (r_put (f (r_adv R)).1 p2) (n2, 0, none)) else ((f (r_adv R)).1, false))
    else (R, true)
def r_prod (T : rT) (fv : rF) (R : rS) : rS × Bool := if (fv R).2 = true then r_lpb T 92 97 36 37 42 47 fv 401 (fv R).1 else ((fv R).1, false)
def r_sum (T : rT) (fv : rF) (R : rS) : rS × Bool := if (r_prod T fv R).2 = true then r_lpb T 93 95 34 35 43 45 (r_prod T fv) 401 (r_prod T fv R).1 else ((r_prod T fv R).1, false)
/-- how two sums are compared: what is put, the class's kind -/
def r_how (k : Int32) : Int32 := if k = 110 then 38 else if k = 112 then 39 else if k = 111 then 42 else if k = 300 then 43 else if k = 301 then 44 else -1
def r_hwn (k : Int32) : Nat := if k = 110 then 60 else if k = 112 then 62 else if k = 111 then 61 else if k = 300 then 188 else 190
def r_cmp (T : rT) (fs : rF) (R : rS) : rS × Bool :=
  if (fs R).2 = true then
    if r_how (T.1 (fs R).1.1.1) = -1 then ((fs R).1, false)
    else if (fs (r_adv (fs R).1)).2 = true then (r_gh (r_put (fs (r_adv (fs R).1)).1 (r_how (T.1 (fs R).1.1.1))) (r_hwn (T.1 (fs R).1.1.1), 0, none), true)
    else ((fs (r_adv (fs R).1)).1, false)
  else ((fs R).1, false)
def r_awk (T : rT) (R : rS) : rS × Bool := if T.1 (r_put R 16).1.1 = 9 then (r_gh (r_adv (r_put (r_put R 16) 8)) (272, 8, none), true) else (r_gh (r_name T (r_put R 16) 5) (272, 0, some R.1.1), decide (T.1 R.1.1 = 40))
def r_single (T : rT) (fo ft fs : rF) (R : rS) : rS × Bool :=
  if T.1 R.1.1 = 17 then
    if R.1.2 = 8 then (r_deep R, false)
    else if (fo (r_deep R)).2 = true then (r_gh (r_put (r_up (fo (r_deep R)).1) 17) (273, 0, none), true)
    else ((fo (r_deep R)).1, false)
  else if T.1 R.1.1 = 141 then
    if R.1.2 = 8 then (r_deep R, false)
    else if (ft (r_deep R)).2 = true then (r_eat T (r_up (ft (r_deep R)).1) 143, decide (T.1 (ft (r_deep R)).1.1.1 = 143))
    else ((ft (r_deep R)).1, false)
  else if T.1 R.1.1 = 16 then r_awk T (r_eat T R 16)
  else r_cmp T fs (r_eat T R 16)
def r_lpa (T : rT) (k1 : Int32) (n1 : Nat) (f : rF) : Nat → rS → rS × Bool
  | 0, R => (R, true)
  | w + 1, R => if T.1 R.1.1 = k1 then (if (f (r_eat T R k1)).2 = true then r_lpa T k1 n1 f w (r_gh (r_put (f (r_eat T R k1)).1 k1) (n1, 0, none)) else ((f (r_eat T R k1)).1, false)) else (r_eat T R k1, true)
def r_both (T : rT) (fo : rF) (R : rS) : rS × Bool := if (fo R).2 = true then r_lpa T 18 274 fo 401 (fo R).1 else ((fo R).1, false)
def r_test (T : rT) (fo : rF) (R : rS) : rS × Bool := if (r_both T fo R).2 = true then r_lpa T 19 275 (r_both T fo) 401 (r_both T fo R).1 else ((r_both T fo R).1, false)
/-- the tokens: N of them, then the end or a wrong one -/
def r_tok (T : rT) (N : Nat) : Prop := N ≤ 400 ∧ (∀ i, i < N → T.1 i < 900) ∧ ¬ T.1 N < 900
/-- a state that can be: where it stands, how long its rows are -/
def r_ok (N : Nat) (R : rS) : Prop := R.1.1 ≤ N ∧ R.1.2 ≤ 8 ∧ R.2.1.length ≤ 2 * R.1.1 ∧ R.2.2.1.length ≤ R.1.1
def r_st (N : Nat) (R R' : rS) : Prop := R.1.1 ≤ R'.1.1 ∧ R'.1.1 ≤ N ∧ R'.1.2 ≤ 8 ∧ R'.2.1.length + 2 * R.1.1 ≤ R.2.1.length + 2 * R'.1.1 ∧ R'.2.2.1.length + R.1.1 ≤ R.2.2.1.length + R'.1.1
/-- a way of reading that keeps all that; where it succeeds it has gone on, and the depth is as ahead -/
def r_gd (N : Nat) (f : rF) : Prop := ∀ R, r_ok N R → r_st N R (f R).1 ∧ ((f R).2 = true → R.1.1 < (f R).1.1.1 ∧ (f R).1.1.2 = R.1.2)
theorem r_st_ok {N : Nat} {R R' : rS} (h : r_ok N R) (s : r_st N R R') : r_ok N R' := by
  obtain ⟨a1, a2, a3, a4⟩ := h
  obtain ⟨b1, b2, b3, b4, b5⟩ := s
  exact ⟨b2, b3, by omega, by omega⟩
theorem r_st_tr {N : Nat} {R R' R'' : rS} (s : r_st N R R') (t : r_st N R' R'') : r_st N R R'' := by
  obtain ⟨b1, b2, b3, b4, b5⟩ := s
  obtain ⟨c1, c2, c3, c4, c5⟩ := t
  exact ⟨by omega, c2, c3, by omega, by omega⟩
theorem r_st_rf {N : Nat} {R : rS} (h : r_ok N R) : r_st N R R := ⟨Nat.le_refl _, h.1, h.2.1, Nat.le_refl _, Nat.le_refl _⟩
