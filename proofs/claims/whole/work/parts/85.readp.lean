section XOE
variable {E : rE} {od n m : Nat}
theorem o_E1_row {r : Nat} (c : r ≠ 10) : (o_E1 E od).2 r = E.2 r := by
  show h_u E.2 10 3 (nI (od + 1)) r = E.2 r
  rw [h_u_row c]
theorem o_E1_10 {j : Nat} (c : j ≠ 3) : (o_E1 E od).2 10 j = E.2 10 j := by
  show h_u E.2 10 3 (nI (od + 1)) 10 j = E.2 10 j
  rw [h_u_ne c]
theorem o_E2_row {r : Nat} (a : r ≠ 6) (c : r ≠ 10) : (o_E2 E od n).2 r = E.2 r := by
  show h_u (h_u E.2 10 3 (nI (od + 1))) 6 (o_p od) (nI n) r = E.2 r
  rw [h_u_row a, h_u_row c]
theorem o_E2_10 {j : Nat} (c : j ≠ 3) : (o_E2 E od n).2 10 j = E.2 10 j := by
  show h_u (h_u E.2 10 3 (nI (od + 1))) 6 (o_p od) (nI n) 10 j = E.2 10 j
  rw [h_u_row (by decide), h_u_ne c]
theorem o_E3_row {r : Nat} (a : r ≠ 6) (b : r ≠ 7) (c : r ≠ 10) : (o_E3 E od n m).2 r = E.2 r := by
  show h_u (h_u (h_u E.2 10 3 (nI (od + 1))) 6 (o_p od) (nI n)) 7 (o_p od) (nI m) r = E.2 r
  rw [h_u_row b, h_u_row a, h_u_row c]
theorem o_E3_10 {j : Nat} (c : j ≠ 3) : (o_E3 E od n m).2 10 j = E.2 10 j := by
  show h_u (h_u (h_u E.2 10 3 (nI (od + 1))) 6 (o_p od) (nI n)) 7 (o_p od) (nI m) 10 j = E.2 10 j
  rw [h_u_row (by decide), h_u_row (by decide), h_u_ne c]
end XOE
/-- what a book leaves of the tokens, of the counts -/
theorem q_ord_E {T : rT} {ft : rF} {q : rQ} {k : Int32} : (q_ord T ft q k).1.1.2.1 = q.1.2.1 ∧ (∀ r, r ≠ 6 → r ≠ 7 → r ≠ 10 → (q_ord T ft q k).1.1.2.2 r = q.1.2.2 r) ∧ ∀ j, j ≠ 3 → (q_ord T ft q k).1.1.2.2 10 j = q.1.2.2 10 j := by
  unfold q_ord
  by_cases c1 : r_isv k = true
  · rw [if_pos c1]
    by_cases c2 : (r_tg T (r_adv (r_role q.2 3)) k).2 = true
    · rw [if_pos c2]
      by_cases c3 : (r_wh T ft (r_tg T (r_adv (r_role q.2 3)) k).1).2 = true
      · rw [if_pos c3]
        exact ⟨rfl, fun r a b c => o_E3_row a b c, fun j h => o_E3_10 h⟩
      · rw [if_neg c3]
        exact ⟨rfl, fun r a b c => o_E2_row a c, fun j h => o_E2_10 h⟩
    · rw [if_neg c2]
      exact ⟨rfl, fun r a b c => o_E1_row c, fun j h => o_E1_10 h⟩
  · rw [if_neg c1]
    exact ⟨rfl, fun _ _ _ _ => rfl, fun _ _ => rfl⟩
theorem q_line_E {T : rT} {ft : rF} {q : rQ} : (q_line T ft q).1.1.2.1 = q.1.2.1 ∧ (∀ r, r ≠ 6 → r ≠ 7 → r ≠ 10 → (q_line T ft q).1.1.2.2 r = q.1.2.2 r) ∧ ∀ j, j ≠ 3 → (q_line T ft q).1.1.2.2 10 j = q.1.2.2 10 j := by
  unfold q_line
  by_cases c1 : T.1 q.2.1.1 = 0
  · rw [if_pos c1]; exact ⟨rfl, fun _ _ _ _ => rfl, fun _ _ => rfl⟩
  rw [if_neg c1]
  by_cases c2 : T.1 q.2.1.1 = 2
  · rw [if_pos c2]; exact ⟨rfl, fun _ _ _ _ => rfl, fun _ _ => rfl⟩
  · rw [if_neg c2]; exact q_ord_E
theorem q_bk_gd {T : rT} {N : Nat} {ft : rF} (hN : r_tok T N) (hg : r_gd N ft) : ∀ (w : Nat) (q : rQ), r_ok N q.2 → q.1.2.2 10 3 = nI q.1.1 → r_st N q.2 (q_bk T ft w q).1.2 ∧ (q_bk T ft w q).1.1.2.1 = q.1.2.1 ∧ (∀ r, r ≠ 6 → r ≠ 7 → r ≠ 10 → (q_bk T ft w q).1.1.2.2 r = q.1.2.2 r) ∧ ∀ j, j ≠ 3 → (q_bk T ft w q).1.1.2.2 10 j = q.1.2.2 10 j := by
  intro w
  induction w with
  | zero => intro q hk _; exact ⟨r_st_rf hk, rfl, fun _ _ _ _ => rfl, fun _ _ => rfl⟩
  | succ w ih =>
    intro q hk hod
    obtain ⟨⟨s1, -⟩, -, s4, s5⟩ := q_line_gd hN hg hk hod
    obtain ⟨e1, e2, e3⟩ := q_line_E (T := T) (ft := ft) (q := q)
    have hk1 := r_st_ok hk s1
    simp only [q_bk]
    by_cases c1 : T.1 q.2.1.1 = 900
    · rw [if_pos c1]; exact ⟨r_st_rf hk, rfl, fun _ _ _ _ => rfl, fun _ _ => rfl⟩
    rw [if_neg c1]
    by_cases c2 : (q_line T ft q).2 = true
    · rw [if_pos c2]
      by_cases c3 : T.1 (q_line T ft q).1.2.1.1 = 109
      · rw [if_pos c3]
        obtain ⟨a1, a2⟩ := r_ok_adv hN hk1 c3 (by decide)
        obtain ⟨b1, b2, b3, b4⟩ := ih ((q_line T ft q).1.1, r_adv (q_line T ft q).1.2) a1 s5
        exact ⟨r_st_tr s1 (r_st_tr a2 b1), b2.trans e1, fun r x y z => (b3 r x y z).trans (e2 r x y z), fun j h => (b4 j h).trans (e3 j h)⟩
      · rw [if_neg c3]; exact ⟨s1, e1, e2, e3⟩
    · rw [if_neg c2]; exact ⟨s1, e1, e2, e3⟩
def z_E (E : rE) : rE := (E.1, fun q => if q < 11 then fun _ => 0 else E.2 q)
def z_R (R : rS) : rS := (R.1, [], [], R.2.2.2.1, [])
def z_ea (E : rE) (x : Int32) : rE := (((E.1.1.1, E.1.1.2.1, x), E.1.2), E.2)
def rd_C (n : Nat) (E : rE) (R : rS) : rE × rS := y_lp ((z_E E).2 20) n 401 0 0 (z_E E, z_R R)
def rd_Q (C : rE × rS) : rQ := ((0, C.1), ((0, 0), C.2.2))
def rd_B (C : rE × rS) : rQ × Bool := q_bk (tE C.1) (r_testN (tE C.1) 8) 401 (rd_Q C)
def rd_L (q : rQ) : Int32 × Nat × rE := e_lp q.2 q.2.1.1 0 q.1.2
def rd_F (q : rQ) (L : Int32 × Nat × rE) : Int32 × rE × rS :=
  if L.1 = 0 then (0, L.2.2, (q.2.1, f_ls (L.2.2.2 16) q.2.2.2.1 q.2.2.1, q.2.2.2)) else (L.1, z_ea L.2.2 (L.2.2.2 13 L.2.1), ((L.2.1, q.2.1.2), q.2.2))
def rd_S (b : rQ × Bool) : Int32 × rE × rS := if b.2 = true then rd_F b.1 (rd_L b.1) else (1, z_ea b.1.1.2 (b.1.1.2.2 13 b.1.2.1.1), b.1.2)
/-- all that read does -/
def rd_R (n : Nat) (E : rE) (R : rS) : Int32 × rE × rS := rd_S (rd_B (rd_C n E R))
section XRD5
variable {M : x_M} {o r : Nat} {E : rE} {R : rS}
theorem prG_z {E : rE} {R : rS} : ∀ q, q < 11 → prG (z_E E) (z_R R) q = h_zz q := by
  intro q hq
  funext j
  unfold prG
  by_cases c8 : q = 8
  · rw [if_pos c8]; rfl
  rw [if_neg c8]
  by_cases c9 : q = 9
  · rw [if_pos c9]; rfl
  rw [if_neg c9]
  by_cases c10 : q = 10
  · rw [if_pos c10]
    show (if j = 4 then nI 0 else if j = 5 then nI 0 else (0 : Int32)) = 0
    by_cases d : j = 4
    · rw [if_pos d]; rfl
    rw [if_neg d]
    by_cases d5 : j = 5
    · rw [if_pos d5]; rfl
    · rw [if_neg d5]
  · rw [if_neg c10]
    show (if q < 11 then (fun _ => (0 : Int32)) else E.2 q) j = 0
    rw [if_pos hq]
theorem pm_z {E : rE} {R : rS} : pmT r (prG (z_E E) (z_R R)) = pmT r h_zz := by
  have e := prG_z (E := E) (R := R)
  unfold pmT
  rw [e 0 (by decide), e 1 (by decide), e 2 (by decide), e 3 (by decide), e 4 (by decide), e 5 (by decide), e 6 (by decide), e 7 (by decide), e 8 (by decide), e 9 (by decide), e 10 (by decide)]
/-- a new Plan has been made and is being read into -/
theorem rd_new {rd0 : Nat} {c : x_E} (hb : x_bk M o (moT o rd0 E R)) (ho : o + 7 ≤ M.2) : x_bk (x_ov (x_nx (x_nw M c) 10) M.2 (pmT M.2 h_zz)) o (moT o rd0 E R) ∧ x_st (x_ov (x_nx (x_nw M c) 10) M.2 (pmT M.2 h_zz)) o (.inr (11, (mdF E.1.1.1 E.1.1.2.1 E.1.1.2.2 (nI R.1.1) (nI R.1.2) (o + 1) (o + 2) (o + 3) (o + 4) (o + 5) (o + 6) E.1.2.1 rd0 E.1.2.2.1 E.1.2.2.2.1 E.1.2.2.2.2).set 12 (.ref M.2))) = rH (x_nx M 11) o M.2 (z_E E) (z_R R) := by
  have e0 : x_ov (x_nx (x_nw M c) 10) M.2 (pmT M.2 h_zz) = x_ov (x_nx M 11) M.2 (pmT M.2 h_zz) := x_nx_0 (k := 10) (Nat.le_of_ble_eq_true rfl)
  rw [e0]
  have h1 : x_bk (x_ov (x_nx M 11) M.2 (pmT M.2 h_zz)) o (moT o rd0 E R) := x_nx_far hb ho
  refine ⟨h1, ?_⟩
  have h2 := x_ov_self h1
  have h3 := x_st_ov (M := x_ov (x_nx M 11) M.2 (pmT M.2 h_zz)) (a := o) (L := moT o rd0 E R) (c := .inr (11, (mdF E.1.1.1 E.1.1.2.1 E.1.1.2.2 (nI R.1.1) (nI R.1.2) (o + 1) (o + 2) (o + 3) (o + 4) (o + 5) (o + 6) E.1.2.1 rd0 E.1.2.2.1 E.1.2.2.2.1 E.1.2.2.2.2).set 12 (.ref M.2))) 0 (Nat.le_of_ble_eq_true rfl)
  rw [h2] at h3
  refine h3.trans ?_
  have h4 : (moT o rd0 E R).set 0 (.inr (11, (mdF E.1.1.1 E.1.1.2.1 E.1.1.2.2 (nI R.1.1) (nI R.1.2) (o + 1) (o + 2) (o + 3) (o + 4) (o + 5) (o + 6) E.1.2.1 rd0 E.1.2.2.1 E.1.2.2.2.1 E.1.2.2.2.2).set 12 (.ref M.2))) = moT o M.2 (z_E E) (z_R R) := rfl
  rw [h4]
  unfold rH
  rw [pm_z]
  exact x_ov_comm (Or.inr ho)
theorem rH_tk0 (hd : o + 7 ≤ r) : x_st (rH M o r E R) o (.inr (11, (mdF E.1.1.1 E.1.1.2.1 E.1.1.2.2 (nI R.1.1) (nI R.1.2) (o + 1) (o + 2) (o + 3) (o + 4) (o + 5) (o + 6) E.1.2.1 r E.1.2.2.1 E.1.2.2.2.1 E.1.2.2.2.2).set 9 (.int (nI 0)))) = rH M o r E ((0, R.1.2), R.2) := rH_so hd 0 E ((0, R.1.2), R.2) rfl rfl (by decide)
theorem rH_dp0 (hd : o + 7 ≤ r) : x_st (rH M o r E R) o (.inr (11, (mdF E.1.1.1 E.1.1.2.1 E.1.1.2.2 (nI R.1.1) (nI R.1.2) (o + 1) (o + 2) (o + 3) (o + 4) (o + 5) (o + 6) E.1.2.1 r E.1.2.2.1 E.1.2.2.2.1 E.1.2.2.2.2).set 10 (.int (nI 0)))) = rH M o r E ((R.1.1, 0), R.2) := rH_so hd 0 E ((R.1.1, 0), R.2) rfl rfl (by decide)
theorem rH_ea (hd : o + 7 ≤ r) {x : Int32} : x_st (rH M o r E R) o (.inr (11, (mdF E.1.1.1 E.1.1.2.1 E.1.1.2.2 (nI R.1.1) (nI R.1.2) (o + 1) (o + 2) (o + 3) (o + 4) (o + 5) (o + 6) E.1.2.1 r E.1.2.2.1 E.1.2.2.2.1 E.1.2.2.2.2).set 3 (.int x))) = rH M o r (z_ea E x) R := rH_so hd 0 (z_ea E x) R rfl rfl (by decide)
theorem rH_cs {p : Nat} {x : Int32} (hp : p < R.2.1.length) : x_st (rH M o r E R) (r + 9) (.inl (0, 800, .inl (upd (lr R.2.1) p x))) = rH M o r E (R.1, R.2.1.set p x, R.2.2) := by
  rw [lr_set hp]
  refine rH_sr 9 E (R.1, R.2.1.set p x, R.2.2) ?_ rfl (by decide)
  have e2 : ∀ q, q ≠ 8 → prG E (R.1, R.2.1.set p x, R.2.2) q = prG E R q := by
    intro q h
    unfold prG
    rw [if_neg h, if_neg h]
    show (if q = 9 then lrN R.2.2.1 else if q = 10 then fun j => if j = 4 then nI (R.2.1.set p x).length else if j = 5 then nI R.2.2.1.length else E.2 10 j else E.2 q) = _
    rw [List.length_set]
  have e3 : prG E (R.1, R.2.1.set p x, R.2.2) 8 = lr (R.2.1.set p x) := rfl
  unfold pmT
  rw [e2 0 (by decide), e2 1 (by decide), e2 2 (by decide), e2 3 (by decide), e2 4 (by decide), e2 5 (by decide), e2 6 (by decide), e2 7 (by decide), e2 9 (by decide), e2 10 (by decide), e3]
  rfl
end XRD5
theorem tk_succ {l : List Nat} {k : Nat} (h : k < l.length) : l.take (k + 1) = l.take k ++ [l.getD k 0] := by
  rw [List.take_succ]
  congr 1
  simp [List.getD, List.getElem?_eq_getElem h]
/-- a place that isn't filled yet still holds its token -/
theorem f_next {m : Nat → Int32} {op : List Nat} {c0 : List Int32} {t : Nat} (h1 : op.Pairwise (· < ·)) (h2 : ∀ p, p ∈ op → p < c0.length ∧ ∃ j, j < t ∧ c0.getD p 0 = nI j) {k : Nat} (hk : k < op.length) : op.getD k 0 < c0.length ∧ ∃ j, j < t ∧ (f_ls m (op.take k) c0).getD (op.getD k 0) 0 = nI j := by
  have e : op.getD k 0 = op[k] := by simp [List.getD, List.getElem?_eq_getElem hk]
  have hm : op.getD k 0 ∈ op := by rw [e]; exact List.getElem_mem hk
  obtain ⟨a, j, b, c⟩ := h2 _ hm
  refine ⟨a, j, b, ?_⟩
  rw [f_ls_at m (op.take k) c0 (fun p hp => ?_)]
  · exact c
  · obtain ⟨i, hi, hi2⟩ := List.mem_take_iff_getElem.mp hp
    have := List.pairwise_iff_getElem.mp h1 i k (by omega) hk (by omega)
    rw [e]
    omega
