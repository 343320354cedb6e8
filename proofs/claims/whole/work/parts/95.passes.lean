def rf (g : Nat → Int32) : rS := ((0, 0), [], [], g, [])
theorem e_at_rf {E : rE} {R : rS} {i : Nat} : e_at E R i = e_at E (rf R.2.2.2.1) i := rfl
theorem e_lp_rf {R : rS} : ∀ (w i : Nat) (E : rE), e_lp R w i E = e_lp (rf R.2.2.2.1) w i E := by
  intro w
  induction w with
  | zero => intro i E; rfl
  | succ w ih =>
    intro i E
    simp only [e_lp]
    rw [← e_at_rf, ih]
/-- the second pass over the tokens ahead of t, by the roles g -/
def P2 (E : rE) (g : Nat → Int32) (t : Nat) : Int32 × Nat × rE := e_lp (rf g) t 0 E
theorem e_lp_snoc {R : rS} : ∀ (w i : Nat) (E : rE), e_lp R (w + 1) i E = if (e_lp R w i E).1 = 0 then (if (e_at (e_lp R w i E).2.2 R (i + w)).1 = 0 then (0, i + w + 1, (e_at (e_lp R w i E).2.2 R (i + w)).2) else ((e_at (e_lp R w i E).2.2 R (i + w)).1, i + w, (e_at (e_lp R w i E).2.2 R (i + w)).2)) else e_lp R w i E := by
  intro w
  induction w with
  | zero => intro i E; rfl
  | succ w ih =>
    intro i E
    have e1 : e_lp R (w + 1 + 1) i E = if (e_at E R i).1 = 0 then e_lp R (w + 1) (i + 1) (e_at E R i).2 else ((e_at E R i).1, i, (e_at E R i).2) := rfl
    have e2 : e_lp R (w + 1) i E = if (e_at E R i).1 = 0 then e_lp R w (i + 1) (e_at E R i).2 else ((e_at E R i).1, i, (e_at E R i).2) := rfl
    by_cases c : (e_at E R i).1 = 0
    · rw [if_pos c] at e1 e2
      rw [e1, e2, ih (i + 1) (e_at E R i).2, show i + 1 + w = i + (w + 1) by omega]
    · rw [if_neg c] at e1 e2
      rw [e1, e2]
      exact (if_neg c).symm
theorem P2_bad {E : rE} {g : Nat → Int32} {t : Nat} (h : ¬ (P2 E g t).1 = 0) : P2 E g (t + 1) = P2 E g t := by
  unfold P2 at h ⊢
  rw [e_lp_snoc, if_neg h]
theorem P2_ok {E B : rE} {g : Nat → Int32} {t : Nat} (h : P2 E g t = (0, t, B)) : P2 E g (t + 1) = if (e_at B (rf g) t).1 = 0 then (0, t + 1, (e_at B (rf g) t).2) else ((e_at B (rf g) t).1, t, (e_at B (rf g) t).2) := by
  unfold P2 at h ⊢
  rw [e_lp_snoc, h, if_pos rfl, Nat.zero_add]
theorem r_tdl_loc {E : rE} {g g' : Nat → Int32} {i : Nat} {a : Int32} : ∀ (w k n : Nat), (∀ j, k ≤ j → j < k + w → g j = g' j) → r_tdl E g i a w k n = r_tdl E g' i a w k n := by
  intro w
  induction w with
  | zero => intro k n _; rfl
  | succ w ih =>
    intro k n h
    simp only [r_tdl]
    rw [h k (Nat.le_refl _) (by omega), ih (k + 1) (n + 1) (fun j a b => h j (by omega) (by omega)), ih (k + 1) n (fun j a b => h j (by omega) (by omega))]
theorem r_tdl_skip {E : rE} {g : Nat → Int32} {i : Nat} {a : Int32} : ∀ (w k n : Nat), g (k + w) ≠ a → r_tdl E g i a (w + 1) k n = r_tdl E g i a w k n := by
  intro w
  induction w with
  | zero => intro k n h; simp only [r_tdl]; rw [if_neg (show ¬ g k = a from h)]
  | succ w ih =>
    intro k n h
    have e : k + (w + 1) = k + 1 + w := by omega
    rw [e] at h
    have e1 : r_tdl E g i a (w + 1 + 1) k n = if g k = a then (if r_same E k i = true then nI n else r_tdl E g i a (w + 1) (k + 1) (n + 1)) else r_tdl E g i a (w + 1) (k + 1) n := rfl
    have e2 : r_tdl E g i a (w + 1) k n = if g k = a then (if r_same E k i = true then nI n else r_tdl E g i a w (k + 1) (n + 1)) else r_tdl E g i a w (k + 1) n := rfl
    rw [e1, e2, ih (k + 1) (n + 1) h, ih (k + 1) n h]
theorem r_tdl_E {E B : rE} (h13 : B.2 13 = E.2 13) (h14 : B.2 14 = E.2 14) (h20 : B.2 20 = E.2 20) {g : Nat → Int32} {i : Nat} {a : Int32} : ∀ (w k n : Nat), r_tdl B g i a w k n = r_tdl E g i a w k n := by
  have hs : ∀ i j, r_same B i j = r_same E i j := fun i j => by unfold r_same; rw [h13, h14, h20]
  intro w
  induction w with
  | zero => intro k n; rfl
  | succ w ih =>
    intro k n
    simp only [r_tdl]
    rw [hs, ih, ih]
theorem e_at_loc {E : rE} {g g' : Nat → Int32} {i : Nat} (h : ∀ k, k ≤ i → g k = g' k) : e_at E (rf g) i = e_at E (rf g') i := by
  have h0 : (rf g).2.2.2.1 i = (rf g').2.2.2.1 i := h i (Nat.le_refl _)
  have h1 : ∀ a, r_tld E (rf g) i a = r_tld E (rf g') i a := fun a => r_tdl_loc i 0 0 (fun j _ hj => h j (by omega))
  unfold e_at r_new r_lk e_np e_of
  rw [h0, h1 1, h1 2, h1 (e_a7 E i)]
theorem P2_loc {E : rE} {g g' : Nat → Int32} : ∀ t, (∀ k, k < t → g k = g' k) → P2 E g t = P2 E g' t := by
  intro t
  induction t with
  | zero => intro _; rfl
  | succ t ih =>
    intro h
    have i1 := ih (fun k hk => h k (by omega))
    unfold P2 at i1 ⊢
    rw [e_lp_snoc, e_lp_snoc, i1, Nat.zero_add, e_at_loc (g := g) (g' := g') (fun k hk => h k (by omega))]
section XSY
variable {D : tK} {S : tS} {j : Nat}
theorem t_adv_11 (h0 : j ≠ 0) (h1 : j ≠ 1) (h2 : j ≠ 2) : (t_adv D S).1 11 j = S.1 11 j := by
  show h_u (h_u (h_u S.1 11 0 (S.1 11 0 + 1)) 11 1 (rgk 401 D.2.2.1 (S.1 11 1) (S.1 11 0 + 1))) 11 2 (rgk 401 D.2.2.2.1 (S.1 11 2) (S.1 11 0 + 1)) 11 j = _
  rw [h_u_ne h2, h_u_ne h1, h_u_ne h0]
theorem t_adv_row {r : Nat} (h : r ≠ 11) : (t_adv D S).1 r = S.1 r := by
  show h_u (h_u (h_u S.1 11 0 (S.1 11 0 + 1)) 11 1 (rgk 401 D.2.2.1 (S.1 11 1) (S.1 11 0 + 1))) 11 2 (rgk 401 D.2.2.2.1 (S.1 11 2) (S.1 11 0 + 1)) r = _
  rw [h_u_row h, h_u_row h, h_u_row h]
theorem rgL_nI {n k : Nat} {f : Nat → Int64} (h : k < n) (hn : n < 2 ^ 31) : rgL n f (nI k) = f k := by
  unfold rgL
  rw [nI_clamp (by omega), if_neg]
  rintro (q | q)
  · exact absurd q (nI_pos (by omega))
  · omega
theorem rgk_nI {α : Type} {n k : Nat} {f : Nat → α} {x : α} (h : k < n) (hn : n < 2 ^ 31) : rgk n f x (nI k) = f k := by
  unfold rgk
  rw [nI_clamp (by omega), if_neg]
  rintro (q | q)
  · exact absurd q (nI_pos (by omega))
  · omega
theorem t_adv_tk {t : Nat} (h : S.1 11 0 = nI t) (ht : t + 1 < 401) : (t_adv D S).1 11 0 = nI (t + 1) ∧ (t_adv D S).1 11 1 = D.2.2.1 (t + 1) ∧ (t_adv D S).1 11 2 = D.2.2.2.1 (t + 1) ∧ (t_adv D S).2.2.2 = D.2.2.2.2 (t + 1) := by
  have e : S.1 11 0 + 1 = nI (t + 1) := by rw [h]; exact nI_1 t
  refine ⟨?_, ?_, ?_, ?_⟩
  · show h_u (h_u (h_u S.1 11 0 (S.1 11 0 + 1)) 11 1 (rgk 401 D.2.2.1 (S.1 11 1) (S.1 11 0 + 1))) 11 2 (rgk 401 D.2.2.2.1 (S.1 11 2) (S.1 11 0 + 1)) 11 0 = _
    rw [h_u_ne (by decide), h_u_ne (by decide), h_u_eq, e]
  · show h_u (h_u (h_u S.1 11 0 (S.1 11 0 + 1)) 11 1 (rgk 401 D.2.2.1 (S.1 11 1) (S.1 11 0 + 1))) 11 2 (rgk 401 D.2.2.2.1 (S.1 11 2) (S.1 11 0 + 1)) 11 1 = _
    rw [h_u_ne (by decide), h_u_eq, e, rgk_nI ht (by decide)]
  · show h_u (h_u (h_u S.1 11 0 (S.1 11 0 + 1)) 11 1 (rgk 401 D.2.2.1 (S.1 11 1) (S.1 11 0 + 1))) 11 2 (rgk 401 D.2.2.2.1 (S.1 11 2) (S.1 11 0 + 1)) 11 2 = _
    rw [h_u_eq, e, rgk_nI ht (by decide)]
  · show rgk 401 D.2.2.2.2 S.2.2.2 (S.1 11 0 + 1) = _
    rw [e, rgk_nI ht (by decide)]
theorem t_code_row {r : Nat} {k x : Int32} (h8 : r ≠ 8) (h9 : r ≠ 9) (h10 : r ≠ 10) : (t_code S k x).1 r = S.1 r := by
  show h_u (q_r (q_r S.1 8 (rs 400 (S.1 8) (S.1 10 3) k)) 9 (rs 400 (S.1 9) (S.1 10 3) x)) 10 3 (S.1 10 3 + 1) r = _
  rw [h_u_row h10]
  exact (if_neg h9).trans (if_neg h8)
theorem t_code_10 {k x : Int32} (h : j ≠ 3) : (t_code S k x).1 10 j = S.1 10 j := by
  show h_u (q_r (q_r S.1 8 (rs 400 (S.1 8) (S.1 10 3) k)) 9 (rs 400 (S.1 9) (S.1 10 3) x)) 10 3 (S.1 10 3 + 1) 10 j = _
  rw [h_u_ne h]
  rfl
theorem t_code_at {k x : Int32} {n : Nat} (h : S.1 10 3 = nI n) (hn : n < 400) : (t_code S k x).1 10 3 = nI (n + 1) ∧ (t_code S k x).1 8 = upd (S.1 8) n k ∧ (t_code S k x).1 9 = upd (S.1 9) n x := by
  refine ⟨?_, ?_, ?_⟩
  · show h_u (q_r (q_r S.1 8 (rs 400 (S.1 8) (S.1 10 3) k)) 9 (rs 400 (S.1 9) (S.1 10 3) x)) 10 3 (S.1 10 3 + 1) 10 3 = _
    rw [h_u_eq, h, nI_1]
  · show h_u (q_r (q_r S.1 8 (rs 400 (S.1 8) (S.1 10 3) k)) 9 (rs 400 (S.1 9) (S.1 10 3) x)) 10 3 (S.1 10 3 + 1) 8 = _
    rw [h_u_row (by decide)]
    show rs 400 (S.1 8) (S.1 10 3) k = _
    rw [h, rs_nI hn (by decide)]
  · show h_u (q_r (q_r S.1 8 (rs 400 (S.1 8) (S.1 10 3) k)) 9 (rs 400 (S.1 9) (S.1 10 3) x)) 10 3 (S.1 10 3 + 1) 9 = _
    rw [h_u_row (by decide)]
    show rs 400 (S.1 9) (S.1 10 3) x = _
    rw [h, rs_nI hn (by decide)]
theorem t_blame_row {e : Int32} {r : Nat} (h : r ≠ 11) : (t_blame S e).1 r = S.1 r := by
  unfold t_blame
  by_cases c : S.1 11 4 = 0
  · rw [if_pos c]
    show h_u (h_u S.1 11 4 e) 11 5 (S.1 11 2) r = _
    rw [h_u_row h, h_u_row h]
  · rw [if_neg c]
theorem t_blame_no {e : Int32} (h : ¬ S.1 11 4 = 0) : t_blame S e = S := if_neg h
theorem t_blame_11 {e : Int32} (h4 : j ≠ 4) (h5 : j ≠ 5) : (t_blame S e).1 11 j = S.1 11 j := by
  unfold t_blame
  by_cases c : S.1 11 4 = 0
  · rw [if_pos c]
    show h_u (h_u S.1 11 4 e) 11 5 (S.1 11 2) 11 j = _
    rw [h_u_ne h5, h_u_ne h4]
  · rw [if_neg c]
theorem t_blame_yes {e : Int32} (h : S.1 11 4 = 0) : (t_blame S e).1 11 4 = e ∧ (t_blame S e).1 11 5 = S.1 11 2 := by
  unfold t_blame
  rw [if_pos h]
  refine ⟨?_, ?_⟩
  · show h_u (h_u S.1 11 4 e) 11 5 (S.1 11 2) 11 4 = _
    rw [h_u_ne (by decide), h_u_eq]
  · show h_u (h_u S.1 11 4 e) 11 5 ((t_s S 4 e).1 11 2) 11 5 = _
    rw [h_u_eq]
    show h_u S.1 11 4 e 11 2 = _
    rw [h_u_ne (by decide)]
theorem t_blame_2 {e : Int32} : (t_blame S e).2 = S.2 := by
  unfold t_blame
  by_cases c : S.1 11 4 = 0
  · rw [if_pos c]; rfl
  · rw [if_neg c]
end XSY
