def f_ls (m : Nat → Int32) : List Nat → List Int32 → List Int32
  | [], c => c
  | p :: t, c => f_ls m t (c.set p (m (c.getD p 0).toNatClampNeg))
theorem f_ls_app (m : Nat → Int32) (a b : List Nat) : ∀ c, f_ls m (a ++ b) c = f_ls m b (f_ls m a c) := by
  induction a with
  | nil => intro c; rfl
  | cons p t ih => intro c; exact ih _
theorem f_ls_len (m : Nat → Int32) (a : List Nat) : ∀ c, (f_ls m a c).length = c.length := by
  induction a with
  | nil => intro c; rfl
  | cons p t ih => intro c; exact (ih _).trans (by simp)
theorem getD_set_ne {c : List Int32} {p q : Nat} {x : Int32} (h : p ≠ q) : (c.set p x).getD q 0 = c.getD q 0 := by
  simp [List.getD, List.getElem?_set_ne h]
theorem f_ls_at (m : Nat → Int32) {q : Nat} (a : List Nat) : ∀ c, (∀ p, p ∈ a → p ≠ q) → (f_ls m a c).getD q 0 = c.getD q 0 := by
  induction a with
  | nil => intro c _; rfl
  | cons p t ih =>
    intro c h
    exact (ih _ (fun s hs => h s (List.mem_cons_of_mem _ hs))).trans (getD_set_ne (h p List.mem_cons_self))
theorem g_tr1_some {k : Nat} (h : (k = 257 ∨ k = 272) ∨ k = 270) : ∃ c, ∀ x : Int32, g_tr1 (k, x) = [c, x] := by
  rcases h with (h | h) | h
  · subst h; exact ⟨1, fun _ => rfl⟩
  · subst h; exact ⟨16, fun _ => rfl⟩
  · subst h; exact ⟨14, fun _ => rfl⟩
theorem g_ok_k {T : rT} {t : Nat} {f : Nat → Int32} {e : rI} {j : Nat} (h : g_ok T t f e) (hj : e.2.2 = some j) : ∃ c, ∀ x : Int32, g_tr1 (e.1, x) = [c, x] := by
  obtain ⟨-, -, h⟩ := h.2 j hj
  rcases h with ⟨h, -⟩ | ⟨h, -⟩
  · exact g_tr1_some (Or.inl h)
  · exact g_tr1_some (Or.inr h)
theorem g_dt_none {e : rI} {f : Nat → Int32} (h : e.2.2 = none) : g_dt e f = e.2.1 := by unfold g_dt; rw [h]
theorem g_dt_some {e : rI} {f : Nat → Int32} {j : Nat} (h : e.2.2 = some j) : g_dt e f = f j := by unfold g_dt; rw [h]
theorem getD_mid {a b : List Int32} {x : Int32} : (a ++ x :: b).getD a.length 0 = x := by simp [List.getD]
theorem set_mid {a b : List Int32} {x y : Int32} : (a ++ x :: b).set a.length y = a ++ y :: b := by simp
/-- all names filled in -/
theorem f_fill {T : rT} {t : Nat} {f : Nat → Int32} (m : Nat → Int32) (ht : t < 2 ^ 31) : ∀ (l : List rI) (pre : List Int32), (∀ e, e ∈ l → g_ok T t f e) → f_ls m (g_op pre.length l) (pre ++ g_tr (l.map (g_rs nI))) = pre ++ g_tr (l.map (g_rs m)) := by
  intro l
  induction l with
  | nil => intro pre _; rfl
  | cons e l ih =>
    intro pre h
    have he := h e List.mem_cons_self
    have hl : ∀ e', e' ∈ l → g_ok T t f e' := fun e' q => h e' (List.mem_cons_of_mem _ q)
    show f_ls m ((if e.2.2 = none then [] else [pre.length + 1]) ++ g_op (pre.length + (g_tr1 (g_rs nI e)).length) l) (pre ++ (g_tr1 (g_rs nI e) ++ g_tr (l.map (g_rs nI)))) = pre ++ (g_tr1 (g_rs m e) ++ g_tr (l.map (g_rs m)))
    cases q : e.2.2 with
    | none =>
      have e1 : g_rs nI e = g_rs m e := by unfold g_rs; rw [g_dt_none q, g_dt_none q]
      rw [if_pos rfl, List.nil_append, ← e1, ← List.append_assoc, ← List.append_assoc, ← List.length_append]
      exact ih _ hl
    | some j =>
      obtain ⟨c, hc⟩ := g_ok_k he q
      obtain ⟨hj, -⟩ := he.2 j q
      have e1 : g_tr1 (g_rs nI e) = [c, nI j] := by unfold g_rs; rw [g_dt_some q]; exact hc _
      have e2 : g_tr1 (g_rs m e) = [c, m j] := by unfold g_rs; rw [g_dt_some q]; exact hc _
      rw [if_neg (by simp), e1, e2]
      show f_ls m (g_op (pre.length + 2) l) ((pre ++ c :: nI j :: g_tr (l.map (g_rs nI))).set (pre.length + 1) (m ((pre ++ c :: nI j :: g_tr (l.map (g_rs nI))).getD (pre.length + 1) 0).toNatClampNeg)) = pre ++ c :: m j :: g_tr (l.map (g_rs m))
      have l1 : (pre ++ [c]).length = pre.length + 1 := by simp
      have a1 : pre ++ c :: nI j :: g_tr (l.map (g_rs nI)) = (pre ++ [c]) ++ nI j :: g_tr (l.map (g_rs nI)) := by simp
      rw [a1, ← l1, getD_mid, set_mid, nI_clamp (show j < 2 ^ 31 by omega)]
      have l2 : (pre ++ [c, m j]).length = pre.length + 2 := by simp
      have a2 : pre ++ [c] ++ m j :: g_tr (l.map (g_rs nI)) = (pre ++ [c, m j]) ++ g_tr (l.map (g_rs nI)) := by simp
      rw [a2, ← l2, ih _ hl]
      simp
/-- where the places lie, what stands there -/
theorem f_places {T : rT} {t : Nat} {f : Nat → Int32} : ∀ (l : List rI) (pre : List Int32), (∀ e, e ∈ l → g_ok T t f e) → (g_op pre.length l).Pairwise (· < ·) ∧ ∀ p, p ∈ g_op pre.length l → pre.length < p ∧ p < (pre ++ g_tr (l.map (g_rs nI))).length ∧ ∃ j, j < t ∧ (pre ++ g_tr (l.map (g_rs nI))).getD p 0 = nI j := by
  intro l
  induction l with
  | nil => intro pre _; exact ⟨List.Pairwise.nil, fun p h => absurd h (by intro q; cases q)⟩
  | cons e l ih =>
    intro pre h
    have he := h e List.mem_cons_self
    have hl : ∀ e', e' ∈ l → g_ok T t f e' := fun e' q => h e' (List.mem_cons_of_mem _ q)
    show ((if e.2.2 = none then [] else [pre.length + 1]) ++ g_op (pre.length + (g_tr1 (g_rs nI e)).length) l).Pairwise (· < ·) ∧ ∀ p, p ∈ ((if e.2.2 = none then [] else [pre.length + 1]) ++ g_op (pre.length + (g_tr1 (g_rs nI e)).length) l) → pre.length < p ∧ p < (pre ++ (g_tr1 (g_rs nI e) ++ g_tr (l.map (g_rs nI)))).length ∧ ∃ j, j < t ∧ (pre ++ (g_tr1 (g_rs nI e) ++ g_tr (l.map (g_rs nI)))).getD p 0 = nI j
    obtain ⟨i1, i2⟩ := ih (pre ++ g_tr1 (g_rs nI e)) hl
    rw [List.length_append] at i1 i2
    rw [← List.append_assoc]
    cases q : e.2.2 with
    | none =>
      rw [if_pos rfl, List.nil_append]
      exact ⟨i1, fun p hp => ⟨by have := (i2 p hp).1; omega, (i2 p hp).2⟩⟩
    | some j =>
      obtain ⟨c, hc⟩ := g_ok_k he q
      obtain ⟨hj, -⟩ := he.2 j q
      have e1 : g_tr1 (g_rs nI e) = [c, nI j] := by unfold g_rs; rw [g_dt_some q]; exact hc _
      rw [e1] at i1 i2 ⊢
      rw [if_neg (by simp)]
      refine ⟨List.pairwise_cons.mpr ⟨fun p hp => by have := (i2 p hp).1; show pre.length + 1 < p; have e9 : [c, nI j].length = 2 := rfl; omega, i1⟩, fun p hp => ?_⟩
      rcases List.mem_cons.mp hp with hp | hp
      · subst hp
        refine ⟨Nat.lt_succ_self _, by simp, j, hj, ?_⟩
        have l1 : (pre ++ [c]).length = pre.length + 1 := by simp
        have a1 : pre ++ [c, nI j] ++ g_tr (l.map (g_rs nI)) = (pre ++ [c]) ++ nI j :: g_tr (l.map (g_rs nI)) := by simp
        rw [a1, ← l1, getD_mid]
      · exact ⟨by have := (i2 p hp).1; omega, (i2 p hp).2⟩
theorem lr_set {c : List Int32} {p : Nat} {x : Int32} (h : p < c.length) : upd (lr c) p x = lr (c.set p x) := by
  funext j
  unfold lr upd
  by_cases e : j = p
  · subst e
    rw [if_pos rfl]
    simp [List.getD, List.getElem?_set_self h]
  · rw [if_neg e]
    exact (getD_set_ne (fun q => e q.symm)).symm
