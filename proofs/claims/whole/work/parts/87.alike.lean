/-- cells that say the same -/
def x_sim (c c' : x_E) : Prop := c = c' ∨ ∃ (k N : Nat) (f g : Nat → Int32), c = .inl (k, N, .inl f) ∧ c' = .inl (k, N, .inl g) ∧ ∀ j, j < N → f j = g j
/-- the second heap says no more than the first -/
def x_eqv (M M' : x_M) : Prop := M.2 = M'.2 ∧ ∀ (q : Nat) (c' : x_E), M'.1 q = some c' → ∃ c, M.1 q = some c ∧ x_sim c c'
theorem x_arr_sim {cA : ClassId} {N : Nat} {f g : Nat → Int32} (h : ∀ j, j < N → f j = g j) : vp_cell cA (N, .inl f) = vp_cell cA (N, .inl g) := by
  rw [vp_cell_i, vp_cell_i]
  unfold arrV
  congr 1
  · congr 1
    funext i
    exact congrArg Value.int (h i.1 i.2)
theorem x_W_eqv {Y : x_Y} {M M' : x_M} {H : Heap} (h : x_eqv M M') (w : x_W Y M H) : x_W Y M' H := by
  refine ⟨w.1.trans h.1, fun q c' hq => ?_⟩
  obtain ⟨c, hc, hs⟩ := h.2 q c' hq
  have a := w.2 q c hc
  rcases hs with e | ⟨k, N, f, g, e1, e2, e3⟩
  · rw [← e]; exact a
  · rw [e1] at a
    rw [e2]
    refine ⟨a.1, ?_⟩
    have b : H[q]? = some (vp_cell (Y.2.2.1.2 k) (N, .inl f)) := a.2
    show H[q]? = some (vp_cell (Y.2.2.1.2 k) (N, .inl g))
    rw [b, x_arr_sim e3]
theorem x_toQ {K : x_K} {nL cells slots pc : Nat} {lv : List (Nat × Value)} {st : List Value} {M M' : x_M} (h : x_eqv M M') (k : x_X K nL cells slots pc lv st M') : x_X K nL cells slots pc lv st M := by
  obtain ⟨p, l1, e, R, s, m, args, below, meth, c, Y, Q⟩ := K
  intro H locs ls hw hs hl
  exact k H locs ls (x_W_eqv h hw) hs hl
theorem x_eqv_rf {M : x_M} : x_eqv M M := ⟨rfl, fun _ c h => ⟨c, h, Or.inl rfl⟩⟩
theorem x_eqv_ov {M : x_M} {a : Nat} {L L' : List x_E} (hl : L.length = L'.length) (h : ∀ (j : Nat) (c c' : x_E), L[j]? = some c → L'[j]? = some c' → x_sim c c') : x_eqv (x_ov M a L) (x_ov M a L') := by
  refine ⟨rfl, fun q c' hq => ?_⟩
  by_cases k : a ≤ q ∧ q < a + L.length
  · have k' : a ≤ q ∧ q < a + L'.length := by rw [← hl]; exact k
    have hq : L'[q - a]? = some c' := by
      have hq : (if a ≤ q ∧ q < a + L'.length then L'[q - a]? else M.1 q) = some c' := hq
      rw [if_pos k'] at hq
      exact hq
    have hj : q - a < L.length := by omega
    refine ⟨L[q - a], ?_, h (q - a) _ _ (List.getElem?_eq_getElem hj) hq⟩
    show (if a ≤ q ∧ q < a + L.length then L[q - a]? else M.1 q) = some L[q - a]
    rw [if_pos k]
    exact List.getElem?_eq_getElem hj
  · have k' : ¬ (a ≤ q ∧ q < a + L'.length) := by rw [← hl]; exact k
    have hq : (if a ≤ q ∧ q < a + L'.length then L'[q - a]? else M.1 q) = some c' := hq
    rw [if_neg k'] at hq
    refine ⟨c', ?_, Or.inl rfl⟩
    show (if a ≤ q ∧ q < a + L.length then L[q - a]? else M.1 q) = some c'
    rw [if_neg k]
    exact hq
/-- what begin leaves in the State at m -/
def bgT (m o : Nat) (G : HS) : List x_E := [.inr (10, [.int 0, .int 0, .int 0, .ref (m + 1), .ref (m + 2), .ref (m + 3), .ref (m + 4), .ref (m + 5), .ref (m + 6), .ref (m + 7), .ref (m + 8), .ref o]), .inl (0, 8, .inl (s_fill 8 (fun _ => 0) (G 0))), .inl (0, 8, .inl (s_fill 8 (fun _ => 0) (fun _ => -1))), .inl (0, 8, .inl (fun _ => 0)), .inl (2, 9, .inl (fun _ => 0)), .inl (0, 6, .inl (fun _ => 0)), .inl (0, 6, .inl (fun _ => 0)), .inl (0, 36, .inl (fun _ => 0)), .inl (2, 36, .inl (fun _ => 0))]
theorem bg_eqv {M : x_M} {m o : Nat} {G : HS} {P : PL} (hG : g_is G P) : x_eqv (x_ov M m (bgT m o G)) (x_ov M m (stT m o P (h_new P) (s_fill 8 (fun _ => 0) (G 0)) 0)) := by
  refine x_eqv_ov rfl (fun j c c' h1 h2 => ?_)
  have hi : ∀ (k N : Nat) (f g : Nat → Int32), (∀ j, j < N → f j = g j) → x_sim (.inl (k, N, .inl f)) (.inl (k, N, .inl g)) := fun k N f g h => Or.inr ⟨k, N, f, g, rfl, rfl, h⟩
  match j, h1, h2 with
  | 0, h1, h2 => cases h1; cases h2; exact Or.inl rfl
  | 1, h1, h2 =>
    cases h1; cases h2
    refine hi _ _ _ _ (fun j hj => ?_)
    by_cases c : j < p_nd P
    · rw [s_fill_in hj, s_fill_in c]
      exact hG.2.2.2.2.2.2 j c
    · show _ = (if j < p_nd P then h_new P 0 j else s_fill 8 (fun _ => 0) (G 0) j)
      rw [if_neg c]
  | 2, h1, h2 =>
    cases h1; cases h2
    refine hi _ _ _ _ (fun j hj => ?_)
    rw [s_fill_in hj]
    rfl
  | 3, h1, h2 => cases h1; cases h2; exact hi _ _ _ _ (fun j hj => rfl)
  | 4, h1, h2 => cases h1; cases h2; exact hi _ _ _ _ (fun j hj => rfl)
  | 5, h1, h2 => cases h1; cases h2; exact hi _ _ _ _ (fun j hj => rfl)
  | 6, h1, h2 => cases h1; cases h2; exact hi _ _ _ _ (fun j hj => rfl)
  | 7, h1, h2 => cases h1; cases h2; exact hi _ _ _ _ (fun j hj => rfl)
  | 8, h1, h2 => cases h1; cases h2; exact hi _ _ _ _ (fun j hj => rfl)
  | j + 9, h1, h2 => cases h1
