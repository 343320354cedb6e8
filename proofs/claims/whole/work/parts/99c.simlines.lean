/-- how many tokens ahead of t have the role a -/
def cnt (g : Nat → Int32) (a : Int32) : Nat → Nat
  | 0 => 0
  | t + 1 => cnt g a t + (if g t = a then 1 else 0)
theorem cnt_y {g : Nat → Int32} {a : Int32} {t : Nat} (h : g t = a) : cnt g a (t + 1) = cnt g a t + 1 := by show cnt g a t + (if g t = a then 1 else 0) = _; rw [if_pos h]
theorem cnt_n {g : Nat → Int32} {a : Int32} {t : Nat} (h : g t ≠ a) : cnt g a (t + 1) = cnt g a t := by show cnt g a t + (if g t = a then 1 else 0) = _; rw [if_neg h]; rfl
theorem cnt_loc {g g' : Nat → Int32} {a : Int32} : ∀ t, (∀ k, k < t → g k = g' k) → cnt g a t = cnt g' a t := by
  intro t
  induction t with
  | zero => intro _; rfl
  | succ t ih =>
    intro h
    show cnt g a t + (if g t = a then 1 else 0) = cnt g' a t + (if g' t = a then 1 else 0)
    rw [ih (fun k hk => h k (by omega)), h t (Nat.lt_succ_self _)]
theorem cnt_mono {g : Nat → Int32} {a : Int32} {s : Nat} : ∀ t, s ≤ t → cnt g a s ≤ cnt g a t := by
  intro t
  induction t with
  | zero => intro h; rw [show s = 0 by omega]; exact Nat.le_refl _
  | succ t ih =>
    intro h
    by_cases e : s = t + 1
    · rw [e]; exact Nat.le_refl _
    · exact Nat.le_trans (ih (by omega)) (Nat.le_add_right _ _)
/-- a name that is found is one of those told ahead -/
theorem r_tdl_lt {E : rE} {g : Nat → Int32} {i : Nat} {a : Int32} : ∀ (w k n : Nat), r_tdl E g i a w k n = -1 ∨ ∃ m, r_tdl E g i a w k n = nI m ∧ m + cnt g a k < n + cnt g a (k + w) := by
  intro w
  induction w with
  | zero => intro k n; exact Or.inl rfl
  | succ w ih =>
    intro k n
    simp only [r_tdl]
    have e : k + (w + 1) = k + 1 + w := by omega
    have hm : cnt g a (k + 1) ≤ cnt g a (k + 1 + w) := cnt_mono _ (by omega)
    by_cases c : g k = a
    · rw [if_pos c]
      have h1 := cnt_y c
      by_cases c2 : r_same E k i = true
      · rw [if_pos c2]
        exact Or.inr ⟨n, rfl, by rw [e]; omega⟩
      · rw [if_neg c2]
        rcases ih (k + 1) (n + 1) with q | ⟨m, q1, q2⟩
        · exact Or.inl q
        · exact Or.inr ⟨m, q1, by rw [e]; omega⟩
    · rw [if_neg c]
      have h1 := cnt_n c
      rcases ih (k + 1) n with q | ⟨m, q1, q2⟩
      · exact Or.inl q
      · exact Or.inr ⟨m, q1, by rw [e]; omega⟩
theorem r_tdl_lt0 {E : rE} {g : Nat → Int32} {i t : Nat} {a : Int32} (h : ¬ r_tdl E g i a t 0 0 = -1) : ∃ m, m < cnt g a t ∧ r_tdl E g i a t 0 0 = nI m := by
  rcases r_tdl_lt (E := E) (g := g) (i := i) (a := a) t 0 0 with q | ⟨m, q1, q2⟩
  · exact absurd q h
  · rw [Nat.zero_add, Nat.zero_add] at q2
    exact ⟨m, by have e : cnt g a 0 = 0 := rfl; omega, q1⟩
theorem nI_m1 {n : Nat} (h : n < 2 ^ 31) : ¬ nI n = -1 := by
  intro e
  have h1 := congrArg Int32.toInt e
  rw [nI_toInt (by omega), show (-1 : Int32).toInt = -1 by decide] at h1
  omega
/-- one name more told -/
theorem r_tdl_more {E : rE} {g : Nat → Int32} {i : Nat} {a : Int32} : ∀ (w k n : Nat), n + w < 2 ^ 31 → g (k + w) = a → r_tdl E g i a (w + 1) k n = if r_tdl E g i a w k n = -1 then (if r_same E (k + w) i = true then nI (n + (cnt g a (k + w) - cnt g a k)) else -1) else r_tdl E g i a w k n := by
  intro w
  induction w with
  | zero =>
    intro k n _ h
    have h : g k = a := h
    simp only [r_tdl]
    rw [if_pos h, if_pos trivial, Nat.add_zero, Nat.sub_self, Nat.add_zero]
  | succ w ih =>
    intro k n hn h
    have e : k + (w + 1) = k + 1 + w := by omega
    rw [e] at h ⊢
    have e1 : r_tdl E g i a (w + 1 + 1) k n = if g k = a then (if r_same E k i = true then nI n else r_tdl E g i a (w + 1) (k + 1) (n + 1)) else r_tdl E g i a (w + 1) (k + 1) n := rfl
    have e2 : r_tdl E g i a (w + 1) k n = if g k = a then (if r_same E k i = true then nI n else r_tdl E g i a w (k + 1) (n + 1)) else r_tdl E g i a w (k + 1) n := rfl
    have hm : cnt g a (k + 1) ≤ cnt g a (k + 1 + w) := cnt_mono _ (by omega)
    rw [e1, e2]
    by_cases c : g k = a
    · have h1 := cnt_y c
      rw [if_pos c, if_pos c]
      by_cases c2 : r_same E k i = true
      · rw [if_pos c2, if_pos c2, if_neg (nI_m1 (by omega))]
      · rw [if_neg c2, if_neg c2, ih (k + 1) (n + 1) (by omega) h, show n + 1 + (cnt g a (k + 1 + w) - cnt g a (k + 1)) = n + (cnt g a (k + 1 + w) - cnt g a k) by omega]
    · have h1 := cnt_n c
      rw [if_neg c, if_neg c, ih (k + 1) n (by omega) h, h1]
/-- a word among the first k from i on -/
def n_fs (w : Nat → Int64) (x : Int64) : Nat → Nat → Int32
  | 0, _ => -1
  | k + 1, i => if w i = x then nI i else n_fs w x k (i + 1)
theorem n_fd_fs {n m : Nat} {w : Nat → Int64} {x : Int64} (hn : n < 2 ^ 31) (hm : m ≤ n) : ∀ (k i : Nat), i ≤ m → n - i < k → n_fd n w (nI m) x k i = n_fs w x (m - i) i := by
  intro k
  induction k with
  | zero => intro i _ h; omega
  | succ k ih =>
    intro i hi hk
    unfold n_fd
    by_cases c : i = m
    · rw [if_pos (nI_le (by omega) (by omega)), c, Nat.sub_self]
      rfl
    · rw [if_neg (nI_ge (by omega) (by omega)), if_neg (nI_ge (by omega) (by omega))]
      obtain ⟨d, hd⟩ : ∃ d, m - i = d + 1 := ⟨m - i - 1, by omega⟩
      rw [hd]
      show (if w i = x then nI i else n_fd n w (nI m) x k (i + 1)) = (if w i = x then nI i else n_fs w x d (i + 1))
      rw [ih (i + 1) (by omega) (by omega), show m - (i + 1) = d by omega]
theorem n_find_fs {n m : Nat} {w : Nat → Int64} {x : Int64} (hn : n < 2 ^ 31) (hm : m ≤ n) : n_find n w (nI m) x = n_fs w x m 0 := n_fd_fs hn hm (n + 1) 0 (Nat.zero_le _) (by omega)
theorem n_fs_more {w : Nat → Int64} {x : Int64} : ∀ (k i : Nat), i + k < 2 ^ 31 → n_fs w x (k + 1) i = if n_fs w x k i = -1 then (if w (i + k) = x then nI (i + k) else -1) else n_fs w x k i := by
  intro k
  induction k with
  | zero => intro i _; simp only [n_fs]; rw [if_pos trivial, Nat.add_zero]
  | succ k ih =>
    intro i hi
    have e1 : n_fs w x (k + 1 + 1) i = if w i = x then nI i else n_fs w x (k + 1) (i + 1) := rfl
    have e2 : n_fs w x (k + 1) i = if w i = x then nI i else n_fs w x k (i + 1) := rfl
    rw [e1, e2, ih (i + 1) (by omega), show i + 1 + k = i + (k + 1) by omega]
    by_cases c : w i = x
    · rw [if_pos c, if_pos c, if_neg (nI_m1 (by omega))]
    · rw [if_neg c, if_neg c]
theorem n_fs_loc {w w' : Nat → Int64} {x : Int64} : ∀ (k i : Nat), (∀ j, i ≤ j → j < i + k → w j = w' j) → n_fs w x k i = n_fs w' x k i := by
  intro k
  induction k with
  | zero => intro i _; rfl
  | succ k ih =>
    intro i h
    simp only [n_fs]
    rw [h i (Nat.le_refl _) (by omega), ih (i + 1) (fun j a b => h j (by omega) (by omega))]
/-- a name more among the words of the class -/
theorem n_find_more {n m : Nat} {w : Nat → Int64} {x v : Int64} (hn : n < 2 ^ 30) (hm : m < n) : n_find n (n_aw n w (nI m) v) (n_ac n (nI m)) x = if n_find n w (nI m) x = -1 then (if v = x then nI m else -1) else n_find n w (nI m) x := by
  have h1 : n_aw n w (nI m) v = vp_updL w m v := by
    unfold n_aw
    rw [if_neg (nI_pos (by omega)), if_neg (nI_ge (by omega) (by omega)), nI_clamp (by omega)]
  have h2 : n_ac n (nI m) = nI (m + 1) := by
    unfold n_ac
    rw [if_neg (nI_pos (by omega)), if_neg (nI_ge (by omega) (by omega)), nI_1]
  rw [h1, h2, n_find_fs (by omega) (by omega), n_find_fs (by omega) (by omega), n_fs_more m 0 (by omega), Nat.zero_add, vp_updL_at]
  rw [n_fs_loc (w := vp_updL w m v) (w' := w) m 0 (fun j _ hj => vp_updL_ne (by omega))]
/-- two name tokens: one word, one long -/
theorem tk_same {D : tK} {E : rE} {N i j : Nat} (hC : CX D E N) (hi : i < N) (hj : j < N) (ki : E.2 12 i = 40) (kj : E.2 12 j = 40) : D.2.2.2.2 i = D.2.2.2.2 j ↔ r_same E i j = true := by
  obtain ⟨-, -, -, di⟩ := hC.2 i (Nat.le_of_lt hi)
  obtain ⟨-, -, -, dj⟩ := hC.2 j (Nat.le_of_lt hj)
  obtain ⟨p, m, a, b, e, v⟩ := di (by rw [ki]; decide)
  obtain ⟨p', m', a', b', e', v'⟩ := dj (by rw [kj]; decide)
  obtain ⟨v1, v2, v3⟩ := v.2 ki
  obtain ⟨w1, w2, w3⟩ := v'.2 kj
  rw [v1, w1, pj_iff v3 w3 v2 w2]
  unfold r_same
  rw [a, a', b, b', nI_clamp (by omega), nI_clamp (by omega), nI_clamp (by omega), Bool.and_eq_true, decide_eq_true_eq, h_all_iff, nI_eq (by omega) (by omega)]
  constructor
  · rintro ⟨q1, q2⟩
    exact ⟨q1, fun k hk => decide_eq_true (q2 k hk)⟩
  · rintro ⟨q1, q2⟩
    exact ⟨q1, fun k hk => of_decide_eq_true (q2 k hk)⟩
theorem ff_blame {S : tS} {e : Int32} (h : ¬ S.1 11 4 = 0) : t_blame S e = S := t_blame_no h
/-- both readings stand at one token, and X holds of what has been told if no fault has been found -/
def GS (D : tK) (E : rE) (X : tS → rS → rE → Prop) (S : tS) (R : rS) : Prop := Syn D S R.1.1 ∧ (FT D E S R.2.2.2.1 R.1.1 ∨ ∃ B, P2 E R.2.2.2.1 R.1.1 = (0, R.1.1, B) ∧ S.1 11 4 = 0 ∧ X S R B)
section XGS
variable {D : tK} {E : rE} {N : Nat} {S : tS} {R : rS} {X X' : tS → rS → rE → Prop}
theorem GS_k (hC : CX D E N) (h : GS D E X S R) (hle : R.1.1 ≤ N) (c0 r0 : Int32) (hq : (c0, r0) ∈ tk_M) : S.1 11 1 = c0 ↔ (tE E).1 R.1.1 = r0 := Syn_k hC h.1 hle c0 r0 hq
theorem gs_mono (h : GS D E X S R) (hx : ∀ B, X S R B → X' S R B) : GS D E X' S R := ⟨h.1, h.2.imp_right (fun ⟨B, a, b, c⟩ => ⟨B, a, b, hx B c⟩)⟩
theorem gs_adv (hC : CX D E N) (h : GS D E X S R) (hl : R.1.1 < N) (h0 : R.2.2.2.1 R.1.1 = 0) (hX : ∀ B, X S R B → X' (t_adv D S) (r_adv R) B) : GS D E X' (t_adv D S) (r_adv R) := by
  obtain ⟨hs, h⟩ := h
  have e4 : (t_adv D S).1 11 4 = S.1 11 4 := t_adv_11 (by decide) (by decide) (by decide)
  have e5 : (t_adv D S).1 11 5 = S.1 11 5 := t_adv_11 (by decide) (by decide) (by decide)
  refine ⟨Syn_adv hC hs hl, ?_⟩
  rcases h with h | ⟨B, a, b, c⟩
  · exact Or.inl (FT_step h (fun _ _ => rfl) e4 e5)
  · exact Or.inr ⟨B, P2_0 a h0, e4.trans b, hX B c⟩
/-- a token with a role: Z is what the class's checks leave -/
theorem gs_role (hC : CX D E N) {Z : tS} {a : Int32} (h : GS D E X S R) (hl : R.1.1 < N) (hz : Syn D Z R.1.1) (hff : ¬ S.1 11 4 = 0 → Z.1 11 4 = S.1 11 4 ∧ Z.1 11 5 = S.1 11 5) (hok : ∀ B, P2 E R.2.2.2.1 R.1.1 = (0, R.1.1, B) → S.1 11 4 = 0 → X S R B → ((e_at B (rf (upd R.2.2.2.1 R.1.1 a)) R.1.1).1 = 0 ∧ Z.1 11 4 = 0 ∧ X' (t_adv D Z) (r_adv (r_role R a)) (e_at B (rf (upd R.2.2.2.1 R.1.1 a)) R.1.1).2) ∨ (¬ (e_at B (rf (upd R.2.2.2.1 R.1.1 a)) R.1.1).1 = 0 ∧ Z.1 11 4 = (e_at B (rf (upd R.2.2.2.1 R.1.1 a)) R.1.1).1 ∧ Z.1 11 5 = S.1 11 2)) : GS D E X' (t_adv D Z) (r_adv (r_role R a)) := by
  obtain ⟨hs, h⟩ := h
  have e4 : (t_adv D Z).1 11 4 = Z.1 11 4 := t_adv_11 (by decide) (by decide) (by decide)
  have e5 : (t_adv D Z).1 11 5 = Z.1 11 5 := t_adv_11 (by decide) (by decide) (by decide)
  have hu : ∀ k, k < R.1.1 → R.2.2.2.1 k = upd R.2.2.2.1 R.1.1 a k := fun k hk => (upd_ne (by omega)).symm
  refine ⟨Syn_adv hC hz hl, ?_⟩
  show FT D E (t_adv D Z) (upd R.2.2.2.1 R.1.1 a) (R.1.1 + 1) ∨ ∃ B, P2 E (upd R.2.2.2.1 R.1.1 a) (R.1.1 + 1) = (0, R.1.1 + 1, B) ∧ (t_adv D Z).1 11 4 = 0 ∧ X' (t_adv D Z) (r_adv (r_role R a)) B
  rcases h with h | ⟨B, p, b, x⟩
  · obtain ⟨e, j, B, q1, q2, q3, q4⟩ := h
    obtain ⟨z1, z2⟩ := hff (by rw [q3]; exact q1)
    exact Or.inl (FT_step ⟨e, j, B, q1, q2, q3, q4⟩ hu (e4.trans z1) (e5.trans z2))
  · have p' : P2 E (upd R.2.2.2.1 R.1.1 a) R.1.1 = (0, R.1.1, B) := (P2_loc R.1.1 (fun k hk => (hu k hk).symm)).trans p
    have p2 := P2_ok p'
    rcases hok B p b x with ⟨c1, c2, c3⟩ | ⟨c1, c2, c3⟩
    · rw [if_pos c1] at p2
      exact Or.inr ⟨_, p2, e4.trans c2, c3⟩
    · rw [if_neg c1] at p2
      exact Or.inl ⟨_, R.1.1, _, c1, p2, e4.trans c2, (e5.trans c3).trans hs.2.2.2.1⟩
theorem gs_exy (hC : CX D E N) {Z : tS} (hz : Syn D Z R.1.1) (hle : R.1.1 ≤ N) (c0 r0 : Int32) (hq : (c0, r0) ∈ tk_M) (hk : (tE E).1 R.1.1 = r0) : t_exp D Z c0 = t_adv D Z := if_pos ((Syn_k hC hz hle c0 r0 hq).mpr hk)
theorem gs_exn (hC : CX D E N) {Z : tS} {t : Nat} (hz : Syn D Z t) (hle : t ≤ N) (c0 r0 : Int32) (hq : (c0, r0) ∈ tk_M) (hk : ¬ (tE E).1 t = r0) : t_bk (t_exp D Z c0) (D.2.2.2.1 t) := by
  have e : t_exp D Z c0 = t_brk Z := if_neg (fun q => hk ((Syn_k hC hz hle c0 r0 hq).mp q))
  rw [e]
  exact Syn_brk hC hz hle
theorem bl_Syn {e : Int32} {t : Nat} (h : Syn D S t) : Syn D (t_blame S e) t := by
  unfold Syn
  rw [t_blame_11 (by decide) (by decide), t_blame_11 (by decide) (by decide), t_blame_11 (by decide) (by decide), t_blame_11 (by decide) (by decide), t_blame_2]
  exact h
end XGS
