section XPT
variable {D : tK} {E Ev B : rE} {N od dn kn : Nat} {S : tS} {R : rS} {pre : List rI} {ty : List Bool} {deal part : Int32}
def CUR (S : tS) (B : rE) (nd m p : Nat) : Prop := ∀ j, j < p → (∃ d, d < nd ∧ B.2 2 (6 * m + j) = nI d) ∧ S.1 2 (6 * m + j) = B.2 2 (6 * m + j) ∧ S.1 3 (6 * m + j) = B.2 3 (6 * m + j)
/-- in a deal's line, ahead of part p of deal m -/
def XP (D : tK) (E : rE) (N : Nat) (Ev : rE) (od q0 : Nat) (deal part : Int32) (S : tS) (R : rS) (B : rE) : Prop := ∃ m p, q0 ≤ p ∧ p ≤ 6 ∧ cnt R.2.2.2.1 2 R.1.1 = m + 1 ∧ deal = nI m ∧ part = nI p ∧ LX D E N Ev od (cnt R.2.2.2.1 1 R.1.1) m S R B ∧ B.2 1 m = nI p ∧ CUR S B (cnt R.2.2.2.1 1 R.1.1) m p
/-- behind a part's name; x0: the drone, v: the place of its number -/
def XQ (D : tK) (E : rE) (N : Nat) (Ev : rE) (od : Nat) (deal part x0 : Int32) (y : Int32) (S : tS) (R : rS) (B : rE) : Prop := ∃ m p, p < 6 ∧ cnt R.2.2.2.1 2 R.1.1 = m + 1 ∧ deal = nI m ∧ part = nI p ∧ LX D E N Ev od (cnt R.2.2.2.1 1 R.1.1) m S R B ∧ B.2 1 m = nI (p + 1) ∧ CUR S B (cnt R.2.2.2.1 1 R.1.1) m p ∧ (∃ d, d < cnt R.2.2.2.1 1 R.1.1 ∧ x0 = nI d) ∧ B.2 2 (6 * m + p) = x0 ∧ B.2 3 (6 * m + p) = y
theorem h_any_iff {q : Nat → Bool} : ∀ n, h_any q n = true ↔ ∃ k, k < n ∧ q k = true := by
  intro n
  induction n with
  | zero => exact ⟨fun h => absurd h Bool.false_ne_true, fun ⟨k, hk, _⟩ => absurd hk (Nat.not_lt_zero _)⟩
  | succ n ih =>
    show (h_any q n || q n) = true ↔ _
    rw [Bool.or_eq_true, ih]
    constructor
    · rintro (⟨k, a, b⟩ | h)
      · exact ⟨k, by omega, b⟩
      · exact ⟨n, Nat.lt_succ_self _, h⟩
    · rintro ⟨k, a, b⟩
      by_cases c : k < n
      · exact Or.inl ⟨k, c, b⟩
      · rw [show k = n by omega] at b; exact Or.inr b
theorem t_hs_iff {Q : Nat → Int32} {m p : Nat} {x : Int32} (hm : m < 6) (hp : p ≤ 6) : ∀ k i, i ≤ p → p - i < k → (t_hs Q (nI m) (nI p) x k i = true ↔ ∃ j, i ≤ j ∧ j < p ∧ Q (6 * m + j) = x) := by
  intro k
  induction k with
  | zero => intro i _ h; omega
  | succ k ih =>
    intro i hi hk
    unfold t_hs
    by_cases c : i = p
    · rw [if_pos (nI_le (by omega) (by omega))]
      exact ⟨fun h => absurd h Bool.false_ne_true, fun ⟨j, a, b, _⟩ => by omega⟩
    · rw [if_neg (nI_ge (by omega) (by omega)), if_neg (show ¬ (6 : Int32) ≤ nI i from fun q => (nI_ge (show i < 6 by omega) (by decide)) q), slot_nI, rg_nI (by omega) (by decide)]
      by_cases c2 : Q (6 * m + i) = x
      · rw [if_pos c2]
        exact ⟨fun _ => ⟨i, Nat.le_refl _, by omega, c2⟩, fun _ => rfl⟩
      · rw [if_neg c2, ih (i + 1) (by omega) (by omega)]
        constructor
        · rintro ⟨j, a, b, c⟩; exact ⟨j, by omega, b, c⟩
        · rintro ⟨j, a, b, c⟩
          refine ⟨j, ?_, b, c⟩
          rcases Nat.lt_or_ge i j with q | q
          · exact q
          · rw [show j = i by omega] at c; exact absurd c c2
theorem pt2_Syn {t : Nat} (h : Syn D S t) : Syn D (t_pt2 S part) t := by
  unfold t_pt2
  by_cases c : part < 6
  · rw [if_pos c]; exact h
  · rw [if_neg c]; exact bl_Syn h
theorem pt2_ff (h : ¬ S.1 11 4 = 0) : t_pt2 S part = S := by
  unfold t_pt2
  rw [t_blame_no h]
  by_cases c : part < 6
  · rw [if_pos c]
  · rw [if_neg c]
theorem pt3_Syn {t : Nat} {f : Int32} (h : Syn D S t) : Syn D (t_pt3 S deal part f) t := by
  unfold t_pt3
  by_cases c : t_has S deal part f = true
  · rw [if_pos c]; exact bl_Syn h
  · rw [if_neg c]; exact h
theorem pt3_ff {f : Int32} (h : ¬ S.1 11 4 = 0) : t_pt3 S deal part f = S := by
  unfold t_pt3
  rw [t_blame_no h]
  by_cases c : t_has S deal part f = true
  · rw [if_pos c]
  · rw [if_neg c]
theorem lk0_ff (h : ¬ S.1 11 4 = 0) : t_lk0 S = S := by
  unfold t_lk0
  rw [t_blame_no h]
  by_cases c : t_fd0 S = -1
  · rw [if_pos c]
  · rw [if_neg c]
theorem pt7_Syn {t : Nat} (h : Syn D S t) : Syn D (t_pt7 S) t := by
  unfold t_pt7
  by_cases c : S.2.2.2.toInt32 < 1
  · rw [if_pos c]; exact bl_Syn h
  rw [if_neg c]
  by_cases c2 : S.2.2.2.toInt32 ≤ 20
  · rw [if_pos c2]; exact h
  · rw [if_neg c2]; exact bl_Syn h
theorem pt7_ff (h : ¬ S.1 11 4 = 0) : t_pt7 S = S := by
  unfold t_pt7
  rw [t_blame_no h]
  by_cases c : S.2.2.2.toInt32 < 1
  · rw [if_pos c]
  rw [if_neg c]
  by_cases c2 : S.2.2.2.toInt32 ≤ 20
  · rw [if_pos c2]
  · rw [if_neg c2]
/-- a part more, in the reference -/
theorem LX_pt {m p : Nat} {x y : Int32} (hc : cnt R.2.2.2.1 2 R.1.1 = m + 1) (h : LX D E N Ev od (cnt R.2.2.2.1 1 R.1.1) m S R B) (hg : ∀ e, e ∈ R.2.2.2.2 → g_ok (tE E) R.1.1 R.2.2.2.1 e) (hp : p < 6) : LX D E N Ev od (cnt R.2.2.2.1 1 R.1.1) m S R (e_pt B R.1.1 (6 * m + p) (m + 1) p x y) := by
  obtain ⟨⟨a1, a2⟩, ⟨b1, b2, b3, b4, b5, b6⟩, ⟨r12, r13, r14, r20⟩, ⟨d1, d2⟩, ⟨k1, k2, k3⟩, ⟨o1, o2⟩, ⟨c1, c2⟩, nm⟩ := h
  have hr : ∀ q, q ≠ 16 → q ≠ 2 → q ≠ 3 → q ≠ 1 → (e_pt B R.1.1 (6 * m + p) (m + 1) p x y).2 q = B.2 q := fun q a b c d => e_pt_row a b c d
  have h1 : ∀ k, k ≠ m → (e_pt B R.1.1 (6 * m + p) (m + 1) p x y).2 1 k = B.2 1 k := fun k hk => e_pt_1 (by show k ≠ m + 1 - 1; omega)
  have h2 : ∀ s, s ≠ 6 * m + p → (e_pt B R.1.1 (6 * m + p) (m + 1) p x y).2 2 s = B.2 2 s := fun s hs => by
    show h_u (h_u (h_u (h_u B.2 16 R.1.1 x) 2 (6 * m + p) x) 3 (6 * m + p) y) 1 (m + 1 - 1) (nI (p + 1)) 2 s = _
    rw [h_u_row (by decide), h_u_row (by decide), h_u_ne hs, h_u_row (by decide)]
  have h3 : ∀ s, s ≠ 6 * m + p → (e_pt B R.1.1 (6 * m + p) (m + 1) p x y).2 3 s = B.2 3 s := fun s hs => by
    show h_u (h_u (h_u (h_u B.2 16 R.1.1 x) 2 (6 * m + p) x) 3 (6 * m + p) y) 1 (m + 1 - 1) (nI (p + 1)) 3 s = _
    rw [h_u_row (by decide), h_u_ne hs, h_u_row (by decide), h_u_row (by decide)]
  have h10 := hr 10 (by decide) (by decide) (by decide) (by decide)
  unfold LX
  rw [h10, hr 12 (by decide) (by decide) (by decide) (by decide), hr 13 (by decide) (by decide) (by decide) (by decide), hr 14 (by decide) (by decide) (by decide) (by decide), hr 20 (by decide) (by decide) (by decide) (by decide), hr 0 (by decide) (by decide) (by decide) (by decide)]
  refine ⟨⟨a1, a2⟩, ⟨b1, b2, b3, b4, b5, b6⟩, ⟨r12, r13, r14, r20⟩, ⟨d1, d2⟩, ⟨k1, fun k hk => PRT_mono (k2 k hk) rfl (fun _ _ => rfl) (fun _ _ => rfl) (h1 k (by omega)) (fun j hj => h2 _ (by omega)) (fun j hj => h3 _ (by omega)) (Nat.le_refl _), fun k q1 q2 => (h1 k (by omega)).trans (k3 k q1 q2)⟩, ⟨o1, fun o ho => ORD_mono (o2 o ho) rfl rfl rfl rfl (congrFun (hr 4 (by decide) (by decide) (by decide) (by decide)) o) (congrFun (hr 5 (by decide) (by decide) (by decide) (by decide)) o) rfl rfl ⟨[], (List.append_nil _).symm⟩ (Nat.le_refl _) (Nat.le_refl _)⟩, ⟨c1, ?_⟩, nm⟩
  have hm : ∀ j, j < R.1.1 → (e_pt B R.1.1 (6 * m + p) (m + 1) p x y).2 16 j = B.2 16 j := fun j hj => by
    show h_u (h_u (h_u (h_u B.2 16 R.1.1 x) 2 (6 * m + p) x) 3 (6 * m + p) y) 1 (m + 1 - 1) (nI (p + 1)) 16 j = _
    rw [h_u_row (by decide), h_u_row (by decide), h_u_row (by decide), h_u_ne (by omega)]
  rw [g_rs_keep hg hm]
  exact c2
/-- a part's name -/
theorem pt_role (hC : CX D E N) (hri : RI (tE E) N pre ty R) {q0 : Nat} (h : GS D E (XP D E N Ev od q0 deal part) S R) (hl : R.1.1 < N) (h40 : (tE E).1 R.1.1 = 40) : t_pt4 D S deal part = t_adv D (t_pt3 (t_pt2 (t_lk0 S) part) deal part (t_fd0 S)) ∧ GS D E (XQ D E N Ev od deal part (t_fd0 S) (if (tE E).1 (R.1.1 + 1) = 5 then (tE E).2 (R.1.1 + 2) else -(tE E).2 (R.1.1 + 2))) (t_pt4 D S deal part) (r_adv (r_role R 4)) := by
  have hz : Syn D (t_pt3 (t_pt2 (t_lk0 S) part) deal part (t_fd0 S)) R.1.1 := pt3_Syn (pt2_Syn (lk0_Syn h.1))
  have eK : t_pt4 D S deal part = t_adv D (t_pt3 (t_pt2 (t_lk0 S) part) deal part (t_fd0 S)) := gs_exy hC hz (Nat.le_of_lt hl) 2 40 (by decide) h40
  rw [eK]
  refine ⟨rfl, gs_role hC h hl hz (fun q => ?_) (fun B pp b x => ?_)⟩
  · rw [lk0_ff q, pt2_ff q, pt3_ff q]
    exact ⟨rfl, rfl⟩
  · obtain ⟨m, p, x0, x1, x2, x3, x4, x5, x6, x7⟩ := x
    have hm6 : m < 6 := by have := x5.2.1.2.2.2.1; omega
    obtain ⟨t1, -, t3, -⟩ := LX_fd (a := 4) x5 h.1 hl h40
    have ea := e_at4 (E := B) (R := rf (upd R.2.2.2.1 R.1.1 4)) (i := R.1.1) upd_at
    have hn : e_n B 1 = m + 1 := e_nE (by rw [← x2]; exact x5.2.1.2.2.1) (by omega)
    have hq : e_q B (e_n B 1 - 1) = p := e_qE (by rw [hn]; exact x6) (by omega)
    rw [hq, hn] at ea
    rw [ea]
    unfold e_np
    rw [t1]
    by_cases c0 : t_fd0 S = -1
    · have e1 : t_lk0 S = t_blame S 3 := if_pos c0
      obtain ⟨y1, y2⟩ := t_blame_yes (S := S) (e := 3) b
      rw [if_pos c0, e1, pt2_ff (by rw [y1]; decide), pt3_ff (by rw [y1]; decide)]
      exact Or.inr ⟨show ¬ (3 : Int32) = 0 by decide, y1, y2⟩
    have e1 : t_lk0 S = S := if_neg c0
    rw [if_neg c0, e1]
    by_cases c6 : p = 6
    · have e2 : t_pt2 S part = t_blame S 4 := by
        unfold t_pt2
        rw [x4, c6]
        exact if_neg (by decide)
      obtain ⟨y1, y2⟩ := t_blame_yes (S := S) (e := 4) b
      rw [if_pos c6, e2, pt3_ff (by rw [y1]; decide)]
      exact Or.inr ⟨show ¬ (4 : Int32) = 0 by decide, y1, y2⟩
    have e2 : t_pt2 S part = S := by
      unfold t_pt2
      rw [x4]
      exact if_pos (nI_lt (show p < 6 by omega) (by decide))
    rw [if_neg c6, e2]
    have hh : t_has S deal part (t_fd0 S) = true ↔ r_isp B (m + 1) p (t_fd0 S) = true := by
      unfold t_has r_isp
      rw [x3, x4, t_hs_iff hm6 x1 7 0 (Nat.zero_le _) (by omega), h_any_iff]
      constructor
      · rintro ⟨j, -, a, b⟩
        exact ⟨j, a, decide_eq_true (show B.2 2 (6 * m + j) = t_fd0 S from (x7 j a).2.1.symm.trans b)⟩
      · rintro ⟨j, a, b⟩
        exact ⟨j, Nat.zero_le _, a, by rw [(x7 j a).2.1]; exact of_decide_eq_true b⟩
    by_cases c3 : r_isp B (m + 1) p (t_fd0 S) = true
    · have e3 : t_pt3 S deal part (t_fd0 S) = t_blame S 5 := if_pos (hh.mpr c3)
      obtain ⟨y1, y2⟩ := t_blame_yes (S := S) (e := 5) b
      rw [if_pos c3, e3]
      exact Or.inr ⟨show ¬ (5 : Int32) = 0 by decide, y1, y2⟩
    have e3 : t_pt3 S deal part (t_fd0 S) = S := if_neg (fun q => c3 (hh.mp q))
    rw [if_neg c3, e3]
    refine Or.inl ⟨rfl, b, ?_⟩
    obtain ⟨d, hd1, hd2⟩ := r_tdl_lt0 (E := E) (g := R.2.2.2.1) (i := R.1.1) (t := R.1.1) (a := 1) (by rw [← t3]; exact c0)
    have hsg : r_sgn B R.1.1 = (if (tE E).1 (R.1.1 + 1) = 5 then (tE E).2 (R.1.1 + 2) else -(tE E).2 (R.1.1 + 2)) := by
      unfold r_sgn
      rw [LX_num x5, x5.2.2.1.1]
      rfl
    rw [hsg]
    generalize hY : (if (tE E).1 (R.1.1 + 1) = 5 then (tE E).2 (R.1.1 + 2) else -(tE E).2 (R.1.1 + 2)) = Y
    have hx9 := LX_pt (x := t_fd0 S) (y := Y) x2 x5 hri.2.2.2.2.2.2 (show p < 6 by omega)
    have hx8 := LX_role (Z := S) (a := 4) hx9 (fun _ _ => rfl) rfl rfl rfl rfl (by decide) (by decide) (by decide)
    show XQ D E N Ev od deal part (t_fd0 S) Y (t_adv D S) (r_adv (r_role R 4)) (e_pt B R.1.1 (6 * m + p) (m + 1) p (t_fd0 S) Y)
    unfold XQ
    rw [cnt_role (by decide), cnt_role (by decide)]
    refine ⟨m, p, by omega, x2, x3, x4, hx8, ?_, fun j hj => ?_, ⟨d, hd1, t3.trans hd2⟩, ?_, ?_⟩
    · exact e_pt_1e (nk := m + 1)
    · obtain ⟨u1, u2, u3⟩ := x7 j hj
      have h2 : (e_pt B R.1.1 (6 * m + p) (m + 1) p (t_fd0 S) Y).2 2 (6 * m + j) = B.2 2 (6 * m + j) := by
        show h_u (h_u (h_u (h_u B.2 16 R.1.1 (t_fd0 S)) 2 (6 * m + p) (t_fd0 S)) 3 (6 * m + p) Y) 1 (m + 1 - 1) (nI (p + 1)) 2 (6 * m + j) = _
        rw [h_u_row (by decide), h_u_row (by decide), h_u_ne (by omega), h_u_row (by decide)]
      have h3 : (e_pt B R.1.1 (6 * m + p) (m + 1) p (t_fd0 S) Y).2 3 (6 * m + j) = B.2 3 (6 * m + j) := by
        show h_u (h_u (h_u (h_u B.2 16 R.1.1 (t_fd0 S)) 2 (6 * m + p) (t_fd0 S)) 3 (6 * m + p) Y) 1 (m + 1 - 1) (nI (p + 1)) 3 (6 * m + j) = _
        rw [h_u_row (by decide), h_u_ne (by omega), h_u_row (by decide), h_u_row (by decide)]
      rw [t_adv_row (by decide), t_adv_row (by decide), h2, h3]
      exact ⟨u1, u2, u3⟩
    · show h_u (h_u (h_u (h_u B.2 16 R.1.1 (t_fd0 S)) 2 (6 * m + p) (t_fd0 S)) 3 (6 * m + p) Y) 1 (m + 1 - 1) (nI (p + 1)) 2 (6 * m + p) = _
      rw [h_u_row (by decide), h_u_row (by decide), h_u_eq]
    · show h_u (h_u (h_u (h_u B.2 16 R.1.1 (t_fd0 S)) 2 (6 * m + p) (t_fd0 S)) 3 (6 * m + p) Y) 1 (m + 1 - 1) (nI (p + 1)) 3 (6 * m + p) = _
      rw [h_u_row (by decide), h_u_eq]
end XPT
