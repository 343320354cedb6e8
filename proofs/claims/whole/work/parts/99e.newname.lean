section XDR
variable {D : tK} {E Ev B : rE} {N od dn kn : Nat} {S : tS} {R : rS} {pre : List rI} {ty : List Bool}
theorem n_ac_nI {n m : Nat} (hn : n < 2 ^ 30) (hm : m < n) : n_ac n (nI m) = nI (m + 1) := by
  unfold n_ac
  rw [if_neg (nI_pos (by omega)), if_neg (nI_ge (by omega) (by omega)), nI_1]
theorem old_Syn {t : Nat} (h : Syn D S t) : Syn D (t_old S) t := by
  unfold t_old
  by_cases c : t_fd0 S = -1
  · rw [if_pos c]
    by_cases c2 : t_fd1 S = -1
    · rw [if_pos c2]; exact h
    · rw [if_neg c2]; exact bl_Syn h
  · rw [if_neg c]; exact bl_Syn h
theorem old_ff (h : ¬ S.1 11 4 = 0) : t_old S = S := by
  unfold t_old
  rw [t_blame_no h]
  by_cases c : t_fd0 S = -1
  · rw [if_pos c]
    by_cases c2 : t_fd1 S = -1
    · rw [if_pos c2]
    · rw [if_neg c2]
  · rw [if_neg c]
theorem full0_Syn {t : Nat} (h : Syn D S t) : Syn D (t_full0 S) t := by
  unfold t_full0
  by_cases c : nI 8 ≤ S.1 11 6
  · rw [if_pos c]; exact bl_Syn h
  · rw [if_neg c]; exact h
theorem full0_ff (h : ¬ S.1 11 4 = 0) : t_full0 S = S := by
  unfold t_full0
  rw [t_blame_no h]
  by_cases c : nI 8 ≤ S.1 11 6
  · rw [if_pos c]
  · rw [if_neg c]
theorem add0_11 {j : Nat} (h : j ≠ 6) : (t_add0 S).1 11 j = S.1 11 j := by
  show h_u S.1 11 6 (n_ac 8 (S.1 11 6)) 11 j = _
  rw [h_u_ne h]
theorem add0_row {r : Nat} (h : r ≠ 11) : (t_add0 S).1 r = S.1 r := by
  show h_u S.1 11 6 (n_ac 8 (S.1 11 6)) r = _
  rw [h_u_row h]
theorem add0_Syn {t : Nat} (h : Syn D S t) : Syn D (t_add0 S) t := by
  unfold Syn
  rw [add0_11 (by decide), add0_11 (by decide), add0_11 (by decide), add0_11 (by decide)]
  exact h
theorem full1_Syn {t : Nat} (h : Syn D S t) : Syn D (t_full1 S) t := by
  unfold t_full1
  by_cases c : nI 6 ≤ S.1 11 7
  · rw [if_pos c]; exact bl_Syn h
  · rw [if_neg c]; exact h
theorem full1_ff (h : ¬ S.1 11 4 = 0) : t_full1 S = S := by
  unfold t_full1
  rw [t_blame_no h]
  by_cases c : nI 6 ≤ S.1 11 7
  · rw [if_pos c]
  · rw [if_neg c]
theorem add1_11 {j : Nat} (h : j ≠ 7) : (t_add1 S).1 11 j = S.1 11 j := by
  show h_u S.1 11 7 (n_ac 6 (S.1 11 7)) 11 j = _
  rw [h_u_ne h]
theorem add1_row {r : Nat} (h : r ≠ 11) : (t_add1 S).1 r = S.1 r := by
  show h_u S.1 11 7 (n_ac 6 (S.1 11 7)) r = _
  rw [h_u_row h]
theorem add1_Syn {t : Nat} (h : Syn D S t) : Syn D (t_add1 S) t := by
  unfold Syn
  rw [add1_11 (by decide), add1_11 (by decide), add1_11 (by decide), add1_11 (by decide)]
  exact h
/-- a new name: told twice, too many, or one more -/
theorem new0_role (hC : CX D E N) {X : tS → rS → rE → Prop} (h : GS D E (LD D E N Ev od) S R) (hl : R.1.1 < N) (h40 : (tE E).1 R.1.1 = 40) (hX : ∀ B, LD D E N Ev od S R B → cnt R.2.2.2.1 1 R.1.1 < 8 → t_fd0 S = r_tdl E R.2.2.2.1 R.1.1 1 R.1.1 0 0 → t_fd1 S = r_tdl E R.2.2.2.1 R.1.1 2 R.1.1 0 0 → t_fd0 S = -1 → t_fd1 S = -1 → Syn D S R.1.1 → X (t_adv D (t_add0 S)) (r_adv (r_role R 1)) (e_dr B R.1.1 (cnt R.2.2.2.1 1 R.1.1))) : t_new0 D S = t_adv D (t_add0 (t_full0 (t_old S))) ∧ GS D E X (t_new0 D S) (r_adv (r_role R 1)) := by
  have hz : Syn D (t_add0 (t_full0 (t_old S))) R.1.1 := add0_Syn (full0_Syn (old_Syn h.1))
  have eK : t_new0 D S = t_adv D (t_add0 (t_full0 (t_old S))) := gs_exy hC hz (Nat.le_of_lt hl) 2 40 (by decide) h40
  rw [eK]
  refine ⟨rfl, gs_role hC h hl hz (fun q => ?_) (fun B p b x => ?_)⟩
  · rw [old_ff q, full0_ff q]
    exact ⟨add0_11 (by decide), add0_11 (by decide)⟩
  · obtain ⟨t1, t2, t3, t4⟩ := LX_fd (a := 1) x h.1 hl h40
    have ea := e_at1 (E := B) (R := rf (upd R.2.2.2.1 R.1.1 1)) (i := R.1.1) upd_at
    have hn := e_nE (E := B) (j := 0) x.2.1.1 (by have := x.2.1.2.1; omega)
    have hle := x.2.1.2.1
    have hs6 := x.1.1
    rw [ea, hn]
    have bad : ∀ (e : Int32) (Z : tS), ¬ e = 0 → Z = t_blame S e → r_new B (rf (upd R.2.2.2.1 R.1.1 1)) R.1.1 (nI (cnt R.2.2.2.1 1 R.1.1)) 8 = e → t_full0 (t_old S) = Z → (¬ r_new B (rf (upd R.2.2.2.1 R.1.1 1)) R.1.1 (nI (cnt R.2.2.2.1 1 R.1.1)) 8 = 0 ∧ (t_add0 (t_full0 (t_old S))).1 11 4 = r_new B (rf (upd R.2.2.2.1 R.1.1 1)) R.1.1 (nI (cnt R.2.2.2.1 1 R.1.1)) 8 ∧ (t_add0 (t_full0 (t_old S))).1 11 5 = S.1 11 2) := by
      intro e Z he hZ hr ho
      obtain ⟨y1, y2⟩ := t_blame_yes (S := S) (e := e) b
      rw [ho, hZ, hr]
      exact ⟨he, (add0_11 (by decide)).trans y1, (add0_11 (by decide)).trans y2⟩
    by_cases c0 : t_fd0 S = -1
    · by_cases c1 : t_fd1 S = -1
      · have hold : t_old S = S := by unfold t_old; rw [if_pos c0, if_pos c1]
        by_cases c8 : cnt R.2.2.2.1 1 R.1.1 = 8
        · have hr : r_new B (rf (upd R.2.2.2.1 R.1.1 1)) R.1.1 (nI (cnt R.2.2.2.1 1 R.1.1)) 8 = 4 := by
            unfold r_new
            rw [t1, t2, if_pos c0, if_pos c1, c8]
            exact if_pos rfl
          have hfl : t_full0 S = t_blame S 4 := by
            unfold t_full0
            rw [hs6, c8]
            exact if_pos (Int32.le_refl _)
          exact Or.inr (bad 4 _ (by decide) rfl hr (by rw [hold]; exact hfl))
        · have hr : r_new B (rf (upd R.2.2.2.1 R.1.1 1)) R.1.1 (nI (cnt R.2.2.2.1 1 R.1.1)) 8 = 0 := by
            unfold r_new
            rw [t1, t2, if_pos c0, if_pos c1]
            exact if_neg (fun q => c8 ((nI_eq (b := 8) (by omega) (by omega)).mp q))
          have hfl : t_full0 S = S := by
            unfold t_full0
            rw [hs6, if_neg (nI_ge (by omega) (by omega))]
          rw [hold, hfl, if_pos hr]
          exact Or.inl ⟨hr, (add0_11 (by decide)).trans b, hX B x (by omega) t3 t4 c0 c1 h.1⟩
      · have hold : t_old S = t_blame S 2 := by unfold t_old; rw [if_pos c0, if_neg c1]
        have hr : r_new B (rf (upd R.2.2.2.1 R.1.1 1)) R.1.1 (nI (cnt R.2.2.2.1 1 R.1.1)) 8 = 2 := by
          unfold r_new
          rw [t1, t2, if_pos c0, if_neg c1]
        exact Or.inr (bad 2 _ (by decide) rfl hr (by rw [hold, full0_ff (by rw [(t_blame_yes b).1]; decide)]))
    · have hold : t_old S = t_blame S 2 := by unfold t_old; rw [if_neg c0]
      have hr : r_new B (rf (upd R.2.2.2.1 R.1.1 1)) R.1.1 (nI (cnt R.2.2.2.1 1 R.1.1)) 8 = 2 := by
        unfold r_new
        rw [t1, if_neg c0]
      exact Or.inr (bad 2 _ (by decide) rfl hr (by rw [hold, full0_ff (by rw [(t_blame_yes b).1]; decide)]))
/-- the names, with one more -/
theorem NM_add0 (hC : CX D E N) (nm : NM D E N S R.2.2.2.1 R.1.1) (hs : Syn D S R.1.1) (hl : R.1.1 < N) (h40 : E.2 12 R.1.1 = 40) (h6 : S.1 11 6 = nI (cnt R.2.2.2.1 1 R.1.1)) (h8 : cnt R.2.2.2.1 1 R.1.1 < 8) : NM D E N (t_adv D (t_add0 S)) (upd R.2.2.2.1 R.1.1 1) (R.1.1 + 1) := by
  have hu : ∀ k, 0 ≤ k → k < 0 + R.1.1 → upd R.2.2.2.1 R.1.1 1 k = R.2.2.2.1 k := fun k _ hk => upd_ne (by omega)
  have hN4 := hC.1.1
  intro i hi hk
  obtain ⟨q1, q2⟩ := nm i hi hk
  have e6 : (t_adv D (t_add0 S)).1 11 6 = n_ac 8 (S.1 11 6) := by
    rw [t_adv_11 (by decide) (by decide) (by decide)]
    show h_u S.1 11 6 (n_ac 8 (S.1 11 6)) 11 6 = _
    rw [h_u_eq]
  have e7 : (t_adv D (t_add0 S)).1 11 7 = S.1 11 7 := by
    rw [t_adv_11 (by decide) (by decide) (by decide), add0_11 (by decide)]
  have ec : cnt (upd R.2.2.2.1 R.1.1 1) 1 R.1.1 = cnt R.2.2.2.1 1 R.1.1 := cnt_loc R.1.1 (fun k hk => upd_ne (by omega))
  have more : n_find 8 (n_aw 8 S.2.1 (S.1 11 6) S.2.2.2) (n_ac 8 (S.1 11 6)) (D.2.2.2.2 i) = r_tdl E (upd R.2.2.2.1 R.1.1 1) i 1 (R.1.1 + 1) 0 0 := by
    rw [r_tdl_more R.1.1 0 0 (by omega) (by rw [Nat.zero_add]; exact upd_at), r_tdl_loc R.1.1 0 0 hu, ← q1, h6, n_find_more (by decide) h8, Nat.zero_add, ec, hs.2.2.2.2]
    have e0 : cnt (upd R.2.2.2.1 R.1.1 1) 1 0 = 0 := rfl
    rw [e0, Nat.sub_zero, Nat.zero_add]
    have hsm := tk_same hC hl hi h40 hk
    by_cases c : D.2.2.2.2 R.1.1 = D.2.2.2.2 i
    · rw [if_pos c, if_pos (hsm.mp c)]
    · rw [if_neg c, if_neg (fun q => c (hsm.mpr q))]
  have same : n_find 6 S.2.2.1 (S.1 11 7) (D.2.2.2.2 i) = r_tdl E (upd R.2.2.2.1 R.1.1 1) i 2 (R.1.1 + 1) 0 0 := by
    rw [r_tdl_skip R.1.1 0 0 (by rw [Nat.zero_add, upd_at]; decide), r_tdl_loc R.1.1 0 0 hu]
    exact q2
  rw [e6, e7]
  exact ⟨more, same⟩
/-- a new name: told twice, too many, or one more -/
theorem new1_role (hC : CX D E N) {X : tS → rS → rE → Prop} (h : GS D E (LD D E N Ev od) S R) (hl : R.1.1 < N) (h40 : (tE E).1 R.1.1 = 40) (hX : ∀ B, LD D E N Ev od S R B → cnt R.2.2.2.1 2 R.1.1 < 6 → t_fd0 S = r_tdl E R.2.2.2.1 R.1.1 1 R.1.1 0 0 → t_fd1 S = r_tdl E R.2.2.2.1 R.1.1 2 R.1.1 0 0 → t_fd0 S = -1 → t_fd1 S = -1 → Syn D S R.1.1 → X (t_adv D (t_add1 S)) (r_adv (r_role R 2)) (e_dl B (cnt R.2.2.2.1 2 R.1.1))) : t_new1 D S = t_adv D (t_add1 (t_full1 (t_old S))) ∧ GS D E X (t_new1 D S) (r_adv (r_role R 2)) := by
  have hz : Syn D (t_add1 (t_full1 (t_old S))) R.1.1 := add1_Syn (full1_Syn (old_Syn h.1))
  have eK : t_new1 D S = t_adv D (t_add1 (t_full1 (t_old S))) := gs_exy hC hz (Nat.le_of_lt hl) 2 40 (by decide) h40
  rw [eK]
  refine ⟨rfl, gs_role hC h hl hz (fun q => ?_) (fun B p b x => ?_)⟩
  · rw [old_ff q, full1_ff q]
    exact ⟨add1_11 (by decide), add1_11 (by decide)⟩
  · obtain ⟨t1, t2, t3, t4⟩ := LX_fd (a := 2) x h.1 hl h40
    have ea := e_at2 (E := B) (R := rf (upd R.2.2.2.1 R.1.1 2)) (i := R.1.1) upd_at
    have hn := e_nE (E := B) (j := 1) x.2.1.2.2.1 (by have := x.2.1.2.2.2.1; omega)
    have hle := x.2.1.2.2.2.1
    have hs6 := x.1.2
    rw [ea, hn]
    have bad : ∀ (e : Int32) (Z : tS), ¬ e = 0 → Z = t_blame S e → r_new B (rf (upd R.2.2.2.1 R.1.1 2)) R.1.1 (nI (cnt R.2.2.2.1 2 R.1.1)) 6 = e → t_full1 (t_old S) = Z → (¬ r_new B (rf (upd R.2.2.2.1 R.1.1 2)) R.1.1 (nI (cnt R.2.2.2.1 2 R.1.1)) 6 = 0 ∧ (t_add1 (t_full1 (t_old S))).1 11 4 = r_new B (rf (upd R.2.2.2.1 R.1.1 2)) R.1.1 (nI (cnt R.2.2.2.1 2 R.1.1)) 6 ∧ (t_add1 (t_full1 (t_old S))).1 11 5 = S.1 11 2) := by
      intro e Z he hZ hr ho
      obtain ⟨y1, y2⟩ := t_blame_yes (S := S) (e := e) b
      rw [ho, hZ, hr]
      exact ⟨he, (add1_11 (by decide)).trans y1, (add1_11 (by decide)).trans y2⟩
    by_cases c0 : t_fd0 S = -1
    · by_cases c1 : t_fd1 S = -1
      · have hold : t_old S = S := by unfold t_old; rw [if_pos c0, if_pos c1]
        by_cases c8 : cnt R.2.2.2.1 2 R.1.1 = 6
        · have hr : r_new B (rf (upd R.2.2.2.1 R.1.1 2)) R.1.1 (nI (cnt R.2.2.2.1 2 R.1.1)) 6 = 4 := by
            unfold r_new
            rw [t1, t2, if_pos c0, if_pos c1, c8]
            exact if_pos rfl
          have hfl : t_full1 S = t_blame S 4 := by
            unfold t_full1
            rw [hs6, c8]
            exact if_pos (Int32.le_refl _)
          exact Or.inr (bad 4 _ (by decide) rfl hr (by rw [hold]; exact hfl))
        · have hr : r_new B (rf (upd R.2.2.2.1 R.1.1 2)) R.1.1 (nI (cnt R.2.2.2.1 2 R.1.1)) 6 = 0 := by
            unfold r_new
            rw [t1, t2, if_pos c0, if_pos c1]
            exact if_neg (fun q => c8 ((nI_eq (b := 6) (by omega) (by omega)).mp q))
          have hfl : t_full1 S = S := by
            unfold t_full1
            rw [hs6, if_neg (nI_ge (by omega) (by omega))]
          rw [hold, hfl, if_pos hr]
          exact Or.inl ⟨hr, (add1_11 (by decide)).trans b, hX B x (by omega) t3 t4 c0 c1 h.1⟩
      · have hold : t_old S = t_blame S 2 := by unfold t_old; rw [if_pos c0, if_neg c1]
        have hr : r_new B (rf (upd R.2.2.2.1 R.1.1 2)) R.1.1 (nI (cnt R.2.2.2.1 2 R.1.1)) 6 = 2 := by
          unfold r_new
          rw [t1, t2, if_pos c0, if_neg c1]
        exact Or.inr (bad 2 _ (by decide) rfl hr (by rw [hold, full1_ff (by rw [(t_blame_yes b).1]; decide)]))
    · have hold : t_old S = t_blame S 2 := by unfold t_old; rw [if_neg c0]
      have hr : r_new B (rf (upd R.2.2.2.1 R.1.1 2)) R.1.1 (nI (cnt R.2.2.2.1 2 R.1.1)) 6 = 2 := by
        unfold r_new
        rw [t1, if_neg c0]
      exact Or.inr (bad 2 _ (by decide) rfl hr (by rw [hold, full1_ff (by rw [(t_blame_yes b).1]; decide)]))
/-- the names, with one more -/
theorem NM_add1 (hC : CX D E N) (nm : NM D E N S R.2.2.2.1 R.1.1) (hs : Syn D S R.1.1) (hl : R.1.1 < N) (h40 : E.2 12 R.1.1 = 40) (h6 : S.1 11 7 = nI (cnt R.2.2.2.1 2 R.1.1)) (h8 : cnt R.2.2.2.1 2 R.1.1 < 6) : NM D E N (t_adv D (t_add1 S)) (upd R.2.2.2.1 R.1.1 2) (R.1.1 + 1) := by
  have hu : ∀ k, 0 ≤ k → k < 0 + R.1.1 → upd R.2.2.2.1 R.1.1 2 k = R.2.2.2.1 k := fun k _ hk => upd_ne (by omega)
  have hN4 := hC.1.1
  intro i hi hk
  obtain ⟨q1, q2⟩ := nm i hi hk
  have e6 : (t_adv D (t_add1 S)).1 11 7 = n_ac 6 (S.1 11 7) := by
    rw [t_adv_11 (by decide) (by decide) (by decide)]
    show h_u S.1 11 7 (n_ac 6 (S.1 11 7)) 11 7 = _
    rw [h_u_eq]
  have e7 : (t_adv D (t_add1 S)).1 11 6 = S.1 11 6 := by
    rw [t_adv_11 (by decide) (by decide) (by decide), add1_11 (by decide)]
  have ec : cnt (upd R.2.2.2.1 R.1.1 2) 2 R.1.1 = cnt R.2.2.2.1 2 R.1.1 := cnt_loc R.1.1 (fun k hk => upd_ne (by omega))
  have more : n_find 6 (n_aw 6 S.2.2.1 (S.1 11 7) S.2.2.2) (n_ac 6 (S.1 11 7)) (D.2.2.2.2 i) = r_tdl E (upd R.2.2.2.1 R.1.1 2) i 2 (R.1.1 + 1) 0 0 := by
    rw [r_tdl_more R.1.1 0 0 (by omega) (by rw [Nat.zero_add]; exact upd_at), r_tdl_loc R.1.1 0 0 hu, ← q2, h6, n_find_more (by decide) h8, Nat.zero_add, ec, hs.2.2.2.2]
    have e0 : cnt (upd R.2.2.2.1 R.1.1 2) 2 0 = 0 := rfl
    rw [e0, Nat.sub_zero, Nat.zero_add]
    have hsm := tk_same hC hl hi h40 hk
    by_cases c : D.2.2.2.2 R.1.1 = D.2.2.2.2 i
    · rw [if_pos c, if_pos (hsm.mp c)]
    · rw [if_neg c, if_neg (fun q => c (hsm.mpr q))]
  have same : n_find 8 S.2.1 (S.1 11 6) (D.2.2.2.2 i) = r_tdl E (upd R.2.2.2.1 R.1.1 2) i 1 (R.1.1 + 1) 0 0 := by
    rw [r_tdl_skip R.1.1 0 0 (by rw [Nat.zero_add, upd_at]; decide), r_tdl_loc R.1.1 0 0 hu]
    exact q1
  rw [e6, e7]
  exact ⟨same, more⟩
end XDR
