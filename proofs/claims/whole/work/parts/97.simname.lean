section XSN
variable {D : tK} {E : rE} {N : Nat} {S0 : tS} {B0 : rE} {S : tS} {R : rS}
theorem lk0_f : (∀ r, r ≠ 11 → (t_lk0 S).1 r = S.1 r) ∧ (∀ j, j ≠ 4 → j ≠ 5 → (t_lk0 S).1 11 j = S.1 11 j) ∧ (t_lk0 S).2 = S.2 := by
  unfold t_lk0
  by_cases c : t_fd0 S = -1
  · rw [if_pos c]; exact ⟨fun r h => t_blame_row h, fun j h4 h5 => t_blame_11 h4 h5, t_blame_2⟩
  · rw [if_neg c]; exact ⟨fun _ _ => rfl, fun _ _ _ => rfl, rfl⟩
theorem lk0_Syn {t : Nat} (hs : Syn D S t) : Syn D (t_lk0 S) t := by
  obtain ⟨-, a, b⟩ := lk0_f (S := S)
  unfold Syn
  rw [a 3 (by decide) (by decide), a 0 (by decide) (by decide), a 1 (by decide) (by decide), a 2 (by decide) (by decide), b]
  exact hs
/-- a name that is looked up: what both do at it -/
theorem nm0_step (hC : CX D E N) (HB : B0.2 13 = E.2 13 ∧ B0.2 14 = E.2 14 ∧ B0.2 20 = E.2 20) (h : SIM D E N S0 B0 S R) (hl : R.1.1 < N) (h40 : (tE E).1 R.1.1 = 40) : t_known0 D S = t_adv D (t_lk0 S) ∧ (FT D E (t_adv D (t_lk0 S)) (upd R.2.2.2.1 R.1.1 5) (R.1.1 + 1) ∨ ∃ B, ¬ t_fd0 S = -1 ∧ t_lk0 S = S ∧ P2 E R.2.2.2.1 R.1.1 = (0, R.1.1, B) ∧ P2 E (upd R.2.2.2.1 R.1.1 5) (R.1.1 + 1) = (0, R.1.1 + 1, m_E B R.1.1 (t_fd0 S)) ∧ t_fd0 S = r_tdl E R.2.2.2.1 R.1.1 1 R.1.1 0 0 ∧ S.1 11 4 = 0 ∧ TD D E N S0 B0 S R B) := by
  obtain ⟨hs, h⟩ := h
  obtain ⟨r1, r2, r3⟩ := lk0_f (S := S)
  have k2 : S.1 11 1 = 2 := (Syn_k hC hs (Nat.le_of_lt hl) 2 40 (by decide)).mpr h40
  have e1 : (t_lk0 S).1 11 1 = 2 := (r2 1 (by decide) (by decide)).trans k2
  have eK : t_known0 D S = t_adv D (t_lk0 S) := by
    unfold t_known0 t_exp
    rw [if_pos e1]
  have hu : ∀ k, k < R.1.1 → R.2.2.2.1 k = upd R.2.2.2.1 R.1.1 5 k := fun k hk => (upd_ne (by omega)).symm
  refine ⟨eK, ?_⟩
  rcases h with h | ⟨B, a, b, td⟩
  · obtain ⟨e, j, B, p1, p2, p3, p4⟩ := h
    have hz : t_lk0 S = S := by
      unfold t_lk0
      by_cases c : t_fd0 S = -1
      · rw [if_pos c, t_blame_no (by rw [p3]; exact p1)]
      · rw [if_neg c]
    rw [hz]
    exact Or.inl (FT_step ⟨e, j, B, p1, p2, p3, p4⟩ hu (t_adv_11 (by decide) (by decide) (by decide)) (t_adv_11 (by decide) (by decide) (by decide)))
  · obtain ⟨fs, fb, cd9, hn⟩ := td
    have a' : P2 E (upd R.2.2.2.1 R.1.1 5) R.1.1 = (0, R.1.1, B) := (P2_loc R.1.1 (fun k hk => (hu k hk).symm)).trans a
    have hx0 : t_fd0 S = r_tdl E R.2.2.2.1 R.1.1 1 R.1.1 0 0 := by
      unfold t_fd0
      rw [hs.2.2.2.2]
      exact (hn R.1.1 hl h40).1
    have hx : r_tld B (rf (upd R.2.2.2.1 R.1.1 5)) R.1.1 1 = t_fd0 S := by
      rw [hx0]
      unfold r_tld
      rw [r_tdl_E ((fb.2 13 (by decide)).trans HB.1) ((fb.2 14 (by decide)).trans HB.2.1) ((fb.2 20 (by decide)).trans HB.2.2)]
      exact r_tdl_loc R.1.1 0 0 (fun k _ hk => (hu k (by omega)).symm)
    have ea := e_at5 (E := B) (R := rf (upd R.2.2.2.1 R.1.1 5)) (i := R.1.1) upd_at
    have p2 := P2_ok a'
    rw [ea, hx] at p2
    by_cases c : t_fd0 S = -1
    · have hlk : r_lk B (rf (upd R.2.2.2.1 R.1.1 5)) R.1.1 1 = 3 := by unfold r_lk; rw [hx, if_pos c]
      have hz : t_lk0 S = t_blame S 3 := if_pos c
      obtain ⟨y1, y2⟩ := t_blame_yes (S := S) (e := 3) b
      rw [hz]
      refine Or.inl ⟨3, R.1.1, m_E B R.1.1 (t_fd0 S), by decide, p2.trans ?_, (t_adv_11 (by decide) (by decide) (by decide)).trans y1, ((t_adv_11 (by decide) (by decide) (by decide)).trans y2).trans hs.2.2.2.1⟩
      show (if r_lk B (rf (upd R.2.2.2.1 R.1.1 5)) R.1.1 1 = 0 then _ else (r_lk B (rf (upd R.2.2.2.1 R.1.1 5)) R.1.1 1, R.1.1, m_E B R.1.1 (t_fd0 S))) = _
      rw [hlk]
      exact if_neg (by decide)
    · have hlk : r_lk B (rf (upd R.2.2.2.1 R.1.1 5)) R.1.1 1 = 0 := by unfold r_lk; rw [hx, if_neg c]
      refine Or.inr ⟨B, c, if_neg c, a, p2.trans ?_, hx0, b, fs, fb, cd9, hn⟩
      show (if r_lk B (rf (upd R.2.2.2.1 R.1.1 5)) R.1.1 1 = 0 then _ else _) = _
      rw [hlk]
      exact if_pos rfl
theorem sim_nm0 (hC : CX D E N) (HB : B0.2 13 = E.2 13 ∧ B0.2 14 = E.2 14 ∧ B0.2 20 = E.2 20) {d : Nat × Nat} {cd : List Int32} {op : List Nat} {k : Nat} {kc : Int32} (h : SIM D E N S0 B0 S R) (hl : R.1.1 < N) (h40 : (tE E).1 R.1.1 = 40) (hg : ∀ e, e ∈ R.2.2.2.2 → g_ok (tE E) R.1.1 R.2.2.2.1 e) (hlen : R.2.2.2.2.length < 400) (hk : nI k = kc) (hd : d.1 = R.1.1 + 1) : SIM D E N S0 B0 (t_code (t_known0 D S) kc (t_fd0 S)) (d, cd, op, upd R.2.2.2.1 R.1.1 5, R.2.2.2.2 ++ [(k, 0, some R.1.1)]) := by
  obtain ⟨eK, hs9⟩ := nm0_step hC HB h hl h40
  have hu : ∀ k, k < R.1.1 → R.2.2.2.1 k = upd R.2.2.2.1 R.1.1 5 k := fun k hk => (upd_ne (by omega)).symm
  rw [eK]
  unfold SIM
  show Syn D (t_code (t_adv D (t_lk0 S)) kc (t_fd0 S)) d.1 ∧ (FT D E (t_code (t_adv D (t_lk0 S)) kc (t_fd0 S)) (upd R.2.2.2.1 R.1.1 5) d.1 ∨ ∃ B, P2 E (upd R.2.2.2.1 R.1.1 5) d.1 = (0, d.1, B) ∧ (t_code (t_adv D (t_lk0 S)) kc (t_fd0 S)).1 11 4 = 0 ∧ TD D E N S0 B0 (t_code (t_adv D (t_lk0 S)) kc (t_fd0 S)) (d, cd, op, upd R.2.2.2.1 R.1.1 5, R.2.2.2.2 ++ [(k, 0, some R.1.1)]) B)
  rw [hd]
  refine ⟨Syn_code (Syn_adv hC (lk0_Syn h.1) hl), ?_⟩
  have e11 : (t_code (t_adv D (t_lk0 S)) kc (t_fd0 S)).1 11 = (t_adv D (t_lk0 S)).1 11 := t_code_row (by decide) (by decide) (by decide)
  rcases hs9 with hs9 | ⟨B, c, hz, a, p2, -, b, ⟨f1, f2, f3, f4, f5, f6⟩, fb, ⟨c1, c2⟩, hn⟩
  · exact Or.inl (FT_same hs9 (congrFun e11 4) (congrFun e11 5))
  · rw [hz] at e11 ⊢
    have e12 : ∀ j, j ≠ 0 → j ≠ 1 → j ≠ 2 → (t_code (t_adv D S) kc (t_fd0 S)).1 11 j = S.1 11 j := fun j h0 h1 h2 => (congrFun e11 j).trans (t_adv_11 h0 h1 h2)
    obtain ⟨g1, g2, g3⟩ := t_code_at (S := t_adv D S) (k := kc) (x := t_fd0 S) ((congrFun (t_adv_row (by decide)) 3).trans c1) hlen
    rw [t_adv_row (by decide)] at g2 g3
    refine Or.inr ⟨m_E B R.1.1 (t_fd0 S), p2, (e12 4 (by decide) (by decide) (by decide)).trans b, ⟨fun r r8 r9 r10 r11 => (t_code_row r8 r9 r10).trans ((t_adv_row r11).trans (f1 r r8 r9 r10 r11)), fun j hj => (t_code_10 hj).trans ((congrFun (t_adv_row (by decide)) j).trans (f2 j hj)), (e12 6 (by decide) (by decide) (by decide)).trans f3, (e12 7 (by decide) (by decide) (by decide)).trans f4, f5, f6⟩, ⟨fb.1, fun q hq => (m_E_row hq).trans (fb.2 q hq)⟩, ⟨?_, ?_⟩, ?_⟩
    · show (t_code (t_adv D S) kc (t_fd0 S)).1 10 3 = nI (R.2.2.2.2 ++ [(k, 0, some R.1.1)]).length
      rw [g1, List.length_append]
      rfl
    · show q_code (t_code (t_adv D S) kc (t_fd0 S)).1 0 ((R.2.2.2.2 ++ [(k, 0, some R.1.1)]).map (g_rs ((m_E B R.1.1 (t_fd0 S)).2 16)))
      have hm : ∀ j, j < R.1.1 → (m_E B R.1.1 (t_fd0 S)).2 16 j = B.2 16 j := fun j hj => by
        show h_u B.2 16 R.1.1 (t_fd0 S) 16 j = _
        rw [h_u_ne (by omega)]
      have hm2 : (m_E B R.1.1 (t_fd0 S)).2 16 R.1.1 = t_fd0 S := by
        show h_u B.2 16 R.1.1 (t_fd0 S) 16 R.1.1 = _
        rw [h_u_eq]
      rw [List.map_append, g_rs_keep hg hm]
      have hl9 : (R.2.2.2.2.map (g_rs (B.2 16))).length = R.2.2.2.2.length := List.length_map _
      have e9 : [(k, (0 : Int32), some R.1.1)].map (g_rs ((m_E B R.1.1 (t_fd0 S)).2 16)) = [(k, t_fd0 S)] := by
        show [(k, (m_E B R.1.1 (t_fd0 S)).2 16 R.1.1)] = _
        rw [hm2]
      rw [e9]
      exact q_code_app c2 hk (by rw [hl9]; exact g2) (by rw [hl9]; exact g3)
    · show NM D E N (t_code (t_adv D S) kc (t_fd0 S)) (upd R.2.2.2.1 R.1.1 5) d.1
      rw [hd]
      exact NM_skip hn hu (by rw [upd_at]; decide) (by rw [upd_at]; decide) (e12 6 (by decide) (by decide) (by decide)) (e12 7 (by decide) (by decide) (by decide)) rfl rfl
theorem lk1_f : (∀ r, r ≠ 11 → (t_lk1 S).1 r = S.1 r) ∧ (∀ j, j ≠ 4 → j ≠ 5 → (t_lk1 S).1 11 j = S.1 11 j) ∧ (t_lk1 S).2 = S.2 := by
  unfold t_lk1
  by_cases c : t_fd1 S = -1
  · rw [if_pos c]; exact ⟨fun r h => t_blame_row h, fun j h4 h5 => t_blame_11 h4 h5, t_blame_2⟩
  · rw [if_neg c]; exact ⟨fun _ _ => rfl, fun _ _ _ => rfl, rfl⟩
theorem lk1_Syn {t : Nat} (hs : Syn D S t) : Syn D (t_lk1 S) t := by
  obtain ⟨-, a, b⟩ := lk1_f (S := S)
  unfold Syn
  rw [a 3 (by decide) (by decide), a 0 (by decide) (by decide), a 1 (by decide) (by decide), a 2 (by decide) (by decide), b]
  exact hs
/-- a name that is looked up: what both do at it -/
theorem nm1_step (hC : CX D E N) (HB : B0.2 13 = E.2 13 ∧ B0.2 14 = E.2 14 ∧ B0.2 20 = E.2 20) (h : SIM D E N S0 B0 S R) (hl : R.1.1 < N) (h40 : (tE E).1 R.1.1 = 40) : t_known1 D S = t_adv D (t_lk1 S) ∧ (FT D E (t_adv D (t_lk1 S)) (upd R.2.2.2.1 R.1.1 6) (R.1.1 + 1) ∨ ∃ B, ¬ t_fd1 S = -1 ∧ t_lk1 S = S ∧ P2 E R.2.2.2.1 R.1.1 = (0, R.1.1, B) ∧ P2 E (upd R.2.2.2.1 R.1.1 6) (R.1.1 + 1) = (0, R.1.1 + 1, m_E B R.1.1 (t_fd1 S)) ∧ t_fd1 S = r_tdl E R.2.2.2.1 R.1.1 2 R.1.1 0 0 ∧ S.1 11 4 = 0 ∧ TD D E N S0 B0 S R B) := by
  obtain ⟨hs, h⟩ := h
  obtain ⟨r1, r2, r3⟩ := lk1_f (S := S)
  have k2 : S.1 11 1 = 2 := (Syn_k hC hs (Nat.le_of_lt hl) 2 40 (by decide)).mpr h40
  have e1 : (t_lk1 S).1 11 1 = 2 := (r2 1 (by decide) (by decide)).trans k2
  have eK : t_known1 D S = t_adv D (t_lk1 S) := by
    unfold t_known1 t_exp
    rw [if_pos e1]
  have hu : ∀ k, k < R.1.1 → R.2.2.2.1 k = upd R.2.2.2.1 R.1.1 6 k := fun k hk => (upd_ne (by omega)).symm
  refine ⟨eK, ?_⟩
  rcases h with h | ⟨B, a, b, td⟩
  · obtain ⟨e, j, B, p1, p2, p3, p4⟩ := h
    have hz : t_lk1 S = S := by
      unfold t_lk1
      by_cases c : t_fd1 S = -1
      · rw [if_pos c, t_blame_no (by rw [p3]; exact p1)]
      · rw [if_neg c]
    rw [hz]
    exact Or.inl (FT_step ⟨e, j, B, p1, p2, p3, p4⟩ hu (t_adv_11 (by decide) (by decide) (by decide)) (t_adv_11 (by decide) (by decide) (by decide)))
  · obtain ⟨fs, fb, cd9, hn⟩ := td
    have a' : P2 E (upd R.2.2.2.1 R.1.1 6) R.1.1 = (0, R.1.1, B) := (P2_loc R.1.1 (fun k hk => (hu k hk).symm)).trans a
    have hx0 : t_fd1 S = r_tdl E R.2.2.2.1 R.1.1 2 R.1.1 0 0 := by
      unfold t_fd1
      rw [hs.2.2.2.2]
      exact (hn R.1.1 hl h40).2
    have hx : r_tld B (rf (upd R.2.2.2.1 R.1.1 6)) R.1.1 2 = t_fd1 S := by
      rw [hx0]
      unfold r_tld
      rw [r_tdl_E ((fb.2 13 (by decide)).trans HB.1) ((fb.2 14 (by decide)).trans HB.2.1) ((fb.2 20 (by decide)).trans HB.2.2)]
      exact r_tdl_loc R.1.1 0 0 (fun k _ hk => (hu k (by omega)).symm)
    have ea := e_at6 (E := B) (R := rf (upd R.2.2.2.1 R.1.1 6)) (i := R.1.1) upd_at
    have p2 := P2_ok a'
    rw [ea, hx] at p2
    by_cases c : t_fd1 S = -1
    · have hlk : r_lk B (rf (upd R.2.2.2.1 R.1.1 6)) R.1.1 2 = 3 := by unfold r_lk; rw [hx, if_pos c]
      have hz : t_lk1 S = t_blame S 3 := if_pos c
      obtain ⟨y1, y2⟩ := t_blame_yes (S := S) (e := 3) b
      rw [hz]
      refine Or.inl ⟨3, R.1.1, m_E B R.1.1 (t_fd1 S), by decide, p2.trans ?_, (t_adv_11 (by decide) (by decide) (by decide)).trans y1, ((t_adv_11 (by decide) (by decide) (by decide)).trans y2).trans hs.2.2.2.1⟩
      show (if r_lk B (rf (upd R.2.2.2.1 R.1.1 6)) R.1.1 2 = 0 then _ else (r_lk B (rf (upd R.2.2.2.1 R.1.1 6)) R.1.1 2, R.1.1, m_E B R.1.1 (t_fd1 S))) = _
      rw [hlk]
      exact if_neg (by decide)
    · have hlk : r_lk B (rf (upd R.2.2.2.1 R.1.1 6)) R.1.1 2 = 0 := by unfold r_lk; rw [hx, if_neg c]
      refine Or.inr ⟨B, c, if_neg c, a, p2.trans ?_, hx0, b, fs, fb, cd9, hn⟩
      show (if r_lk B (rf (upd R.2.2.2.1 R.1.1 6)) R.1.1 2 = 0 then _ else _) = _
      rw [hlk]
      exact if_pos rfl
theorem sim_nm1 (hC : CX D E N) (HB : B0.2 13 = E.2 13 ∧ B0.2 14 = E.2 14 ∧ B0.2 20 = E.2 20) {d : Nat × Nat} {cd : List Int32} {op : List Nat} {k : Nat} {kc : Int32} (h : SIM D E N S0 B0 S R) (hl : R.1.1 < N) (h40 : (tE E).1 R.1.1 = 40) (hg : ∀ e, e ∈ R.2.2.2.2 → g_ok (tE E) R.1.1 R.2.2.2.1 e) (hlen : R.2.2.2.2.length < 400) (hk : nI k = kc) (hd : d.1 = R.1.1 + 1) : SIM D E N S0 B0 (t_code (t_known1 D S) kc (t_fd1 S)) (d, cd, op, upd R.2.2.2.1 R.1.1 6, R.2.2.2.2 ++ [(k, 0, some R.1.1)]) := by
  obtain ⟨eK, hs9⟩ := nm1_step hC HB h hl h40
  have hu : ∀ k, k < R.1.1 → R.2.2.2.1 k = upd R.2.2.2.1 R.1.1 6 k := fun k hk => (upd_ne (by omega)).symm
  rw [eK]
  unfold SIM
  show Syn D (t_code (t_adv D (t_lk1 S)) kc (t_fd1 S)) d.1 ∧ (FT D E (t_code (t_adv D (t_lk1 S)) kc (t_fd1 S)) (upd R.2.2.2.1 R.1.1 6) d.1 ∨ ∃ B, P2 E (upd R.2.2.2.1 R.1.1 6) d.1 = (0, d.1, B) ∧ (t_code (t_adv D (t_lk1 S)) kc (t_fd1 S)).1 11 4 = 0 ∧ TD D E N S0 B0 (t_code (t_adv D (t_lk1 S)) kc (t_fd1 S)) (d, cd, op, upd R.2.2.2.1 R.1.1 6, R.2.2.2.2 ++ [(k, 0, some R.1.1)]) B)
  rw [hd]
  refine ⟨Syn_code (Syn_adv hC (lk1_Syn h.1) hl), ?_⟩
  have e11 : (t_code (t_adv D (t_lk1 S)) kc (t_fd1 S)).1 11 = (t_adv D (t_lk1 S)).1 11 := t_code_row (by decide) (by decide) (by decide)
  rcases hs9 with hs9 | ⟨B, c, hz, a, p2, -, b, ⟨f1, f2, f3, f4, f5, f6⟩, fb, ⟨c1, c2⟩, hn⟩
  · exact Or.inl (FT_same hs9 (congrFun e11 4) (congrFun e11 5))
  · rw [hz] at e11 ⊢
    have e12 : ∀ j, j ≠ 0 → j ≠ 1 → j ≠ 2 → (t_code (t_adv D S) kc (t_fd1 S)).1 11 j = S.1 11 j := fun j h0 h1 h2 => (congrFun e11 j).trans (t_adv_11 h0 h1 h2)
    obtain ⟨g1, g2, g3⟩ := t_code_at (S := t_adv D S) (k := kc) (x := t_fd1 S) ((congrFun (t_adv_row (by decide)) 3).trans c1) hlen
    rw [t_adv_row (by decide)] at g2 g3
    refine Or.inr ⟨m_E B R.1.1 (t_fd1 S), p2, (e12 4 (by decide) (by decide) (by decide)).trans b, ⟨fun r r8 r9 r10 r11 => (t_code_row r8 r9 r10).trans ((t_adv_row r11).trans (f1 r r8 r9 r10 r11)), fun j hj => (t_code_10 hj).trans ((congrFun (t_adv_row (by decide)) j).trans (f2 j hj)), (e12 6 (by decide) (by decide) (by decide)).trans f3, (e12 7 (by decide) (by decide) (by decide)).trans f4, f5, f6⟩, ⟨fb.1, fun q hq => (m_E_row hq).trans (fb.2 q hq)⟩, ⟨?_, ?_⟩, ?_⟩
    · show (t_code (t_adv D S) kc (t_fd1 S)).1 10 3 = nI (R.2.2.2.2 ++ [(k, 0, some R.1.1)]).length
      rw [g1, List.length_append]
      rfl
    · show q_code (t_code (t_adv D S) kc (t_fd1 S)).1 0 ((R.2.2.2.2 ++ [(k, 0, some R.1.1)]).map (g_rs ((m_E B R.1.1 (t_fd1 S)).2 16)))
      have hm : ∀ j, j < R.1.1 → (m_E B R.1.1 (t_fd1 S)).2 16 j = B.2 16 j := fun j hj => by
        show h_u B.2 16 R.1.1 (t_fd1 S) 16 j = _
        rw [h_u_ne (by omega)]
      have hm2 : (m_E B R.1.1 (t_fd1 S)).2 16 R.1.1 = t_fd1 S := by
        show h_u B.2 16 R.1.1 (t_fd1 S) 16 R.1.1 = _
        rw [h_u_eq]
      rw [List.map_append, g_rs_keep hg hm]
      have hl9 : (R.2.2.2.2.map (g_rs (B.2 16))).length = R.2.2.2.2.length := List.length_map _
      have e9 : [(k, (0 : Int32), some R.1.1)].map (g_rs ((m_E B R.1.1 (t_fd1 S)).2 16)) = [(k, t_fd1 S)] := by
        show [(k, (m_E B R.1.1 (t_fd1 S)).2 16 R.1.1)] = _
        rw [hm2]
      rw [e9]
      exact q_code_app c2 hk (by rw [hl9]; exact g2) (by rw [hl9]; exact g3)
    · show NM D E N (t_code (t_adv D S) kc (t_fd1 S)) (upd R.2.2.2.1 R.1.1 6) d.1
      rw [hd]
      exact NM_skip hn hu (by rw [upd_at]; decide) (by rw [upd_at]; decide) (e12 6 (by decide) (by decide) (by decide)) (e12 7 (by decide) (by decide) (by decide)) rfl rfl
end XSN
