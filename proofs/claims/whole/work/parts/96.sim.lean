/-- the tokens of both -/
def CX (D : tK) (E : rE) (N : Nat) : Prop := r_tok (tE E) N ∧ ∀ j, j ≤ N → TF (E.2 20) D.2.2 E j
def Syn (D : tK) (S : tS) (t : Nat) : Prop := S.1 11 3 = -1 ∧ S.1 11 0 = nI t ∧ S.1 11 1 = D.2.2.1 t ∧ S.1 11 2 = D.2.2.2.1 t ∧ S.2.2.2 = D.2.2.2.2 t
def FrS (S0 S : tS) : Prop := (∀ r, r ≠ 8 → r ≠ 9 → r ≠ 10 → r ≠ 11 → S.1 r = S0.1 r) ∧ (∀ j, j ≠ 3 → S.1 10 j = S0.1 10 j) ∧ S.1 11 6 = S0.1 11 6 ∧ S.1 11 7 = S0.1 11 7 ∧ S.2.1 = S0.2.1 ∧ S.2.2.1 = S0.2.2.1
def FrB (B0 B : rE) : Prop := B.1 = B0.1 ∧ ∀ q, q ≠ 16 → B.2 q = B0.2 q
def Cod (S : tS) (G : List rI) (m : Nat → Int32) : Prop := S.1 10 3 = nI G.length ∧ q_code S.1 0 (G.map (g_rs m))
def NM (D : tK) (E : rE) (N : Nat) (S : tS) (g : Nat → Int32) (t : Nat) : Prop := ∀ i, i < N → E.2 12 i = 40 → n_find 8 S.2.1 (S.1 11 6) (D.2.2.2.2 i) = r_tdl E g i 1 t 0 0 ∧ n_find 6 S.2.2.1 (S.1 11 7) (D.2.2.2.2 i) = r_tdl E g i 2 t 0 0
def FT (D : tK) (E : rE) (S : tS) (g : Nat → Int32) (t : Nat) : Prop := ∃ (e : Int32) (j : Nat) (B : rE), ¬ e = 0 ∧ P2 E g t = (e, j, B) ∧ S.1 11 4 = e ∧ S.1 11 5 = D.2.2.2.1 j
def TD (D : tK) (E : rE) (N : Nat) (S0 : tS) (B0 : rE) (S : tS) (R : rS) (B : rE) : Prop := FrS S0 S ∧ FrB B0 B ∧ Cod S R.2.2.2.2 (B.2 16) ∧ NM D E N S R.2.2.2.1 R.1.1
/-- both readings stand at one token: a fault has been found by both, or all told is the same -/
def SIM (D : tK) (E : rE) (N : Nat) (S0 : tS) (B0 : rE) (S : tS) (R : rS) : Prop := Syn D S R.1.1 ∧ (FT D E S R.2.2.2.1 R.1.1 ∨ ∃ B, P2 E R.2.2.2.1 R.1.1 = (0, R.1.1, B) ∧ S.1 11 4 = 0 ∧ TD D E N S0 B0 S R B)
section XSIM
variable {D : tK} {E : rE} {N : Nat} {S0 : tS} {B0 : rE} {S : tS} {R : rS}
theorem CX_st (hC : CX D E N) {t : Nat} (h : t ≤ N) : ¬ D.2.2.2.1 t = -1 := by
  obtain ⟨-, b, ⟨p, hp, c⟩, -⟩ := hC.2 t h
  intro q
  have e : nI p = -1 := c.symm.trans (b.symm.trans q)
  have h1 := congrArg Int32.toInt e
  rw [nI_toInt (by omega), show (-1 : Int32).toInt = -1 by decide] at h1
  omega
/-- a kind of the class is there just where the reference's is -/
theorem Syn_k (hC : CX D E N) {t : Nat} (hs : Syn D S t) (ht : t ≤ N) (c0 r0 : Int32) (hq : (c0, r0) ∈ tk_M) : S.1 11 1 = c0 ↔ (tE E).1 t = r0 := by
  rw [hs.2.2.1]
  exact tk_e (hC.2 t ht).1 c0 r0 hq
theorem Syn_adv (hC : CX D E N) {t : Nat} (hs : Syn D S t) (ht : t < N) : Syn D (t_adv D S) (t + 1) := by
  have hN := hC.1.1
  obtain ⟨a, b, c, d⟩ := t_adv_tk (D := D) hs.2.1 (by omega)
  exact ⟨(t_adv_11 (by decide) (by decide) (by decide)).trans hs.1, a, b, c, d⟩
theorem Syn_brk (hC : CX D E N) {t : Nat} (hs : Syn D S t) (ht : t ≤ N) : t_bk (t_brk S) (D.2.2.2.1 t) := by
  refine ⟨?_, CX_st hC ht⟩
  unfold t_brk
  rw [if_pos hs.1]
  show h_u (h_u S.1 11 3 (S.1 11 2)) 11 1 1 11 3 = _
  rw [h_u_ne (by decide), h_u_eq]
  exact hs.2.2.2.1
theorem Syn_code {t : Nat} {k x : Int32} (hs : Syn D S t) : Syn D (t_code S k x) t := by
  have e : (t_code S k x).1 11 = S.1 11 := t_code_row (by decide) (by decide) (by decide)
  unfold Syn
  rw [e]
  exact hs
theorem FT_step {S' : tS} {g g' : Nat → Int32} {t : Nat} (h : FT D E S g t) (hl : ∀ k, k < t → g k = g' k) (h4 : S'.1 11 4 = S.1 11 4) (h5 : S'.1 11 5 = S.1 11 5) : FT D E S' g' (t + 1) := by
  obtain ⟨e, j, B, a, b, c, d⟩ := h
  have b' : P2 E g' t = (e, j, B) := (P2_loc t (fun k hk => (hl k hk).symm)).trans b
  refine ⟨e, j, B, a, ?_, h4.trans c, h5.trans d⟩
  rw [P2_bad (by rw [b']; exact a)]
  exact b'
theorem FT_same {S' : tS} {g : Nat → Int32} {t : Nat} (h : FT D E S g t) (h4 : S'.1 11 4 = S.1 11 4) (h5 : S'.1 11 5 = S.1 11 5) : FT D E S' g t := by
  obtain ⟨e, j, B, a, b, c, d⟩ := h
  exact ⟨e, j, B, a, b, h4.trans c, h5.trans d⟩
theorem P2_0 {B : rE} {g : Nat → Int32} {t : Nat} (h : P2 E g t = (0, t, B)) (h0 : g t = 0) : P2 E g (t + 1) = (0, t + 1, B) := by
  rw [P2_ok h, e_at0 (R := rf g) h0]
  exact if_pos rfl
theorem NM_skip {S' : tS} {g g' : Nat → Int32} {t : Nat} (h : NM D E N S g t) (hl : ∀ k, k < t → g k = g' k) (h1 : g' t ≠ 1) (h2 : g' t ≠ 2) (e6 : S'.1 11 6 = S.1 11 6) (e7 : S'.1 11 7 = S.1 11 7) (e1 : S'.2.1 = S.2.1) (e2 : S'.2.2.1 = S.2.2.1) : NM D E N S' g' (t + 1) := by
  intro i hi h40
  obtain ⟨a, b⟩ := h i hi h40
  rw [e6, e7, e1, e2, r_tdl_skip t 0 0 (by rw [Nat.zero_add]; exact h1), r_tdl_skip t 0 0 (by rw [Nat.zero_add]; exact h2)]
  rw [r_tdl_loc (g := g') (g' := g) t 0 0 (fun j _ hj => (hl j (by omega)).symm), r_tdl_loc (g := g') (g' := g) t 0 0 (fun j _ hj => (hl j (by omega)).symm)]
  exact ⟨a, b⟩
theorem NM_same {S' : tS} {g : Nat → Int32} {t : Nat} (h : NM D E N S g t) (e6 : S'.1 11 6 = S.1 11 6) (e7 : S'.1 11 7 = S.1 11 7) (e1 : S'.2.1 = S.2.1) (e2 : S'.2.2.1 = S.2.2.1) : NM D E N S' g t := by
  intro i hi h40
  rw [e6, e7, e1, e2]
  exact h i hi h40
theorem sim_adv (hC : CX D E N) (h : SIM D E N S0 B0 S R) (hl : R.1.1 < N) (h0 : R.2.2.2.1 R.1.1 = 0) : SIM D E N S0 B0 (t_adv D S) (r_adv R) := by
  obtain ⟨hs, h⟩ := h
  have e4 : (t_adv D S).1 11 4 = S.1 11 4 := t_adv_11 (by decide) (by decide) (by decide)
  have e5 : (t_adv D S).1 11 5 = S.1 11 5 := t_adv_11 (by decide) (by decide) (by decide)
  have e6 : (t_adv D S).1 11 6 = S.1 11 6 := t_adv_11 (by decide) (by decide) (by decide)
  have e7 : (t_adv D S).1 11 7 = S.1 11 7 := t_adv_11 (by decide) (by decide) (by decide)
  refine ⟨Syn_adv hC hs hl, ?_⟩
  rcases h with h | ⟨B, a, b, ⟨f1, f2, f3, f4, f5, f6⟩, fb, ⟨c1, c2⟩, hn⟩
  · exact Or.inl (FT_step h (fun _ _ => rfl) e4 e5)
  · refine Or.inr ⟨B, P2_0 a h0, e4.trans b, ⟨fun r r8 r9 r10 r11 => (t_adv_row r11).trans (f1 r r8 r9 r10 r11), fun j hj => (congrFun (t_adv_row (by decide)) j).trans (f2 j hj), e6.trans f3, e7.trans f4, f5, f6⟩, fb, ⟨(congrFun (t_adv_row (by decide)) 3).trans c1, fun i q hq => ?_⟩, NM_skip hn (fun _ _ => rfl) ?_ ?_ e6 e7 rfl rfl⟩
    · rw [t_adv_row (by decide), t_adv_row (by decide)]
      exact c2 i q hq
    · show R.2.2.2.1 R.1.1 ≠ 1
      rw [h0]; decide
    · show R.2.2.2.1 R.1.1 ≠ 2
      rw [h0]; decide
theorem q_code_app {Q Q' : HS} {G : List (Nat × Int32)} {q : Nat × Int32} {k : Int32} (h : q_code Q 0 G) (hk : nI q.1 = k) (e8 : Q' 8 = upd (Q 8) G.length k) (e9 : Q' 9 = upd (Q 9) G.length q.2) : q_code Q' 0 (G ++ [q]) := by
  intro i p hp
  rw [e8, e9, Nat.zero_add]
  by_cases c : i < G.length
  · rw [List.getElem?_append_left c] at hp
    rw [upd_ne (by omega), upd_ne (by omega)]
    have := h i p hp
    rw [Nat.zero_add] at this
    exact this
  · rw [List.getElem?_append_right (by omega)] at hp
    have hi : i - G.length = 0 := by
      rcases Nat.eq_zero_or_pos (i - G.length) with z | z
      · exact z
      · rw [List.getElem?_eq_none (by simp; omega)] at hp
        cases hp
    rw [hi] at hp
    have e : i = G.length := by omega
    have hq : q = p := Option.some.inj hp
    rw [e, upd_at, upd_at, ← hq]
    exact ⟨hk.symm, rfl⟩
/-- one entry of code, without a name -/
theorem sim_code {d : Nat × Nat} {cd : List Int32} {op : List Nat} {k : Nat} {kc x : Int32} (h : SIM D E N S0 B0 S R) (hlen : R.2.2.2.2.length < 400) (hk : nI k = kc) (hd : d.1 = R.1.1) : SIM D E N S0 B0 (t_code S kc x) (d, cd, op, R.2.2.2.1, R.2.2.2.2 ++ [(k, x, none)]) := by
  obtain ⟨hs, h⟩ := h
  have e11 : (t_code S kc x).1 11 = S.1 11 := t_code_row (by decide) (by decide) (by decide)
  unfold SIM
  show Syn D (t_code S kc x) d.1 ∧ (FT D E (t_code S kc x) R.2.2.2.1 d.1 ∨ ∃ B, P2 E R.2.2.2.1 d.1 = (0, d.1, B) ∧ (t_code S kc x).1 11 4 = 0 ∧ TD D E N S0 B0 (t_code S kc x) (d, cd, op, R.2.2.2.1, R.2.2.2.2 ++ [(k, x, none)]) B)
  rw [hd]
  refine ⟨Syn_code hs, ?_⟩
  rcases h with h | ⟨B, a, b, ⟨f1, f2, f3, f4, f5, f6⟩, fb, ⟨c1, c2⟩, hn⟩
  · exact Or.inl (FT_same h (congrFun e11 4) (congrFun e11 5))
  · obtain ⟨g1, g2, g3⟩ := t_code_at (k := kc) (x := x) c1 hlen
    refine Or.inr ⟨B, a, (congrFun e11 4).trans b, ⟨fun r r8 r9 r10 r11 => (t_code_row r8 r9 r10).trans (f1 r r8 r9 r10 r11), fun j hj => (t_code_10 hj).trans (f2 j hj), (congrFun e11 6).trans f3, (congrFun e11 7).trans f4, f5, f6⟩, fb, ⟨?_, ?_⟩, ?_⟩
    · show (t_code S kc x).1 10 3 = nI (R.2.2.2.2 ++ [(k, x, none)]).length
      rw [g1, List.length_append]
      rfl
    · show q_code (t_code S kc x).1 0 ((R.2.2.2.2 ++ [(k, x, none)]).map (g_rs (B.2 16)))
      rw [List.map_append]
      have hl9 : (R.2.2.2.2.map (g_rs (B.2 16))).length = R.2.2.2.2.length := List.length_map _
      exact q_code_app c2 hk (by rw [hl9]; exact g2) (by rw [hl9]; exact g3)
    · show NM D E N (t_code S kc x) R.2.2.2.1 d.1
      rw [hd]
      exact NM_same hn (congrFun e11 6) (congrFun e11 7) rfl rfl
theorem g_rs_keep {T : rT} {t : Nat} {f : Nat → Int32} {m m' : Nat → Int32} {G : List rI} (h : ∀ e, e ∈ G → g_ok T t f e) (hm : ∀ j, j < t → m' j = m j) : G.map (g_rs m') = G.map (g_rs m) := by
  refine List.map_congr_left (fun e he => ?_)
  unfold g_rs
  congr 1
  cases q : e.2.2 with
  | none => rw [g_dt_none q, g_dt_none q]
  | some j => rw [g_dt_some q, g_dt_some q, hm j ((h e he).2 j q).1]
end XSIM
