/-- the class's state ahead of the first line -/
theorem st_facts (D : tK) (S : tS) : (t_S2 D (t_go S)).1 11 0 = 0 ∧ (t_S2 D (t_go S)).1 11 1 = rg 401 D.2.2.1 0 ∧ (t_S2 D (t_go S)).1 11 2 = rg 401 D.2.2.2.1 0 ∧ (t_S2 D (t_go S)).2.2.2 = rgL 401 D.2.2.2.2 0 ∧ (t_S2 D (t_go S)).1 11 3 = -1 ∧ (t_S2 D (t_go S)).1 11 4 = 0 ∧ (t_S2 D (t_go S)).1 11 5 = -1 ∧ (t_S2 D (t_go S)).1 11 6 = 0 ∧ (t_S2 D (t_go S)).1 11 7 = 0 ∧ ∀ j, j < 4 → (t_S2 D (t_go S)).1 10 j = 0 := by
  refine ⟨?_, ?_, ?_, rfl, ?_, ?_, ?_, ?_, ?_, fun j hj => ?_⟩
  · simp [t_S2, h_u, upd]
  · simp [t_S2, h_u, upd]
  · simp [t_S2, h_u, upd]
  · simp [t_S2, t_go, t_s, t_clr, q_clear, h_u, upd]
  · simp [t_S2, t_go, t_s, t_clr, q_clear, h_u, upd]
  · simp [t_S2, t_go, t_s, t_clr, q_clear, h_u, upd]
  · simp [t_S2, t_go, t_s, t_clr, q_clear, h_u, upd]
  · simp [t_S2, t_go, t_s, t_clr, q_clear, h_u, upd]
  · have : j = 0 ∨ j = 1 ∨ j = 2 ∨ j = 3 := by omega
    rcases this with e | e | e | e <;> subst e <;> simp [t_S2, t_go, t_s, t_clr, q_clear, h_u, upd]
/-- both read one hive -/
theorem agree {kw : Nat → Int64} (hk : kw_ok kw) {n : Nat} (hn2 : n ≤ 2000) {E0 : rE} {R0 : rS} (hf : k_by (E0.2 20)) (he : E0.1.1.2.2 = -1) {tp : Nat} {v0 : Int64} {K2 : (Nat → Int32) × (Nat → Int32) × (Nat → Int64)} {sk : kS} (hs2 : k_lp (E0.2 20) n kw 401 0 2 ((0, v0), K2) = sk) (S : tS) : t_res (t_hive ((tp, nI sk.1.1, sk.1.2), kw, sk.2) S) = (rd_R n E0 R0).1 ∧ t_pos (t_hive ((tp, nI sk.1.1, sk.1.2), kw, sk.2) S) = (rd_R n E0 R0).2.1.1.1.2.2 ∧ 0 ≤ (rd_R n E0 R0).1 ∧ ((rd_R n E0 R0).1 = 0 → ∃ P : PL, p_ok P ∧ q_is (t_hive ((tp, nI sk.1.1, sk.1.2), kw, sk.2) S).1 P ∧ g_is (prG (rd_R n E0 R0).2.1 (rd_R n E0 R0).2.2) P) := by
  obtain ⟨CE, CR, hC⟩ : ∃ CE CR, rd_C n E0 R0 = (CE, CR) := ⟨_, _, rfl⟩
  have hyo : ∃ N, y_ok (CE, CR) N := by rw [← hC]; exact y_lp_ok hn2 401 0 0 (z_E E0, z_R R0) rfl (by omega) (Nat.zero_le _) (fun k hk => absurd hk (Nat.not_lt_zero _))
  obtain ⟨N, hN4, hk9, hN9, hz9⟩ := hyo
  have hsm := y_lp_same (f := (z_E E0).2 20) (n := n) 401 0 0 (z_E E0, z_R R0)
  rw [show y_lp ((z_E E0).2 20) n 401 0 0 (z_E E0, z_R R0) = (CE, CR) from hC] at hsm
  obtain ⟨s1, s2, -, s4, s5, s6⟩ := hsm
  have s4 : CR.2.1 = [] := s4
  have s5 : CR.2.2.1 = [] := s5
  have s6 : CR.2.2.2.2 = [] := s6
  have hT : r_tok (tE CE) N := ⟨hN4, fun i hi => (hk9 i hi).1, hN9⟩
  have hRI : RI (tE CE) N [] [] ((0, 0), CR.2) := ⟨Nat.zero_le _, by show CR.2.1 = g_tr (CR.2.2.2.2.map (g_rs nI)); rw [s4, s6]; rfl, by show CR.2.2.1 = g_op 0 CR.2.2.2.2; rw [s5, s6]; rfl, fun i _ hi => hz9 i hi, fun i hi => absurd hi (Nat.not_lt_zero _), ⟨[], s6, rfl⟩, fun e he => by have he : e ∈ CR.2.2.2.2 := he; rw [s6] at he; cases he⟩
  have hkO : r_ok N ((0, 0), CR.2) := ⟨Nat.zero_le _, Nat.zero_le _, by show CR.2.1.length ≤ 2 * 0; rw [s4]; exact Nat.le_refl _, by show CR.2.2.1.length ≤ 0; rw [s5]; exact Nat.le_refl _⟩
  have hz10 : ∀ j, CE.2 10 j = nI 0 := fun j => congrFun (s2 10 (by decide) (by decide) (by decide) (by decide)) j
  have hg9 := r_gd_testN hT 8
  have h20 : CE.2 20 = E0.2 20 := s2 20 (by decide) (by decide) (by decide) (by decide)
  have h1z : ∀ k, CE.2 1 k = nI 0 := fun k => congrFun (s2 1 (by decide) (by decide) (by decide) (by decide)) k
  have hea : CE.1.1.2.2 = -1 := by rw [s1]; exact he
  obtain ⟨N2, m1, m2, m3, m4⟩ := tk_loop hk hf hn2 401 0 0 2 ((0, v0), K2) (z_E E0, z_R R0) rfl (by omega) rfl (Nat.zero_le _) (by decide) (by decide) (fun j hj => absurd hj (Nat.not_lt_zero _))
  rw [hs2] at m2
  rw [show y_lp (E0.2 20) n 401 0 0 (z_E E0, z_R R0) = (CE, CR) from hC] at m2 m3 m4
  have hNN : N2 = N := by
    rcases Nat.lt_trichotomy N2 N with q | q | q
    · exact absurd (hk9 N2 q).1 m4
    · exact q
    · exact absurd (m3 N q) hN9
  subst hNN
  have hCX : CX ((tp, nI sk.1.1, sk.1.2), kw, sk.2) CE N2 := ⟨hT, fun j hj => by rw [h20]; exact m2 j hj⟩
  have hst : ∀ j, j ≤ N2 → sk.2.2.1 j = CE.2 13 j := fun j hj => (m2 j hj).2.1
  generalize hD : (((tp, nI sk.1.1, sk.1.2), kw, sk.2) : tK) = D at *
  have hD2 : D.2.2 = sk.2 := by rw [← hD]
  obtain ⟨f0, f1, f2, fv, f3, f4, f5, f6, f7, f10⟩ := st_facts D S
  have hS1 : ∃ S1, t_S2 D (t_go S) = S1 := ⟨_, rfl⟩
  obtain ⟨S1, hS1⟩ := hS1
  rw [hS1] at f0 f1 f2 fv f3 f4 f5 f6 f7 f10
  have hSy : Syn D S1 0 := by
    refine ⟨f3, f0, ?_, ?_, ?_⟩
    · rw [f1]; exact rg_nI (k := 0) (by decide) (by decide)
    · rw [f2]; exact rg_nI (k := 0) (by decide) (by decide)
    · rw [fv]; exact rgL_nI (k := 0) (by decide) (by decide)
  have hLD : LD D CE N2 CE 0 S1 ((0, 0), CR.2) CE := by
    refine ⟨⟨f6, f7⟩, ⟨hz10 0, Nat.zero_le _, hz10 1, Nat.zero_le _, hz10 2, Nat.zero_le _⟩, ⟨rfl, rfl, rfl, rfl⟩, ⟨f10 0 (by decide), fun d hd => absurd hd (Nat.not_lt_zero _)⟩, ⟨f10 1 (by decide), fun k hk => absurd hk (Nat.not_lt_zero _), fun k _ _ => h1z k⟩, ⟨f10 2 (by decide), fun o ho => absurd ho (Nat.not_lt_zero _)⟩, ⟨?_, ?_⟩, fun i _ _ => ⟨?_, ?_⟩⟩
    · show S1.1 10 3 = nI CR.2.2.2.2.length
      rw [s6]
      exact f10 3 (by decide)
    · show q_code S1.1 0 (CR.2.2.2.2.map (g_rs (CE.2 16)))
      rw [s6]
      intro i q hq
      cases hq
    · rw [f6]; exact n_find_fs (m := 0) (by decide) (Nat.zero_le _)
    · rw [f7]; exact n_find_fs (m := 0) (by decide) (Nat.zero_le _)
  have hLNV : LNV D CE N2 S1 (rd_Q (CE, CR)) := ⟨RI_0 hRI, hkO, rfl, by show CR.2.2.2.2.length ≤ 0; rw [s6]; exact Nat.le_refl _, rfl, hz10 3, hSy, Or.inr ⟨CE, rfl, f4, hLD⟩⟩
  obtain ⟨y, nn⟩ := ln_lines hCX 400 401 S1 (rd_Q (CE, CR)) (by show N2 < 0 + 2 * 400; omega) (by show N2 < 0 + 401; omega) hLNV
  have hzf := zb_lines (D := D) (zb_testN (D := D) 8) 400 S1 (-1) (fun _ => f5)
  obtain ⟨B, hB⟩ : ∃ B, q_bk (tE CE) (r_testN (tE CE) 8) 401 (rd_Q (CE, CR)) = B := ⟨_, rfl⟩
  obtain ⟨g1, g2, g3, g4⟩ := q_bk_gd hT hg9 401 (rd_Q (CE, CR)) hkO (hz10 3)
  rw [hB] at g1 g2 g3 g4 y nn
  have hR9 : rd_R n E0 R0 = rd_S B := by unfold rd_R rd_B; rw [hC]; exact congrArg rd_S hB
  have hSh : t_hive D S = t_lines D (t_testN D 8) 400 S1 := by rw [← hS1]; rfl
  rw [hR9, hSh]
  generalize t_lines D (t_testN D 8) 400 S1 = S9 at *
  have hst2 : ∀ j, j ≤ N2 → D.2.2.2.1 j = CE.2 13 j := fun j hj => by rw [hD2]; exact hst j hj
  have g13 : B.1.1.2.2 13 = CE.2 13 := g3 13 (by decide) (by decide) (by decide)
  by_cases c : B.2 = true
  · obtain ⟨⟨i1, i2, i3, i4, i5, i6, i7⟩, h900⟩ := y c
    have hNe : B.1.2.1.1 = N2 := by
      rcases Nat.lt_or_ge B.1.2.1.1 N2 with q | q
      · have := hT.2.1 _ q
        rw [h900] at this
        exact absurd this (by decide)
      · have := i1.1
        omega
    have hrr : ∀ j, j < N2 → rr_ok N2 B.1.2.2.2.2.1 j := fun j hj => i1.2.2.2.2.1 j (by omega)
    obtain ⟨L, hL⟩ : ∃ L, e_lp B.1.2 N2 0 B.1.1.2 = L := ⟨_, rfl⟩
    obtain ⟨x1, x2, x3⟩ := e_lp_eqx (R := B.1.2) hrr N2 0 B.1.1.2 CE (Nat.zero_add _) ⟨g2, g3, g4⟩
    have hk13 := e_lp_keep (R := B.1.2) (N := N2) (q := 13) (by unfold e_rw; decide) hrr N2 0 B.1.1.2 (Nat.zero_add _)
    have hk6 := e_lp_keep (R := B.1.2) (N := N2) (q := 6) (by unfold e_rw; decide) hrr N2 0 B.1.1.2 (Nat.zero_add _)
    have hk7 := e_lp_keep (R := B.1.2) (N := N2) (q := 7) (by unfold e_rw; decide) hrr N2 0 B.1.1.2 (Nat.zero_add _)
    have hix := e_lp_ix (R := B.1.2) N2 0 B.1.1.2
    have hpos := e_lp_pos (R := B.1.2) N2 0 B.1.1.2
    have hP2 : e_lp B.1.2 N2 0 CE = P2 CE B.1.2.2.2.2.1 N2 := e_lp_rf N2 0 CE
    rw [hP2] at x1 x2 x3
    rw [hL] at x1 x2 x3 hk13 hk6 hk7 hix hpos
    have hrl : rd_L B.1 = L := by unfold rd_L; rw [hNe]; exact hL
    obtain ⟨hsy, hg⟩ := i7
    rw [hNe] at hg
    rcases hg with ⟨e, j, B9, a1, a2, a3, a4⟩ | ⟨B9, a1, a2, a3⟩
    · rw [a2] at x1 x2 x3
      have x1 : L.1 = e := x1
      have x2 : L.2.1 = j := x2
      have hne : ¬ L.1 = 0 := by rw [x1]; exact a1
      have e9 := rd_S_err (b := B) (e := L.1) (j := L.2.1) (E := L.2.2) c hrl hne
      rw [e9]
      have hj := hix.2 hne
      refine ⟨?_, ?_, hpos, fun z => absurd z hne⟩
      · unfold t_res
        rw [if_pos hsy.1, a3]
        exact x1.symm
      · unfold t_pos
        rw [if_pos hsy.1, a4, ← x2, hst2 L.2.1 (by omega)]
        show _ = L.2.2.2 13 L.2.1
        rw [hk13.2, g13]
    · rw [a1] at x1 x2 x3
      have x1 : L.1 = 0 := x1
      have hl3 : rd_L B.1 = (0, L.2.1, L.2.2) := by rw [hrl]; exact Prod.ext x1 rfl
      have e9 := rd_S_ok (b := B) (j := L.2.1) (E := L.2.2) c hl3
      rw [e9]
      refine ⟨?_, ?_, by show (0 : Int32) ≤ 0; decide, fun _ => ?_⟩
      · unfold t_res
        rw [if_pos hsy.1]
        exact a2
      · unfold t_pos
        rw [if_pos hsy.1, hzf a2]
        show _ = L.2.2.1.1.2.2
        rw [hk13.1, g2]
        exact hea.symm
      · exact plan_of (Ev := B.1.1.2) (od := B.1.1.1) (GE := L.2.2) hN4 i1 i2 i4 i5 (by rw [hNe]; exact a1) a3 (fun q a b c => x3.2.1 q a b c) (fun j hj => x3.2.2 j hj) hk6.2 hk7.2 B.1.2.1
  · have e9 : rd_S B = (1, z_ea B.1.1.2 (B.1.1.2.2 13 B.1.2.1.1), B.1.2) := if_neg c
    have hb := nn c
    rw [e9]
    refine ⟨?_, ?_, by show (0 : Int32) ≤ 1; decide, fun z => absurd (show (1 : Int32) = 0 from z) (by decide)⟩
    · unfold t_res
      rw [if_neg (t_bk_ne hb)]
    · unfold t_pos
      rw [if_neg (t_bk_ne hb), hb.1, hst2 _ g1.2.1]
      show _ = B.1.1.2.2 13 B.1.2.1.1
      rw [g13]
