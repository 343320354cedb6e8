def z_th (E : rE) : rE := (((0, E.1.1.2), E.1.2), E.2)
def z_sz (E : rE) : rE := (((E.1.1.1, 0, E.1.1.2.2), E.1.2), E.2)
def z_pl (E : rE) (r : Nat) : rE := ((E.1.1, (r, E.1.2.2)), E.2)
theorem e_lp_keep {R : rS} {N q : Nat} (hq : e_rw q) (hr : ∀ i, i < N → rr_ok N R.2.2.2.1 i) : ∀ (w i : Nat) (E : rE), i + w = N → (e_lp R w i E).2.2.1 = E.1 ∧ (e_lp R w i E).2.2.2 q = E.2 q := by
  intro w
  induction w with
  | zero => intro i E _; exact ⟨rfl, rfl⟩
  | succ w ih =>
    intro i E hi
    obtain ⟨a, b⟩ := e_at_row (E := E) hq (hr i (by omega))
    simp only [e_lp]
    by_cases c : (e_at E R i).1 = 0
    · rw [if_pos c]
      obtain ⟨a1, b1⟩ := ih (i + 1) (e_at E R i).2 (by omega)
      exact ⟨a1.trans a, b1.trans b⟩
    · rw [if_neg c]
      exact ⟨a, b⟩
/-- what read leaves alone -/
theorem rd_keep {n : Nat} {E0 : rE} {R0 : rS} (hn2 : n ≤ 2000) : (rd_R n E0 R0).2.1.1.1.1 = E0.1.1.1 ∧ (rd_R n E0 R0).2.1.1.1.2.1 = E0.1.1.2.1 ∧ (rd_R n E0 R0).2.1.1.2 = E0.1.2 ∧ (rd_R n E0 R0).2.1.2 20 = E0.2 20 ∧ ((rd_R n E0 R0).1 = 0 → (rd_R n E0 R0).2.1.1.1.2.2 = E0.1.1.2.2) := by
  obtain ⟨CE, CR, hC⟩ : ∃ CE CR, rd_C n E0 R0 = (CE, CR) := ⟨_, _, rfl⟩
  have hyo : ∃ N, y_ok (CE, CR) N := by rw [← hC]; exact y_lp_ok hn2 401 0 0 (z_E E0, z_R R0) rfl (by omega) (Nat.zero_le _) (fun k hk => absurd hk (Nat.not_lt_zero _))
  obtain ⟨N, hN4, hk9, hN9, hz9⟩ := hyo
  have hsm := y_lp_same (f := (z_E E0).2 20) (n := n) 401 0 0 (z_E E0, z_R R0)
  rw [show y_lp ((z_E E0).2 20) n 401 0 0 (z_E E0, z_R R0) = (CE, CR) from hC] at hsm
  obtain ⟨s1, s2, -, s4, s5, s6⟩ := hsm
  have s4 : CR.2.1 = [] := s4
  have s5 : CR.2.2.1 = [] := s5
  have s6 : CR.2.2.2.2 = [] := s6
  have hT : r_tok (tE CE) N := ⟨hN4, fun i hi => (hk9 i hi).1, hN9⟩
  have hRI : RI (tE CE) N [] [] ((0, 0), CR.2) := ⟨Nat.zero_le _, by show CR.2.1 = g_tr (CR.2.2.2.2.map (g_rs nI)); rw [s4, s6]; rfl, by show CR.2.2.1 = g_op 0 CR.2.2.2.2; rw [s5, s6]; rfl, fun i _ hi => hz9 i hi, fun i hi => absurd hi (Nat.not_lt_zero _), ⟨[], s6, rfl⟩, fun e he => by have he : e ∈ CR.2.2.2.2 := he; rw [s6] at he; cases he⟩
  have hkO : r_ok N ((0, 0), CR.2) := ⟨Nat.zero_le _, Nat.zero_le _, by show CR.2.1.length ≤ 2 * 0; rw [s4]; exact Nat.le_refl _, by show CR.2.2.1.length ≤ 0; rw [s5]; exact Nat.le_refl _⟩
  have hz10 : ∀ j, CE.2 10 j = nI 0 := fun j => congrFun (s2 10 (by decide) (by decide) (by decide) (by decide)) j
  have hg9 := r_gd_testN hT 8
  have hB0 := q_bk_gd hT hg9 401 (rd_Q (CE, CR)) hkO (hz10 3)
  have hbk0 := RL_bk hT hg9 (RO_testN hT 8) 401 (rd_Q (CE, CR)) (RI_0 hRI) hkO (hz10 3) (by show N < 0 + 401; omega) rfl
  obtain ⟨B, hB⟩ : ∃ B, q_bk (tE CE) (r_testN (tE CE) 8) 401 (rd_Q (CE, CR)) = B := ⟨_, rfl⟩
  rw [hB] at hB0 hbk0
  obtain ⟨g1, g2, g3, g4⟩ := hB0
  have hR9 : rd_R n E0 R0 = rd_S B := by unfold rd_R rd_B; rw [hC]; exact congrArg rd_S hB
  rw [hR9]
  have s1 : CE.1 = E0.1 := s1
  have s20 : CE.2 20 = E0.2 20 := s2 20 (by decide) (by decide) (by decide) (by decide)
  have g2 : B.1.1.2.1 = CE.1 := g2
  have g20 : B.1.1.2.2 20 = CE.2 20 := g3 20 (by decide) (by decide) (by decide)
  have f1 := g2.trans s1
  have f20 := g20.trans s20
  by_cases c : B.2 = true
  · obtain ⟨hRB, h900⟩ := hbk0 c
    have hNe : B.1.2.1.1 = N := by
      rcases Nat.lt_or_ge B.1.2.1.1 N with q | q
      · have := hT.2.1 _ q
        rw [h900] at this
        exact absurd this (by decide)
      · have := g1.2.1
        omega
    have hk := e_lp_keep (R := B.1.2) (N := N) (q := 20) (by unfold e_rw; decide) (fun i hi => hRB.2.2.2.2.1 i (by omega)) N 0 B.1.1.2 (Nat.zero_add _)
    obtain ⟨L, hL⟩ : ∃ L, rd_L B.1 = L := ⟨_, rfl⟩
    have hL2 : e_lp B.1.2 N 0 B.1.1.2 = L := by rw [← hL, ← hNe]; rfl
    rw [hL2] at hk
    obtain ⟨k1, k2⟩ := hk
    have k1 := k1.trans f1
    have k2 := k2.trans f20
    by_cases c2 : L.1 = 0
    · have e9 : rd_S B = (0, L.2.2, (B.1.2.1, f_ls (L.2.2.2 16) B.1.2.2.2.1 B.1.2.2.1, B.1.2.2.2)) := by
        unfold rd_S
        rw [if_pos c, hL]
        exact if_pos c2
      rw [e9]
      show L.2.2.1.1.1 = E0.1.1.1 ∧ L.2.2.1.1.2.1 = E0.1.1.2.1 ∧ L.2.2.1.2 = E0.1.2 ∧ L.2.2.2 20 = E0.2 20 ∧ ((0 : Int32) = 0 → L.2.2.1.1.2.2 = E0.1.1.2.2)
      rw [k1, k2]
      exact ⟨rfl, rfl, rfl, rfl, fun _ => rfl⟩
    · have e9 : rd_S B = (L.1, z_ea L.2.2 (L.2.2.2 13 L.2.1), ((L.2.1, B.1.2.1.2), B.1.2.2)) := by
        unfold rd_S
        rw [if_pos c, hL]
        exact if_neg c2
      rw [e9]
      show L.2.2.1.1.1 = E0.1.1.1 ∧ L.2.2.1.1.2.1 = E0.1.1.2.1 ∧ L.2.2.1.2 = E0.1.2 ∧ L.2.2.2 20 = E0.2 20 ∧ (L.1 = 0 → _)
      rw [k1, k2]
      exact ⟨rfl, rfl, rfl, rfl, fun q => absurd q c2⟩
  · have e9 : rd_S B = (1, z_ea B.1.1.2 (B.1.1.2.2 13 B.1.2.1.1), B.1.2) := if_neg c
    rw [e9]
    show B.1.1.2.1.1.1 = E0.1.1.1 ∧ B.1.1.2.1.1.2.1 = E0.1.1.2.1 ∧ B.1.1.2.1.2 = E0.1.2 ∧ B.1.1.2.2 20 = E0.2 20 ∧ ((1 : Int32) = 0 → _)
    rw [f1, f20]
    exact ⟨rfl, rfl, rfl, rfl, fun q => absurd q (by decide)⟩
section XTC
variable {M : x_M} {o r k : Nat} {E E' : rE} {R R' : rS} {L : List x_E}
theorem rH_nxov (h : L.length = 7) : rH (x_nx (x_ov M o L) k) o r E R = rH (x_nx M k) o r E R := by
  unfold rH
  have e : x_nx (x_ov M o L) k = x_ov (x_nx M k) o L := rfl
  rw [e, x_ov_ov h]
theorem rH_zsz (hd : o + 7 ≤ r) : x_st (rH M o r E R) o (.inr (11, (mdF E.1.1.1 E.1.1.2.1 E.1.1.2.2 (nI R.1.1) (nI R.1.2) (o + 1) (o + 2) (o + 3) (o + 4) (o + 5) (o + 6) E.1.2.1 r E.1.2.2.1 E.1.2.2.2.1 E.1.2.2.2.2).set 2 (.int 0))) = rH M o r (z_sz E) R := rH_so hd 0 (z_sz E) R rfl rfl (by decide)
theorem rH_zpl (hd : o + 7 ≤ r) : x_st (rH M o r E R) o (.inr (11, (mdF E.1.1.1 E.1.1.2.1 E.1.1.2.2 (nI R.1.1) (nI R.1.2) (o + 1) (o + 2) (o + 3) (o + 4) (o + 5) (o + 6) E.1.2.1 r E.1.2.2.1 E.1.2.2.2.1 E.1.2.2.2.2).set 11 (.ref r))) = rH M o r (z_pl E r) R := rH_so hd 0 (z_pl E r) R rfl rfl (by decide)
end XTC
