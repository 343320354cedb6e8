section XSQ
variable {D : tK} {E : rE} {N : Nat} {S0 : tS} {B0 : rE} {S : tS} {R : rS} {pre : List rI} {ty : List Bool}
theorem sign_y (hC : CX D E N) (h : SIM D E N S0 B0 S R) (hri : RI (tE E) N pre ty R) (hh : ¬ r_how ((tE E).1 R.1.1) = -1) : SIM D E N S0 B0 (t_sign D S) (r_adv R) ∧ S.1 11 1 = nI (r_hwn ((tE E).1 R.1.1)) := by
  have K := fun c0 r0 hq => Syn_k hC h.1 hri.1 c0 r0 hq
  have hs := sim_adv hC h (RI_lt hC.1 hri rfl (r_how_lt hh)) (RI_z hri)
  unfold t_sign
  rcases r_how5 hh with q | q | q | q | q
  · have k := (K 60 110 (by decide)).mpr q
    rw [if_pos k, q]; exact ⟨hs, k⟩
  · have k := (K 62 112 (by decide)).mpr q
    rw [if_neg (by rw [k]; decide), if_pos k, q]; exact ⟨hs, k⟩
  · have k := (K 61 111 (by decide)).mpr q
    rw [if_neg (by rw [k]; decide), if_neg (by rw [k]; decide), if_pos k, q]; exact ⟨hs, k⟩
  · have k := (K 188 300 (by decide)).mpr q
    rw [if_neg (by rw [k]; decide), if_neg (by rw [k]; decide), if_neg (by rw [k]; decide), if_pos k, q]; exact ⟨hs, k⟩
  · have k := (K 190 301 (by decide)).mpr q
    rw [if_neg (by rw [k]; decide), if_neg (by rw [k]; decide), if_neg (by rw [k]; decide), if_neg (by rw [k]; decide), if_pos k, q]; exact ⟨hs, k⟩
theorem sign_n (hC : CX D E N) (h : SIM D E N S0 B0 S R) (hle : R.1.1 ≤ N) (hh : r_how ((tE E).1 R.1.1) = -1) : t_bk (t_sign D S) (D.2.2.2.1 R.1.1) := by
  have K := fun c0 r0 hq => Syn_k hC h.1 hle c0 r0 hq
  have n : ∀ c0 r0, (c0, r0) ∈ tk_M → ¬ r_how r0 = -1 → ¬ S.1 11 1 = c0 := fun c0 r0 hq a q => a (by rw [← (K c0 r0 hq).mp q]; exact hh)
  unfold t_sign
  rw [if_neg (n 60 110 (by decide) (by decide)), if_neg (n 62 112 (by decide) (by decide)), if_neg (n 61 111 (by decide) (by decide)), if_neg (n 188 300 (by decide) (by decide)), if_neg (n 190 301 (by decide) (by decide))]
  exact Syn_brk hC h.1 hle
theorem sim_cmp (hC : CX D E N) {dp : Nat} {fc : tS → tS} {fr : rF} (hf : simG D E N S0 B0 dp false fc fr) : simF D E N S0 B0 dp (t_cmp D fc) (r_cmp (tE E) fr) := by
  obtain ⟨f1, f2, f3, f4⟩ := hf
  have hN4 := hC.1.1
  intro c pre ty S R hri hok hd hsl h
  obtain ⟨y, n⟩ := f1 c pre ty S R hri hok hd hsl h
  have g := f3 _ hok
  unfold t_cmp r_cmp
  by_cases c1 : (fr R).2 = true
  · obtain ⟨sl, hs⟩ := y c1
    obtain ⟨g1, g2⟩ := g.2 c1
    have hri1 := f2 pre ty R hri c1
    have hok1 := r_st_ok hok g.1
    rw [if_pos c1]
    by_cases c2 : r_how ((tE E).1 (fr R).1.1.1) = -1
    · rw [if_pos c2]
      exact ⟨fun z => absurd z Bool.false_ne_true, fun _ => kb_code (f4 _ _ (sign_n hC hs hri1.1 c2))⟩
    · rw [if_neg c2]
      obtain ⟨hs2, hk⟩ := sign_y hC hs hri1 c2
      have hl := RI_lt hC.1 hri1 rfl (r_how_lt c2)
      obtain ⟨y2, n2⟩ := f1 (c + 1) pre _ _ (r_adv (fr R).1) (RI_adv hri1 hl) (r_ok_adv hC.1 hok1 rfl (r_how_lt c2)).1 (g2.trans hd) (sl_adv sl) hs2
      by_cases c3 : (fr (r_adv (fr R).1)).2 = true
      · obtain ⟨sl3, hs3⟩ := y2 c3
        have hl3 := (f2 pre _ _ (RI_adv hri1 hl) c3).1
        rw [if_pos c3]
        refine ⟨fun _ => ⟨?_, ?_⟩, fun z => absurd rfl z⟩
        · show ((fr (r_adv (fr R).1)).1.2.2.2.2 ++ [(r_hwn ((tE E).1 (fr R).1.1.1), (0 : Int32), (none : Option Nat))]).length + c ≤ (fr (r_adv (fr R).1)).1.1.1
          rw [r_app1]
          omega
        · exact sim_code (R := (fr (r_adv (fr R).1)).1) hs3 (by omega) hk.symm rfl
      · rw [if_neg c3]
        exact ⟨fun z => absurd z Bool.false_ne_true, fun _ => kb_code (n2 c3)⟩
  · rw [if_neg c1]
    exact ⟨fun z => absurd z Bool.false_ne_true, fun _ => kb_code (f4 _ _ (kb_sign _ _ (n c1)))⟩
/-- awake, behind the word -/
theorem sim_awk (hC : CX D E N) (HB : B0.2 13 = E.2 13 ∧ B0.2 14 = E.2 14 ∧ B0.2 20 = E.2 20) {c : Nat} (hri : RI (tE E) N pre ty R) (hsl : R.2.2.2.2.length + c ≤ R.1.1) (h : SIM D E N S0 B0 S R) : ((r_awk (tE E) R).2 = true → (r_awk (tE E) R).1.2.2.2.2.length + c ≤ (r_awk (tE E) R).1.1.1 ∧ SIM D E N S0 B0 (t_code (t_dq D S) 272 (t_dqv D S)) (r_awk (tE E) R).1) ∧ (¬ (r_awk (tE E) R).2 = true → t_bk (t_code (t_dq D S) 272 (t_dqv D S)) (D.2.2.2.1 (r_awk (tE E) R).1.1.1)) := by
  have hN4 := hC.1.1
  have K := Syn_k hC h.1 hri.1 265 9 (by decide)
  unfold t_dq t_dqv r_awk
  by_cases c1 : (tE E).1 R.1.1 = 9
  · have hl := RI_lt hC.1 hri c1 (by decide)
    rw [if_pos (show (tE E).1 (r_put R 16).1.1 = 9 from c1), if_pos (K.mpr c1), if_pos (K.mpr c1)]
    have hs := (ac_y hC h hri 265 9 (by decide) (by decide) c1).2
    refine ⟨fun _ => ⟨?_, ?_⟩, fun z => absurd rfl z⟩
    · show (R.2.2.2.2 ++ [(272, (8 : Int32), (none : Option Nat))]).length + c ≤ R.1.1 + 1
      rw [r_app1]
      omega
    · exact sim_code (R := r_adv R) hs (by show R.2.2.2.2.length < 400; omega) rfl rfl
  · rw [if_neg (show ¬ (tE E).1 (r_put R 16).1.1 = 9 from c1), if_neg (fun q => c1 (K.mp q)), if_neg (fun q => c1 (K.mp q)), ac_n hC h hri.1 265 9 (by decide) c1]
    by_cases c2 : (tE E).1 R.1.1 = 40
    · have hl := RI_lt hC.1 hri c2 (by decide)
      have e : r_gh (r_name (tE E) (r_put R 16) 5) (272, 0, some R.1.1) = r_gh (r_adv (r_role (r_put (r_opn (r_put R 16)) (nI R.1.1)) 5)) (272, 0, some R.1.1) := by
        unfold r_name r_eatAs
        rw [r_eat_p (R := r_role (r_put (r_opn (r_put R 16)) (nI (r_put R 16).1.1)) 5) c2]
        rfl
      rw [e, decide_eq_true c2]
      refine ⟨fun _ => ⟨?_, ?_⟩, fun z => absurd rfl z⟩
      · show (R.2.2.2.2 ++ [(272, (0 : Int32), some R.1.1)]).length + c ≤ R.1.1 + 1
        rw [r_app1]
        omega
      · exact sim_nm0 (R := R) hC HB h hl c2 hri.2.2.2.2.2.2 (by omega) (by decide) rfl
    · have e : r_gh (r_name (tE E) (r_put R 16) 5) (272, 0, some R.1.1) = r_gh (r_role (r_put (r_opn (r_put R 16)) (nI R.1.1)) 5) (272, 0, some R.1.1) := by
        unfold r_name r_eatAs
        rw [r_eat_n (R := r_role (r_put (r_opn (r_put R 16)) (nI (r_put R 16).1.1)) 5) c2]
        rfl
      rw [e, decide_eq_false c2]
      refine ⟨fun z => absurd z Bool.false_ne_true, fun _ => kb_code ?_⟩
      have hz := lk0_Syn h.1
      have e9 : t_known0 D S = t_brk (t_lk0 S) := if_neg (fun q => c2 ((Syn_k hC hz hri.1 2 40 (by decide)).mp q))
      rw [e9]
      exact Syn_brk hC hz hri.1
theorem sim_single (hC : CX D E N) (HB : B0.2 13 = E.2 13 ∧ B0.2 14 = E.2 14 ∧ B0.2 20 = E.2 20) {foc ftc fcc : tS → tS} {fo ft fs : rF} {dp : Nat} {dc : Int32} (hdc : dc < 8 ↔ ¬ dp = 8) (hfo : ¬ dp = 8 → simG D E N S0 B0 (dp + 1) true foc fo) (hft : ¬ dp = 8 → simG D E N S0 B0 (dp + 1) true ftc ft) (hfs : simF D E N S0 B0 dp fcc (r_cmp (tE E) fs)) {c : Nat} (hri : RI (tE E) N pre ty R) (hok : r_ok N R) (hd : R.1.2 = dp) (hsl : R.2.2.2.2.length + c ≤ R.1.1) (h : SIM D E N S0 B0 S R) : ((r_single (tE E) fo ft fs R).2 = true → (r_single (tE E) fo ft fs R).1.2.2.2.2.length + c ≤ (r_single (tE E) fo ft fs R).1.1.1 ∧ SIM D E N S0 B0 (t_single D dc foc ftc fcc S) (r_single (tE E) fo ft fs R).1) ∧ (¬ (r_single (tE E) fo ft fs R).2 = true → t_bk (t_single D dc foc ftc fcc S) (D.2.2.2.1 (r_single (tE E) fo ft fs R).1.1.1)) := by
  have hN4 := hC.1.1
  have K := fun c0 r0 hq => Syn_k hC h.1 hri.1 c0 r0 hq
  unfold t_single r_single
  by_cases c1 : (tE E).1 R.1.1 = 17
  · rw [if_pos c1, if_pos ((K 273 17 (by decide)).mpr c1)]
    subst hd
    by_cases c6 : R.1.2 = 8
    · have hb := dp_8 (c0 := 273) hC (fun q => hdc.mp q c6) h hri.1
      rw [if_pos c6, if_neg (t_bk_ne hb), r_deep_p c6]
      exact ⟨fun z => absurd z Bool.false_ne_true, fun _ => hb⟩
    · obtain ⟨f1, f2, f3, f4⟩ := hfo c6
      have hs1 := dp_y hC (hdc.mpr c6) h hri 273 17 (by decide) (by decide) c1 c6
      have hri1 := RI_deep hC.1 hri c1 (by decide) c6
      have hok1 := (r_ok_deep hC.1 hok c1 (by decide) c6).1
      rw [if_neg c6, if_pos hs1.1.1]
      obtain ⟨y, n⟩ := f1 (c + 1) pre ty _ (r_deep R) hri1 hok1 (by rw [r_deep_n c6]) (sl_deep hsl c6) hs1
      by_cases c7 : (fo (r_deep R)).2 = true
      · obtain ⟨sl2, hs2⟩ := y c7
        have hl9 := (f2 pre ty _ hri1 c7).1
        rw [if_pos c7]
        refine ⟨fun _ => ⟨?_, ?_⟩, fun z => absurd rfl z⟩
        · show ((fo (r_deep R)).1.2.2.2.2 ++ [(273, (0 : Int32), (none : Option Nat))]).length + c ≤ (fo (r_deep R)).1.1.1
          rw [r_app1]
          omega
        · exact sim_code (R := (fo (r_deep R)).1) hs2 (by omega) rfl rfl
      · rw [if_neg c7]
        exact ⟨fun z => absurd z Bool.false_ne_true, fun _ => kb_code (n c7)⟩
  rw [if_neg c1, if_neg (fun q => c1 ((K 273 17 (by decide)).mp q))]
  by_cases c2 : (tE E).1 R.1.1 = 141
  · rw [if_pos c2, if_pos ((K 91 141 (by decide)).mpr c2)]
    subst hd
    by_cases c6 : R.1.2 = 8
    · have hb := dp_8 (c0 := 91) hC (fun q => hdc.mp q c6) h hri.1
      rw [if_pos c6, if_neg (t_bk_ne hb), r_deep_p c6]
      exact ⟨fun z => absurd z Bool.false_ne_true, fun _ => hb⟩
    · obtain ⟨f1, f2, f3, f4⟩ := hft c6
      have hs1 := dp_y hC (hdc.mpr c6) h hri 91 141 (by decide) (by decide) c2 c6
      have hri1 := RI_deep hC.1 hri c2 (by decide) c6
      have hok1 := (r_ok_deep hC.1 hok c2 (by decide) c6).1
      rw [if_neg c6, if_pos hs1.1.1]
      obtain ⟨y, n⟩ := f1 (c + 1) pre ty _ (r_deep R) hri1 hok1 (by rw [r_deep_n c6]) (sl_deep hsl c6) hs1
      by_cases c7 : (ft (r_deep R)).2 = true
      · obtain ⟨sl2, hs2⟩ := y c7
        have hri2 := f2 pre ty _ hri1 c7
        rw [if_pos c7]
        by_cases c8 : (tE E).1 (ft (r_deep R)).1.1.1 = 143
        · rw [r_eat_p (R := r_up (ft (r_deep R)).1) c8, decide_eq_true c8]
          exact ⟨fun _ => ⟨by show (ft (r_deep R)).1.2.2.2.2.length + c ≤ (ft (r_deep R)).1.1.1 + 1; omega, (ex_y hC hs2 hri2 93 143 (by decide) (by decide) c8).2⟩, fun z => absurd rfl z⟩
        · rw [r_eat_n (R := r_up (ft (r_deep R)).1) c8, decide_eq_false c8]
          exact ⟨fun z => absurd z Bool.false_ne_true, fun _ => ex_n hC hs2 hri2.1 93 143 (by decide) c8⟩
      · rw [if_neg c7]
        exact ⟨fun z => absurd z Bool.false_ne_true, fun _ => kb_exp _ _ (n c7)⟩
  rw [if_neg c2, if_neg (fun q => c2 ((K 91 141 (by decide)).mp q))]
  by_cases c3 : (tE E).1 R.1.1 = 16
  · have hl := RI_lt hC.1 hri c3 (by decide)
    rw [if_pos c3, if_pos ((K 272 16 (by decide)).mpr c3), r_eat_p c3]
    obtain ⟨y, n⟩ := sim_awk (c := c + 1) hC HB (RI_adv hri hl) (sl_adv hsl) (ac_y hC h hri 272 16 (by decide) (by decide) c3).2
    exact ⟨fun z => ⟨by have := (y z).1; omega, (y z).2⟩, n⟩
  · rw [if_neg c3, if_neg (fun q => c3 ((K 272 16 (by decide)).mp q)), r_eat_n c3, ac_n hC h hri.1 272 16 (by decide) c3]
    exact hfs c pre ty S R hri hok hd hsl h
theorem dc_w : ∀ w, w < 8 → (nI (8 - (w + 1)) < 8 ↔ ¬ 8 - (w + 1) = 8) := by decide +kernel
theorem sim_valN (hC : CX D E N) (HB : B0.2 13 = E.2 13 ∧ B0.2 14 = E.2 14 ∧ B0.2 20 = E.2 20) : ∀ w, w ≤ 8 → simG D E N S0 B0 (8 - w) false (t_valN D w) (r_valN (tE E) w) := by
  intro w
  induction w with
  | zero => exact fun _ => ⟨fun c pre ty S R hri hok hd hsl h => sim_val (dp := 8 - 0) hC HB (by decide) (fun q => absurd rfl q) (fun q => absurd rfl q) hri hok hd hsl h, RO_valN hC.1 0, r_gd_valN hC.1 0, kb_valN 0⟩
  | succ w ih =>
    intro h8
    have i1 := ih (by omega)
    have i2 := sim_sum hC i1
    rw [← m_dep h8] at i1 i2
    exact ⟨fun c pre ty S R hri hok hd hsl h => sim_val hC HB (dc_w w (by omega)) (fun _ => i1) (fun _ => i2) hri hok hd hsl h, RO_valN hC.1 (w + 1), r_gd_valN hC.1 (w + 1), kb_valN (w + 1)⟩
theorem sim_sinN (hC : CX D E N) (HB : B0.2 13 = E.2 13 ∧ B0.2 14 = E.2 14 ∧ B0.2 20 = E.2 20) : ∀ w, w ≤ 8 → simG D E N S0 B0 (8 - w) true (t_sinN D w) (r_sinN (tE E) w) := by
  intro w
  induction w with
  | zero => exact fun _ => ⟨fun c pre ty S R hri hok hd hsl h => sim_single (dp := 8 - 0) hC HB (by decide) (fun q => absurd rfl q) (fun q => absurd rfl q) (sim_cmp hC (sim_sum hC (sim_valN hC HB 0 (Nat.zero_le _)))) hri hok hd hsl h, RO_sinN hC.1 0, r_gd_sinN hC.1 0, kb_sinN 0⟩
  | succ w ih =>
    intro h8
    have i1 := ih (by omega)
    have i2 := sim_test hC i1
    rw [← m_dep h8] at i1 i2
    exact ⟨fun c pre ty S R hri hok hd hsl h => sim_single hC HB (dc_w w (by omega)) (fun _ => i1) (fun _ => i2) (sim_cmp hC (sim_sum hC (sim_valN hC HB (w + 1) h8))) hri hok hd hsl h, RO_sinN hC.1 (w + 1), r_gd_sinN hC.1 (w + 1), kb_sinN (w + 1)⟩
/-- a whole test, of both -/
theorem sim_testN (hC : CX D E N) (HB : B0.2 13 = E.2 13 ∧ B0.2 14 = E.2 14 ∧ B0.2 20 = E.2 20) : simG D E N S0 B0 0 true (t_testN D 8) (r_testN (tE E) 8) := sim_test hC (sim_sinN hC HB 8 (Nat.le_refl _))
end XSQ
