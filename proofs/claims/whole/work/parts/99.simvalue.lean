section XSV
variable {D : tK} {E : rE} {N : Nat} {S0 : tS} {B0 : rE} {S : tS} {R : rS} {pre : List rI} {ty : List Bool}
theorem sim_vn0 (hC : CX D E N) (HB : B0.2 13 = E.2 13 ∧ B0.2 14 = E.2 14 ∧ B0.2 20 = E.2 20) {c dp : Nat} (hri : RI (tE E) N pre ty R) (hok : r_ok N R) (hd : R.1.2 = dp) (hsl : R.2.2.2.2.length + c ≤ R.1.1) (h : SIM D E N S0 B0 S R) (hk : (tE E).1 R.1.1 = 1) : ((r_vn (tE E) R 1).2 = true → (r_vn (tE E) R 1).1.2.2.2.2.length + c ≤ (r_vn (tE E) R 1).1.1.1 ∧ SIM D E N S0 B0 (t_vn D S 257) (r_vn (tE E) R 1).1) ∧ (¬ (r_vn (tE E) R 1).2 = true → t_bk (t_vn D S 257) (D.2.2.2.1 (r_vn (tE E) R 1).1.1.1)) := by
  have hN4 := hC.1.1
  have hl := RI_lt hC.1 hri hk (by decide)
  have hs1 := sim_adv hC h hl (RI_z hri)
  have hri1 := RI_adv hri hl
  have eC : t_vn D S 257 = t_code (t_known0 D (t_exp D (t_adv D S) 271)) 257 (t_fd0 (t_exp D (t_adv D S) 271)) := if_pos rfl
  rw [eC]
  by_cases c1 : (tE E).1 (R.1.1 + 1) = 15
  · obtain ⟨-, hs2⟩ := ex_y hC hs1 hri1 271 15 (by decide) (by decide) c1
    have hri2 := RI_adv hri1 (RI_lt hC.1 hri1 c1 (by decide))
    by_cases c2 : (tE E).1 (R.1.1 + 2) = 40
    · have hl2 : R.1.1 + 2 < N := RI_lt hC.1 hri2 c2 (by decide)
      have e : r_vn (tE E) R 1 = (r_gh (r_adv (r_role (r_put (r_opn (r_adv (r_adv (r_put R 1)))) (nI (R.1.1 + 2))) 5)) (257, 0, some (R.1.1 + 2)), true) := by
        unfold r_vn r_name r_eatAs
        rw [if_pos (show (tE E).1 (r_adv (r_put R 1)).1.1 = 15 from c1), r_eat_p (R := r_adv (r_put R 1)) c1, decide_eq_true c2]
        show (r_gh (r_eat (tE E) (r_role (r_put (r_opn (r_adv (r_adv (r_put R 1)))) (nI (R.1.1 + 2))) 5) 40) (257, 0, some (R.1.1 + 2)), true) = _
        rw [r_eat_p (R := r_role (r_put (r_opn (r_adv (r_adv (r_put R 1)))) (nI (R.1.1 + 2))) 5) c2]
      rw [e]
      refine ⟨fun _ => ⟨?_, ?_⟩, fun z => absurd rfl z⟩
      · show (R.2.2.2.2 ++ [(257, (0 : Int32), some (R.1.1 + 2))]).length + c ≤ R.1.1 + 3
        rw [r_app1]
        omega
      · exact sim_nm0 (R := r_adv (r_adv R)) hC HB hs2 hl2 c2 hri2.2.2.2.2.2.2 (by show R.2.2.2.2.length < 400; omega) (by decide) rfl
    · have e : r_vn (tE E) R 1 = (r_gh (r_role (r_put (r_opn (r_adv (r_adv (r_put R 1)))) (nI (R.1.1 + 2))) 5) (257, 0, some (R.1.1 + 2)), false) := by
        unfold r_vn r_name r_eatAs
        rw [if_pos (show (tE E).1 (r_adv (r_put R 1)).1.1 = 15 from c1), r_eat_p (R := r_adv (r_put R 1)) c1, decide_eq_false c2]
        show (r_gh (r_eat (tE E) (r_role (r_put (r_opn (r_adv (r_adv (r_put R 1)))) (nI (R.1.1 + 2))) 5) 40) (257, 0, some (R.1.1 + 2)), false) = _
        rw [r_eat_n (R := r_role (r_put (r_opn (r_adv (r_adv (r_put R 1)))) (nI (R.1.1 + 2))) 5) c2]
      rw [e]
      refine ⟨fun z => absurd z Bool.false_ne_true, fun _ => kb_code ?_⟩
      have hz := lk0_Syn hs2.1
      have e9 : t_known0 D (t_exp D (t_adv D S) 271) = t_brk (t_lk0 (t_exp D (t_adv D S) 271)) := if_neg (fun q => c2 ((Syn_k hC hz hri2.1 2 40 (by decide)).mp q))
      rw [e9]
      exact Syn_brk hC hz hri2.1
  · have e : r_vn (tE E) R 1 = (r_adv (r_put R 1), false) := by
      unfold r_vn
      rw [if_neg (show ¬ (tE E).1 (r_adv (r_put R 1)).1.1 = 15 from c1), r_eat_n (R := r_adv (r_put R 1)) c1]
    rw [e]
    exact ⟨fun z => absurd z Bool.false_ne_true, fun _ => kb_code (kb_known0 _ _ (ex_n hC hs1 hri1.1 271 15 (by decide) c1))⟩
theorem sim_vn1 (hC : CX D E N) (HB : B0.2 13 = E.2 13 ∧ B0.2 14 = E.2 14 ∧ B0.2 20 = E.2 20) {c dp : Nat} (hri : RI (tE E) N pre ty R) (hok : r_ok N R) (hd : R.1.2 = dp) (hsl : R.2.2.2.2.length + c ≤ R.1.1) (h : SIM D E N S0 B0 S R) (hk : (tE E).1 R.1.1 = 14) : ((r_vn (tE E) R 14).2 = true → (r_vn (tE E) R 14).1.2.2.2.2.length + c ≤ (r_vn (tE E) R 14).1.1.1 ∧ SIM D E N S0 B0 (t_vn D S 270) (r_vn (tE E) R 14).1) ∧ (¬ (r_vn (tE E) R 14).2 = true → t_bk (t_vn D S 270) (D.2.2.2.1 (r_vn (tE E) R 14).1.1.1)) := by
  have hN4 := hC.1.1
  have hl := RI_lt hC.1 hri hk (by decide)
  have hs1 := sim_adv hC h hl (RI_z hri)
  have hri1 := RI_adv hri hl
  have eC : t_vn D S 270 = t_code (t_known1 D (t_exp D (t_adv D S) 271)) 270 (t_fd1 (t_exp D (t_adv D S) 271)) := if_neg (by decide)
  rw [eC]
  by_cases c1 : (tE E).1 (R.1.1 + 1) = 15
  · obtain ⟨-, hs2⟩ := ex_y hC hs1 hri1 271 15 (by decide) (by decide) c1
    have hri2 := RI_adv hri1 (RI_lt hC.1 hri1 c1 (by decide))
    by_cases c2 : (tE E).1 (R.1.1 + 2) = 40
    · have hl2 : R.1.1 + 2 < N := RI_lt hC.1 hri2 c2 (by decide)
      have e : r_vn (tE E) R 14 = (r_gh (r_adv (r_role (r_put (r_opn (r_adv (r_adv (r_put R 14)))) (nI (R.1.1 + 2))) 6)) (270, 0, some (R.1.1 + 2)), true) := by
        unfold r_vn r_name r_eatAs
        rw [if_pos (show (tE E).1 (r_adv (r_put R 14)).1.1 = 15 from c1), r_eat_p (R := r_adv (r_put R 14)) c1, decide_eq_true c2]
        show (r_gh (r_eat (tE E) (r_role (r_put (r_opn (r_adv (r_adv (r_put R 14)))) (nI (R.1.1 + 2))) 6) 40) (270, 0, some (R.1.1 + 2)), true) = _
        rw [r_eat_p (R := r_role (r_put (r_opn (r_adv (r_adv (r_put R 14)))) (nI (R.1.1 + 2))) 6) c2]
      rw [e]
      refine ⟨fun _ => ⟨?_, ?_⟩, fun z => absurd rfl z⟩
      · show (R.2.2.2.2 ++ [(270, (0 : Int32), some (R.1.1 + 2))]).length + c ≤ R.1.1 + 3
        rw [r_app1]
        omega
      · exact sim_nm1 (R := r_adv (r_adv R)) hC HB hs2 hl2 c2 hri2.2.2.2.2.2.2 (by show R.2.2.2.2.length < 400; omega) (by decide) rfl
    · have e : r_vn (tE E) R 14 = (r_gh (r_role (r_put (r_opn (r_adv (r_adv (r_put R 14)))) (nI (R.1.1 + 2))) 6) (270, 0, some (R.1.1 + 2)), false) := by
        unfold r_vn r_name r_eatAs
        rw [if_pos (show (tE E).1 (r_adv (r_put R 14)).1.1 = 15 from c1), r_eat_p (R := r_adv (r_put R 14)) c1, decide_eq_false c2]
        show (r_gh (r_eat (tE E) (r_role (r_put (r_opn (r_adv (r_adv (r_put R 14)))) (nI (R.1.1 + 2))) 6) 40) (270, 0, some (R.1.1 + 2)), false) = _
        rw [r_eat_n (R := r_role (r_put (r_opn (r_adv (r_adv (r_put R 14)))) (nI (R.1.1 + 2))) 6) c2]
      rw [e]
      refine ⟨fun z => absurd z Bool.false_ne_true, fun _ => kb_code ?_⟩
      have hz := lk1_Syn hs2.1
      have e9 : t_known1 D (t_exp D (t_adv D S) 271) = t_brk (t_lk1 (t_exp D (t_adv D S) 271)) := if_neg (fun q => c2 ((Syn_k hC hz hri2.1 2 40 (by decide)).mp q))
      rw [e9]
      exact Syn_brk hC hz hri2.1
  · have e : r_vn (tE E) R 14 = (r_adv (r_put R 14), false) := by
      unfold r_vn
      rw [if_neg (show ¬ (tE E).1 (r_adv (r_put R 14)).1.1 = 15 from c1), r_eat_n (R := r_adv (r_put R 14)) c1]
    rw [e]
    exact ⟨fun z => absurd z Bool.false_ne_true, fun _ => kb_code (kb_known1 _ _ (ex_n hC hs1 hri1.1 271 15 (by decide) c1))⟩
theorem Syn_num (hC : CX D E N) {t : Nat} (hs : Syn D S t) (ht : t < N) (hk : (tE E).1 t = 41) : S.2.2.2.toInt32 = (tE E).2 t := by
  obtain ⟨-, -, -, d⟩ := hC.2 t (Nat.le_of_lt ht)
  obtain ⟨p, m, a, b, e, v⟩ := d (hC.1.2.1 t ht)
  rw [hs.2.2.2.2, (v.1 hk).1]
  show _ = r_num E t
  unfold r_num
  rw [a, b, nI_clamp (by omega), nI_clamp (by omega)]
theorem sim_dv (hC : CX D E N) {c : Nat} {kc kr : Int32} {kn : Nat} (hkn : nI kn = kc) (hri : RI (tE E) N pre ty R) (hsl : R.2.2.2.2.length + c ≤ R.1.1) (hl : R.1.1 < N) {x : Int32} {cd : List Int32} (h : SIM D E N S0 B0 S R) : (R.2.2.2.2 ++ [(kn, x, (none : Option Nat))]).length + c ≤ R.1.1 + 1 ∧ SIM D E N S0 B0 (t_adv D (t_code S kc x)) (r_adv (R.1, cd, R.2.2.1, R.2.2.2.1, R.2.2.2.2 ++ [(kn, x, none)])) := by
  have hN4 := hC.1.1
  refine ⟨?_, ?_⟩
  · rw [r_app1]; omega
  · exact sim_adv (R := (R.1, cd, R.2.2.1, R.2.2.2.1, R.2.2.2.2 ++ [(kn, x, none)])) hC (sim_code h (by omega) hkn rfl) hl (show R.2.2.2.1 R.1.1 = 0 from RI_z hri)
theorem sim_val (hC : CX D E N) (HB : B0.2 13 = E.2 13 ∧ B0.2 14 = E.2 14 ∧ B0.2 20 = E.2 20) {fvc fsc : tS → tS} {fvr fsr : rF} {dp : Nat} {dc : Int32} (hdc : dc < 8 ↔ ¬ dp = 8) (hfv : ¬ dp = 8 → simG D E N S0 B0 (dp + 1) false fvc fvr) (hfs : ¬ dp = 8 → simG D E N S0 B0 (dp + 1) false fsc fsr) {c : Nat} (hri : RI (tE E) N pre ty R) (hok : r_ok N R) (hd : R.1.2 = dp) (hsl : R.2.2.2.2.length + c ≤ R.1.1) (h : SIM D E N S0 B0 S R) : ((r_val (tE E) fvr fsr R).2 = true → (r_val (tE E) fvr fsr R).1.2.2.2.2.length + c ≤ (r_val (tE E) fvr fsr R).1.1.1 ∧ SIM D E N S0 B0 (t_val D dc fvc fsc S) (r_val (tE E) fvr fsr R).1) ∧ (¬ (r_val (tE E) fvr fsr R).2 = true → t_bk (t_val D dc fvc fsc S) (D.2.2.2.1 (r_val (tE E) fvr fsr R).1.1.1)) := by
  have hN4 := hC.1.1
  have K := fun c0 r0 hq => Syn_k hC h.1 hri.1 c0 r0 hq
  unfold t_val r_val
  by_cases c1 : (tE E).1 R.1.1 = 41
  · have hl := RI_lt hC.1 hri c1 (by decide)
    rw [if_pos c1, if_pos ((K 3 41 (by decide)).mpr c1), Syn_num hC h.1 hl c1]
    exact ⟨fun _ => sim_dv (kc := 3) (kr := 41) (kn := 3) (cd := R.2.1 ++ [32] ++ [(tE E).2 R.1.1]) hC rfl hri hsl hl h, fun z => absurd rfl z⟩
  rw [if_neg c1, if_neg (fun q => c1 ((K 3 41 (by decide)).mp q))]
  by_cases c2 : r_dv ((tE E).1 R.1.1) = true
  · have hl := RI_lt hC.1 hri rfl (r_dv_lt c2)
    rw [if_pos c2]
    rcases r_dv3 c2 with q | q | q
    · have q2 := (K 267 11 (by decide)).mpr q
      rw [q, if_pos q2, q2]
      exact ⟨fun _ => sim_dv (kc := 267) (kr := 11) (kn := 267) (cd := R.2.1 ++ [11]) hC rfl hri hsl hl h, fun z => absurd rfl z⟩
    · have q2 := (K 268 12 (by decide)).mpr q
      rw [q, if_neg (by rw [q2]; decide), if_pos q2, q2]
      exact ⟨fun _ => sim_dv (kc := 268) (kr := 12) (kn := 268) (cd := R.2.1 ++ [12]) hC rfl hri hsl hl h, fun z => absurd rfl z⟩
    · have q2 := (K 269 13 (by decide)).mpr q
      rw [q, if_neg (by rw [q2]; decide), if_neg (by rw [q2]; decide), if_pos q2, q2]
      exact ⟨fun _ => sim_dv (kc := 269) (kr := 13) (kn := 269) (cd := R.2.1 ++ [13]) hC rfl hri hsl hl h, fun z => absurd rfl z⟩
  have n1 : ∀ r0, r_dv r0 = true → ¬ (tE E).1 R.1.1 = r0 := fun r0 a b => c2 (by rw [b]; exact a)
  rw [if_neg c2, if_neg (fun q => n1 11 (by decide) ((K 267 11 (by decide)).mp q)), if_neg (fun q => n1 12 (by decide) ((K 268 12 (by decide)).mp q)), if_neg (fun q => n1 13 (by decide) ((K 269 13 (by decide)).mp q))]
  by_cases c3 : (tE E).1 R.1.1 = 1
  · have q2 := (K 257 1 (by decide)).mpr c3
    rw [if_pos c3, if_pos q2, q2, c3]
    exact sim_vn0 hC HB hri hok hd hsl h c3
  rw [if_neg c3, if_neg (fun q => c3 ((K 257 1 (by decide)).mp q))]
  by_cases c4 : (tE E).1 R.1.1 = 14
  · have q2 := (K 270 14 (by decide)).mpr c4
    rw [if_pos c4, if_pos q2, q2, c4]
    exact sim_vn1 hC HB hri hok hd hsl h c4
  rw [if_neg c4, if_neg (fun q => c4 ((K 270 14 (by decide)).mp q))]
  by_cases c5 : (tE E).1 R.1.1 = 95
  · rw [if_pos c5, if_pos ((K 45 95 (by decide)).mpr c5)]
    subst hd
    by_cases c6 : R.1.2 = 8
    · have hb := dp_8 (c0 := 45) hC (fun q => hdc.mp q c6) h hri.1
      rw [if_pos c6, if_neg (t_bk_ne hb), r_deep_p c6]
      exact ⟨fun z => absurd z Bool.false_ne_true, fun _ => hb⟩
    · obtain ⟨f1, f2, f3, f4⟩ := hfv c6
      have hs1 := dp_y hC (hdc.mpr c6) h hri 45 95 (by decide) (by decide) c5 c6
      have hri1 := RI_deep hC.1 hri c5 (by decide) c6
      have hok1 := (r_ok_deep hC.1 hok c5 (by decide) c6).1
      rw [if_neg c6, if_pos hs1.1.1]
      obtain ⟨y, n⟩ := f1 (c + 1) pre ty _ (r_deep R) hri1 hok1 (by rw [r_deep_n c6]) (sl_deep hsl c6) hs1
      by_cases c7 : (fvr (r_deep R)).2 = true
      · obtain ⟨sl2, hs2⟩ := y c7
        have hl9 := (f2 pre ty _ hri1 c7).1
        rw [if_pos c7]
        refine ⟨fun _ => ⟨?_, ?_⟩, fun z => absurd rfl z⟩
        · show ((fvr (r_deep R)).1.2.2.2.2 ++ [(4, (0 : Int32), (none : Option Nat))]).length + c ≤ (fvr (r_deep R)).1.1.1
          rw [r_app1]
          omega
        · exact sim_code (R := (fvr (r_deep R)).1) hs2 (by omega) rfl rfl
      · rw [if_neg c7]
        exact ⟨fun z => absurd z Bool.false_ne_true, fun _ => kb_code (n c7)⟩
  rw [if_neg c5, if_neg (fun q => c5 ((K 45 95 (by decide)).mp q))]
  by_cases c8 : (tE E).1 R.1.1 = 20
  · have q2 := (K 276 20 (by decide)).mpr c8
    have hl := RI_lt hC.1 hri c8 (by decide)
    rw [if_pos c8, if_pos q2, q2, r_eat_p c8, c8]
    obtain ⟨y, n⟩ := sim_pair (k := 20) (kc := 276) hC hdc hfs (by decide) (RI_adv hri hl) (r_ok_adv hC.1 hok c8 (by decide)).1 (show (r_adv R).1.2 = dp from hd) (sl_adv hsl) (sim_adv hC h hl (RI_z hri))
    exact ⟨fun z => ⟨by have := (y z).1; omega, (y z).2⟩, n⟩
  rw [if_neg c8, if_neg (fun q => c8 ((K 276 20 (by decide)).mp q)), r_eat_n c8]
  by_cases c9 : (tE E).1 R.1.1 = 21
  · have q2 := (K 277 21 (by decide)).mpr c9
    have hl := RI_lt hC.1 hri c9 (by decide)
    rw [if_pos c9, if_pos q2, q2, r_eat_p c9, c9]
    obtain ⟨y, n⟩ := sim_pair (k := 21) (kc := 277) hC hdc hfs (by decide) (RI_adv hri hl) (r_ok_adv hC.1 hok c9 (by decide)).1 (show (r_adv R).1.2 = dp from hd) (sl_adv hsl) (sim_adv hC h hl (RI_z hri))
    exact ⟨fun z => ⟨by have := (y z).1; omega, (y z).2⟩, n⟩
  rw [if_neg c9, if_neg (fun q => c9 ((K 277 21 (by decide)).mp q)), r_eat_n c9]
  exact sim_paren hC hdc hfs hri hok hd hsl h
end XSV
