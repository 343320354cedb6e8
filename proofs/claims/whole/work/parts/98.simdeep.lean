def simF (D : tK) (E : rE) (N : Nat) (S0 : tS) (B0 : rE) (dp : Nat) (fc : tS → tS) (fr : rF) : Prop := ∀ (c : Nat) (pre : List rI) (ty : List Bool) (S : tS) (R : rS), RI (tE E) N pre ty R → r_ok N R → R.1.2 = dp → R.2.2.2.2.length + c ≤ R.1.1 → SIM D E N S0 B0 S R → ((fr R).2 = true → (fr R).1.2.2.2.2.length + c ≤ (fr R).1.1.1 ∧ SIM D E N S0 B0 (fc S) (fr R).1) ∧ (¬ (fr R).2 = true → t_bk (fc S) (D.2.2.2.1 (fr R).1.1.1))
/-- what a way of reading must be for the steps below -/
def simG (D : tK) (E : rE) (N : Nat) (S0 : tS) (B0 : rE) (dp : Nat) (b : Bool) (fc : tS → tS) (fr : rF) : Prop := simF D E N S0 B0 dp fc fr ∧ RO (tE E) N fr b ∧ r_gd N fr ∧ t_kb fc
section XSF
variable {D : tK} {E : rE} {N : Nat} {S0 : tS} {B0 : rE} {S : tS} {R : rS} {pre : List rI} {ty : List Bool}
theorem t_bk_ne {x : Int32} (h : t_bk S x) : ¬ S.1 11 3 = -1 := fun q => h.2 (h.1.symm.trans q)
theorem RI_z (h : RI (tE E) N pre ty R) : R.2.2.2.1 R.1.1 = 0 := h.2.2.2.1 _ (Nat.le_refl _) h.1
theorem ex_y (hC : CX D E N) (h : SIM D E N S0 B0 S R) (hri : RI (tE E) N pre ty R) (c0 r0 : Int32) (hq : (c0, r0) ∈ tk_M) (h9 : r0 < 900) (hk : (tE E).1 R.1.1 = r0) : t_exp D S c0 = t_adv D S ∧ SIM D E N S0 B0 (t_exp D S c0) (r_adv R) := by
  have e : t_exp D S c0 = t_adv D S := if_pos ((Syn_k hC h.1 hri.1 c0 r0 hq).mpr hk)
  rw [e]
  exact ⟨rfl, sim_adv hC h (RI_lt hC.1 hri hk h9) (RI_z hri)⟩
theorem ex_n (hC : CX D E N) (h : SIM D E N S0 B0 S R) (hle : R.1.1 ≤ N) (c0 r0 : Int32) (hq : (c0, r0) ∈ tk_M) (hk : ¬ (tE E).1 R.1.1 = r0) : t_bk (t_exp D S c0) (D.2.2.2.1 R.1.1) := by
  have e : t_exp D S c0 = t_brk S := if_neg (fun q => hk ((Syn_k hC h.1 hle c0 r0 hq).mp q))
  rw [e]
  exact Syn_brk hC h.1 hle
theorem ac_y (hC : CX D E N) (h : SIM D E N S0 B0 S R) (hri : RI (tE E) N pre ty R) (c0 r0 : Int32) (hq : (c0, r0) ∈ tk_M) (h9 : r0 < 900) (hk : (tE E).1 R.1.1 = r0) : t_acc D S c0 = t_adv D S ∧ SIM D E N S0 B0 (t_acc D S c0) (r_adv R) := by
  have e : t_acc D S c0 = t_adv D S := if_pos ((Syn_k hC h.1 hri.1 c0 r0 hq).mpr hk)
  rw [e]
  exact ⟨rfl, sim_adv hC h (RI_lt hC.1 hri hk h9) (RI_z hri)⟩
theorem ac_n (hC : CX D E N) (h : SIM D E N S0 B0 S R) (hle : R.1.1 ≤ N) (c0 r0 : Int32) (hq : (c0, r0) ∈ tk_M) (hk : ¬ (tE E).1 R.1.1 = r0) : t_acc D S c0 = S := if_neg (fun q => hk ((Syn_k hC h.1 hle c0 r0 hq).mp q))
theorem dp_y (hC : CX D E N) {dc : Int32} (hdc : dc < 8) (h : SIM D E N S0 B0 S R) (hri : RI (tE E) N pre ty R) (c0 r0 : Int32) (hq : (c0, r0) ∈ tk_M) (h9 : r0 < 900) (hk : (tE E).1 R.1.1 = r0) (h8 : ¬ R.1.2 = 8) : SIM D E N S0 B0 (t_deep D S c0 dc) (r_deep R) := by
  have e : t_deep D S c0 dc = t_exp D S c0 := if_pos hdc
  rw [e, r_deep_n h8]
  exact (ex_y hC h hri c0 r0 hq h9 hk).2
theorem dp_8 (hC : CX D E N) {dc c0 : Int32} (hdc : ¬ dc < 8) (h : SIM D E N S0 B0 S R) (hle : R.1.1 ≤ N) : t_bk (t_deep D S c0 dc) (D.2.2.2.1 R.1.1) := by
  have e : t_deep D S c0 dc = t_brk S := if_neg hdc
  rw [e]
  exact Syn_brk hC h.1 hle
theorem dp_n (hC : CX D E N) {dc : Int32} (h : SIM D E N S0 B0 S R) (hle : R.1.1 ≤ N) (c0 r0 : Int32) (hq : (c0, r0) ∈ tk_M) (hk : ¬ (tE E).1 R.1.1 = r0) : t_bk (t_deep D S c0 dc) (D.2.2.2.1 R.1.1) := by
  unfold t_deep
  by_cases c : dc < 8
  · rw [if_pos c]; exact ex_n hC h hle c0 r0 hq hk
  · rw [if_neg c]; exact Syn_brk hC h.1 hle
theorem sl_adv {c : Nat} (h : R.2.2.2.2.length + c ≤ R.1.1) : (r_adv R).2.2.2.2.length + (c + 1) ≤ (r_adv R).1.1 := by
  show R.2.2.2.2.length + (c + 1) ≤ R.1.1 + 1
  omega
theorem sl_deep {c : Nat} (h : R.2.2.2.2.length + c ≤ R.1.1) (h8 : ¬ R.1.2 = 8) : (r_deep R).2.2.2.2.length + (c + 1) ≤ (r_deep R).1.1 := by
  rw [r_deep_n h8]
  show R.2.2.2.2.length + (c + 1) ≤ R.1.1 + 1
  omega
/-- a sum in brackets -/
theorem sim_paren (hC : CX D E N) {fsc : tS → tS} {fsr : rF} {dp : Nat} {dc : Int32} (hdc : dc < 8 ↔ ¬ dp = 8) (hfs : ¬ dp = 8 → simG D E N S0 B0 (dp + 1) false fsc fsr) {c : Nat} {k : Int32} (hri : RI (tE E) N pre ty R) (hok : r_ok N R) (hd : R.1.2 = dp) (hsl : R.2.2.2.2.length + c ≤ R.1.1) (h : SIM D E N S0 B0 S R) : ((r_ins (tE E) fsr R k false).2 = true → (r_ins (tE E) fsr R k false).1.2.2.2.2.length + c ≤ (r_ins (tE E) fsr R k false).1.1.1 ∧ SIM D E N S0 B0 (if (t_deep D S 40 dc).1 11 3 = -1 then t_exp D (fsc (t_deep D S 40 dc)) 41 else t_deep D S 40 dc) (r_ins (tE E) fsr R k false).1) ∧ (¬ (r_ins (tE E) fsr R k false).2 = true → t_bk (if (t_deep D S 40 dc).1 11 3 = -1 then t_exp D (fsc (t_deep D S 40 dc)) 41 else t_deep D S 40 dc) (D.2.2.2.1 (r_ins (tE E) fsr R k false).1.1.1)) := by
  subst hd
  by_cases c1 : (tE E).1 R.1.1 = 90
  · by_cases c2 : R.1.2 = 8
    · have e : r_ins (tE E) fsr R k false = (R, false) := by unfold r_ins; rw [if_pos c1, if_pos c2, r_deep_p c2]
      have hb := dp_8 (c0 := 40) hC (fun q => hdc.mp q c2) h hri.1
      rw [e, if_neg (t_bk_ne hb)]
      exact ⟨fun z => absurd z Bool.false_ne_true, fun _ => hb⟩
    · obtain ⟨f1, f2, f3, f4⟩ := hfs c2
      have hs1 := dp_y hC (hdc.mpr c2) h hri 40 90 (by decide) (by decide) c1 c2
      have hri1 := RI_deep hC.1 hri c1 (by decide) c2
      have hok1 := (r_ok_deep hC.1 hok c1 (by decide) c2).1
      rw [if_pos hs1.1.1]
      obtain ⟨y, n⟩ := f1 (c + 1) pre ty _ (r_deep R) hri1 hok1 (by rw [r_deep_n c2]) (sl_deep hsl c2) hs1
      by_cases c3 : (fsr (r_deep R)).2 = true
      · obtain ⟨sl2, hs2⟩ := y c3
        have hri2 := f2 pre ty _ hri1 c3
        by_cases c4 : (tE E).1 (fsr (r_deep R)).1.1.1 = 91
        · have e : r_ins (tE E) fsr R k false = (r_adv (r_up (fsr (r_deep R)).1), true) := by
            unfold r_ins
            rw [if_pos c1, if_neg c2, if_pos c3, if_neg (by decide), r_eat_p (R := r_up (fsr (r_deep R)).1) c4, decide_eq_true c4]
          rw [e]
          exact ⟨fun _ => ⟨by show (fsr (r_deep R)).1.2.2.2.2.length + c ≤ (fsr (r_deep R)).1.1.1 + 1; omega, (ex_y hC hs2 hri2 41 91 (by decide) (by decide) c4).2⟩, fun z => absurd rfl z⟩
        · have e : r_ins (tE E) fsr R k false = (r_up (fsr (r_deep R)).1, false) := by
            unfold r_ins
            rw [if_pos c1, if_neg c2, if_pos c3, if_neg (by decide), r_eat_n (R := r_up (fsr (r_deep R)).1) c4, decide_eq_false c4]
          rw [e]
          exact ⟨fun z => absurd z Bool.false_ne_true, fun _ => ex_n hC hs2 hri2.1 41 91 (by decide) c4⟩
      · have e : r_ins (tE E) fsr R k false = ((fsr (r_deep R)).1, false) := by
          unfold r_ins
          rw [if_pos c1, if_neg c2, if_neg c3]
        rw [e]
        exact ⟨fun z => absurd z Bool.false_ne_true, fun _ => kb_exp _ _ (n c3)⟩
  · have e : r_ins (tE E) fsr R k false = (R, false) := by unfold r_ins; rw [if_neg c1]
    have hb := dp_n (dc := dc) hC h hri.1 40 90 (by decide) c1
    rw [e, if_neg (t_bk_ne hb)]
    exact ⟨fun z => absurd z Bool.false_ne_true, fun _ => hb⟩
/-- the lesser or greater of two -/
theorem sim_pair (hC : CX D E N) {fsc : tS → tS} {fsr : rF} {dp : Nat} {dc : Int32} (hdc : dc < 8 ↔ ¬ dp = 8) (hfs : ¬ dp = 8 → simG D E N S0 B0 (dp + 1) false fsc fsr) {c : Nat} {k kc : Int32} (hkc : nI (k.toNatClampNeg + 256) = kc) (hri : RI (tE E) N pre ty R) (hok : r_ok N R) (hd : R.1.2 = dp) (hsl : R.2.2.2.2.length + c ≤ R.1.1) (h : SIM D E N S0 B0 S R) : ((r_ins (tE E) fsr R k true).2 = true → (r_ins (tE E) fsr R k true).1.2.2.2.2.length + c ≤ (r_ins (tE E) fsr R k true).1.1.1 ∧ SIM D E N S0 B0 (t_pair D dc fsc S kc) (r_ins (tE E) fsr R k true).1) ∧ (¬ (r_ins (tE E) fsr R k true).2 = true → t_bk (t_pair D dc fsc S kc) (D.2.2.2.1 (r_ins (tE E) fsr R k true).1.1.1)) := by
  subst hd
  have hN4 := hC.1.1
  unfold t_pair
  by_cases c1 : (tE E).1 R.1.1 = 90
  · by_cases c2 : R.1.2 = 8
    · have e : r_ins (tE E) fsr R k true = (R, false) := by unfold r_ins; rw [if_pos c1, if_pos c2, r_deep_p c2]
      have hb := dp_8 (c0 := 40) hC (fun q => hdc.mp q c2) h hri.1
      rw [e, if_neg (t_bk_ne hb)]
      exact ⟨fun z => absurd z Bool.false_ne_true, fun _ => hb⟩
    · obtain ⟨f1, f2, f3, f4⟩ := hfs c2
      have hs1 := dp_y hC (hdc.mpr c2) h hri 40 90 (by decide) (by decide) c1 c2
      have hri1 := RI_deep hC.1 hri c1 (by decide) c2
      have hok1 := (r_ok_deep hC.1 hok c1 (by decide) c2).1
      rw [if_pos hs1.1.1]
      have hd1 : (r_deep R).1.2 = R.1.2 + 1 := by rw [r_deep_n c2]
      obtain ⟨y, n⟩ := f1 (c + 1) pre ty _ (r_deep R) hri1 hok1 hd1 (sl_deep hsl c2) hs1
      by_cases c3 : (fsr (r_deep R)).2 = true
      · obtain ⟨sl2, hs2⟩ := y c3
        have hri2 := f2 pre ty _ hri1 c3
        have hgd := f3 _ hok1
        have hok2 := r_st_ok hok1 hgd.1
        by_cases c4 : (tE E).1 (fsr (r_deep R)).1.1.1 = 94
        · obtain ⟨-, hs3⟩ := ex_y hC hs2 hri2 44 94 (by decide) (by decide) c4
          have hri3 := RI_adv hri2 (RI_lt hC.1 hri2 c4 (by decide))
          have hok3 := (r_ok_adv hC.1 hok2 c4 (by decide)).1
          obtain ⟨y2, n2⟩ := f1 (c + 1 + 1) pre (false :: ty) _ (r_adv (fsr (r_deep R)).1) hri3 hok3 (by show (fsr (r_deep R)).1.1.2 = R.1.2 + 1; rw [(hgd.2 c3).2, hd1]) (sl_adv sl2) hs3
          by_cases c5 : (fsr (r_adv (fsr (r_deep R)).1)).2 = true
          · obtain ⟨sl4, hs4⟩ := y2 c5
            have hri4 := f2 pre _ _ hri3 c5
            by_cases c6 : (tE E).1 (fsr (r_adv (fsr (r_deep R)).1)).1.1.1 = 91
            · have e : r_ins (tE E) fsr R k true = (r_adv (r_gh (r_put (r_up (fsr (r_adv (fsr (r_deep R)).1)).1) k) (k.toNatClampNeg + 256, 0, none)), true) := by
                unfold r_ins
                rw [if_pos c1, if_neg c2, if_pos c3, if_pos rfl, if_pos c4, r_eat_p c4, if_pos c5, r_eat_p (R := r_gh (r_put (r_up (fsr (r_adv (fsr (r_deep R)).1)).1) k) (k.toNatClampNeg + 256, 0, none)) c6, decide_eq_true c6]
              rw [e]
              obtain ⟨-, hs5⟩ := ex_y hC hs4 hri4 41 91 (by decide) (by decide) c6
              have hl9 := hri4.1
              refine ⟨fun _ => ⟨?_, ?_⟩, fun z => absurd rfl z⟩
              · show ((fsr (r_adv (fsr (r_deep R)).1)).1.2.2.2.2 ++ [(k.toNatClampNeg + 256, (0 : Int32), (none : Option Nat))]).length + c ≤ (fsr (r_adv (fsr (r_deep R)).1)).1.1.1 + 1
                rw [r_app1]
                omega
              · exact sim_code (R := r_adv (fsr (r_adv (fsr (r_deep R)).1)).1) hs5 (by show (fsr (r_adv (fsr (r_deep R)).1)).1.2.2.2.2.length < 400; omega) hkc rfl
            · have e : r_ins (tE E) fsr R k true = (r_gh (r_put (r_up (fsr (r_adv (fsr (r_deep R)).1)).1) k) (k.toNatClampNeg + 256, 0, none), false) := by
                unfold r_ins
                rw [if_pos c1, if_neg c2, if_pos c3, if_pos rfl, if_pos c4, r_eat_p c4, if_pos c5, r_eat_n (R := r_gh (r_put (r_up (fsr (r_adv (fsr (r_deep R)).1)).1) k) (k.toNatClampNeg + 256, 0, none)) c6, decide_eq_false c6]
              rw [e]
              exact ⟨fun z => absurd z Bool.false_ne_true, fun _ => kb_code (ex_n hC hs4 hri4.1 41 91 (by decide) c6)⟩
          · have e : r_ins (tE E) fsr R k true = ((fsr (r_adv (fsr (r_deep R)).1)).1, false) := by
              unfold r_ins
              rw [if_pos c1, if_neg c2, if_pos c3, if_pos rfl, if_pos c4, r_eat_p c4, if_neg c5]
            rw [e]
            exact ⟨fun z => absurd z Bool.false_ne_true, fun _ => kb_code (kb_exp _ _ (n2 c5))⟩
        · have e : r_ins (tE E) fsr R k true = ((fsr (r_deep R)).1, false) := by
            unfold r_ins
            rw [if_pos c1, if_neg c2, if_pos c3, if_pos rfl, if_neg c4, r_eat_n c4]
          rw [e]
          exact ⟨fun z => absurd z Bool.false_ne_true, fun _ => kb_code (kb_exp _ _ (f4 _ _ (ex_n hC hs2 hri2.1 44 94 (by decide) c4)))⟩
      · have e : r_ins (tE E) fsr R k true = ((fsr (r_deep R)).1, false) := by
          unfold r_ins
          rw [if_pos c1, if_neg c2, if_neg c3]
        rw [e]
        exact ⟨fun z => absurd z Bool.false_ne_true, fun _ => kb_code (kb_exp _ _ (f4 _ _ (kb_exp _ _ (n c3))))⟩
  · have e : r_ins (tE E) fsr R k true = (R, false) := by unfold r_ins; rw [if_neg c1]
    have hb := dp_n (dc := dc) hC h hri.1 40 90 (by decide) c1
    rw [e, if_neg (t_bk_ne hb)]
    exact ⟨fun z => absurd z Bool.false_ne_true, fun _ => hb⟩
end XSF
