section XSW
variable {D : tK} {E : rE} {N : Nat} {S0 : tS} {B0 : rE}
theorem sim_lpb (hC : CX D E N) {k1 k2 r1 r2 p1 p2 : Int32} {n1 n2 dp : Nat} {fc : tS → tS} {fr : rF} (hf : simG D E N S0 B0 dp false fc fr) (q1 : (k1, r1) ∈ tk_M) (q2 : (k2, r2) ∈ tk_M) (h1 : r1 < 900) (h2 : r2 < 900) (hk1 : nI n1 = k1) (hk2 : nI n2 = k2) (o1 : ∀ ty, p_op n1 (false :: false :: ty) = some (false :: ty)) (o2 : ∀ ty, p_op n2 (false :: false :: ty) = some (false :: ty)) (m1 : n1 ≠ 257 ∧ n1 ≠ 270 ∧ (n1 = 272 → (0 : Int32) = 8)) (m2 : n2 ≠ 257 ∧ n2 ≠ 270 ∧ (n2 = 272 → (0 : Int32) = 8)) (e1 : g_tr1 (n1, 0) = [p1]) (e2 : g_tr1 (n2, 0) = [p2]) : ∀ (w1 w2 c : Nat) (pre : List rI) (ty : List Bool) (S : tS) (R : rS), N < R.1.1 + w1 → N < R.1.1 + w2 → RI (tE E) N pre (false :: ty) R → r_ok N R → R.1.2 = dp → R.2.2.2.2.length + c ≤ R.1.1 → SIM D E N S0 B0 S R → ((r_lpb (tE E) r1 r2 p1 p2 n1 n2 fr w2 R).2 = true → (r_lpb (tE E) r1 r2 p1 p2 n1 n2 fr w2 R).1.2.2.2.2.length + c ≤ (r_lpb (tE E) r1 r2 p1 p2 n1 n2 fr w2 R).1.1.1 ∧ SIM D E N S0 B0 (t_lpb D k1 k2 fc w1 S) (r_lpb (tE E) r1 r2 p1 p2 n1 n2 fr w2 R).1) ∧ (¬ (r_lpb (tE E) r1 r2 p1 p2 n1 n2 fr w2 R).2 = true → t_bk (t_lpb D k1 k2 fc w1 S) (D.2.2.2.1 (r_lpb (tE E) r1 r2 p1 p2 n1 n2 fr w2 R).1.1.1)) := by
  obtain ⟨f1, f2, f3, f4⟩ := hf
  have hN4 := hC.1.1
  intro w1
  induction w1 with
  | zero => intro w2 c pre ty S R a b hri; have := hri.1; omega
  | succ w1 ih =>
    intro w2 c pre ty S R a b hri hok hd hsl h
    obtain ⟨w2, rfl⟩ : ∃ w, w2 = w + 1 := ⟨w2 - 1, by have := hri.1; omega⟩
    have K := fun c0 r0 hq => Syn_k hC h.1 hri.1 c0 r0 hq
    have step : ∀ (kc r p : Int32) (n : Nat), (tE E).1 R.1.1 = r → r < 900 → S.1 11 1 = kc → nI n = kc → (∀ ty, p_op n (false :: false :: ty) = some (false :: ty)) → (n ≠ 257 ∧ n ≠ 270 ∧ (n = 272 → (0 : Int32) = 8)) → g_tr1 (n, 0) = [p] → (((if (fr (r_adv R)).2 = true then r_lpb (tE E) r1 r2 p1 p2 n1 n2 fr w2 (r_gh (r_put (fr (r_adv R)).1 p) (n, 0, none)) else ((fr (r_adv R)).1, false))).2 = true → ((if (fr (r_adv R)).2 = true then r_lpb (tE E) r1 r2 p1 p2 n1 n2 fr w2 (r_gh (r_put (fr (r_adv R)).1 p) (n, 0, none)) else ((fr (r_adv R)).1, false))).1.2.2.2.2.length + c ≤ ((if (fr (r_adv R)).2 = true then r_lpb (tE E) r1 r2 p1 p2 n1 n2 fr w2 (r_gh (r_put (fr (r_adv R)).1 p) (n, 0, none)) else ((fr (r_adv R)).1, false))).1.1.1 ∧ SIM D E N S0 B0 (t_lpb D k1 k2 fc w1 (t_code (fc (t_adv D S)) (S.1 11 1) 0)) ((if (fr (r_adv R)).2 = true then r_lpb (tE E) r1 r2 p1 p2 n1 n2 fr w2 (r_gh (r_put (fr (r_adv R)).1 p) (n, 0, none)) else ((fr (r_adv R)).1, false))).1) ∧ (¬ ((if (fr (r_adv R)).2 = true then r_lpb (tE E) r1 r2 p1 p2 n1 n2 fr w2 (r_gh (r_put (fr (r_adv R)).1 p) (n, 0, none)) else ((fr (r_adv R)).1, false))).2 = true → t_bk (t_lpb D k1 k2 fc w1 (t_code (fc (t_adv D S)) (S.1 11 1) 0)) (D.2.2.2.1 ((if (fr (r_adv R)).2 = true then r_lpb (tE E) r1 r2 p1 p2 n1 n2 fr w2 (r_gh (r_put (fr (r_adv R)).1 p) (n, 0, none)) else ((fr (r_adv R)).1, false))).1.1.1)) := by
      intro kc r p n hr h9 hS hn o m e
      have hl := RI_lt hC.1 hri hr h9
      have hri1 := RI_adv hri hl
      have hok1 := (r_ok_adv hC.1 hok hr h9).1
      obtain ⟨y, nn⟩ := f1 (c + 1) pre _ _ (r_adv R) hri1 hok1 (show (r_adv R).1.2 = dp from hd) (sl_adv hsl) (sim_adv hC h hl (RI_z hri))
      have g := f3 _ hok1
      by_cases c2 : (fr (r_adv R)).2 = true
      · obtain ⟨sl2, hs2⟩ := y c2
        have hri2 := f2 pre _ _ hri1 c2
        obtain ⟨g1, g2⟩ := g.2 c2
        have g1 : R.1.1 + 1 < (fr (r_adv R)).1.1.1 := g1
        have hl2 := hri2.1
        rw [if_pos c2, hS]
        have hok2 : r_ok N (r_gh (r_put (fr (r_adv R)).1 p) (n, 0, none)) := r_st_ok hok ((r_gd_op (x := p) (i := (n, 0, none)) hC.1 hok hr h9 f3).2.2 c2).1
        exact ih w2 c pre ty _ (r_gh (r_put (fr (r_adv R)).1 p) (n, 0, none)) (by show N < (fr (r_adv R)).1.1.1 + w1; omega) (by show N < (fr (r_adv R)).1.1.1 + w2; omega) (RI_gh hri2 (o ty) m e) hok2 (g2.trans hd) (by show ((fr (r_adv R)).1.2.2.2.2 ++ [(n, (0 : Int32), (none : Option Nat))]).length + c ≤ (fr (r_adv R)).1.1.1; rw [r_app1]; omega) (sim_code (R := (fr (r_adv R)).1) hs2 (by omega) hn rfl)
      · rw [if_neg c2]
        exact ⟨fun z => absurd z Bool.false_ne_true, fun _ => kb_lpb f4 w1 _ _ (kb_code (nn c2))⟩
    unfold t_lpb r_lpb
    by_cases c1 : (tE E).1 R.1.1 = r1
    · have q := (K k1 r1 q1).mpr c1
      rw [if_pos c1, if_pos q]
      exact step k1 r1 p1 n1 c1 h1 q hk1 o1 m1 e1
    rw [if_neg c1, if_neg (fun q => c1 ((K k1 r1 q1).mp q))]
    by_cases c3 : (tE E).1 R.1.1 = r2
    · have q := (K k2 r2 q2).mpr c3
      rw [if_pos c3, if_pos q]
      exact step k2 r2 p2 n2 c3 h2 q hk2 o2 m2 e2
    · rw [if_neg c3, if_neg (fun q => c3 ((K k2 r2 q2).mp q))]
      exact ⟨fun _ => ⟨hsl, h⟩, fun z => absurd rfl z⟩
theorem sim_then (hC : CX D E N) {dp : Nat} {b : Bool} {fc gc : tS → tS} {fr : rF} {gr : rS → rS × Bool} (hf : simG D E N S0 B0 dp b fc fr) (hgk : t_kb gc) (hg : ∀ (c : Nat) (pre : List rI) (ty : List Bool) (S : tS) (R : rS), 1 ≤ R.1.1 → RI (tE E) N pre (b :: ty) R → r_ok N R → R.1.2 = dp → R.2.2.2.2.length + c ≤ R.1.1 → SIM D E N S0 B0 S R → ((gr R).2 = true → (gr R).1.2.2.2.2.length + c ≤ (gr R).1.1.1 ∧ SIM D E N S0 B0 (gc S) (gr R).1) ∧ (¬ (gr R).2 = true → t_bk (gc S) (D.2.2.2.1 (gr R).1.1.1))) : simF D E N S0 B0 dp (fun S => gc (fc S)) (fun R => if (fr R).2 = true then gr (fr R).1 else ((fr R).1, false)) := by
  obtain ⟨f1, f2, f3, f4⟩ := hf
  intro c pre ty S R hri hok hd hsl h
  obtain ⟨y, n⟩ := f1 c pre ty S R hri hok hd hsl h
  have g := f3 _ hok
  show (((if (fr R).2 = true then gr (fr R).1 else ((fr R).1, false))).2 = true → ((if (fr R).2 = true then gr (fr R).1 else ((fr R).1, false))).1.2.2.2.2.length + c ≤ ((if (fr R).2 = true then gr (fr R).1 else ((fr R).1, false))).1.1.1 ∧ SIM D E N S0 B0 (gc (fc S)) ((if (fr R).2 = true then gr (fr R).1 else ((fr R).1, false))).1) ∧ (¬ ((if (fr R).2 = true then gr (fr R).1 else ((fr R).1, false))).2 = true → t_bk (gc (fc S)) (D.2.2.2.1 ((if (fr R).2 = true then gr (fr R).1 else ((fr R).1, false))).1.1.1))
  by_cases c1 : (fr R).2 = true
  · obtain ⟨sl, hs⟩ := y c1
    obtain ⟨g1, g2⟩ := g.2 c1
    rw [if_pos c1]
    exact hg c pre ty _ _ (by omega) (f2 pre ty R hri c1) (r_st_ok hok g.1) (g2.trans hd) sl hs
  · rw [if_neg c1]
    exact ⟨fun z => absurd z Bool.false_ne_true, fun _ => hgk _ _ (n c1)⟩
theorem sim_prod (hC : CX D E N) {dp : Nat} {fc : tS → tS} {fr : rF} (hf : simG D E N S0 B0 dp false fc fr) : simG D E N S0 B0 dp false (t_prod D fc) (r_prod (tE E) fr) :=
  ⟨sim_then (gc := t_lpb D 42 47 fc 400) (gr := r_lpb (tE E) 92 97 36 37 42 47 fr 401) hC hf (kb_lpb hf.2.2.2 400) (fun c pre ty S R h1 => sim_lpb (k1 := 42) (k2 := 47) (r1 := 92) (r2 := 97) (p1 := 36) (p2 := 37) (n1 := 42) (n2 := 47) hC hf (by decide) (by decide) (by decide) (by decide) rfl rfl (fun _ => rfl) (fun _ => rfl) ⟨by decide, by decide, fun q => absurd q (by decide)⟩ ⟨by decide, by decide, fun q => absurd q (by decide)⟩ rfl rfl 400 401 c pre ty S R (by have := hC.1.1; omega) (by have := hC.1.1; omega)), RO_prod hC.1 hf.2.1, r_gd_prod hC.1 hf.2.2.1, kb_prod hf.2.2.2⟩
theorem sim_sum (hC : CX D E N) {dp : Nat} {fc : tS → tS} {fr : rF} (hf : simG D E N S0 B0 dp false fc fr) : simG D E N S0 B0 dp false (t_sum D fc) (r_sum (tE E) fr) :=
  ⟨sim_then (gc := t_lpb D 43 45 (t_prod D fc) 400) (gr := r_lpb (tE E) 93 95 34 35 43 45 (r_prod (tE E) fr) 401) hC (sim_prod hC hf) (kb_lpb (kb_prod hf.2.2.2) 400) (fun c pre ty S R h1 => sim_lpb (k1 := 43) (k2 := 45) (r1 := 93) (r2 := 95) (p1 := 34) (p2 := 35) (n1 := 43) (n2 := 45) hC (sim_prod hC hf) (by decide) (by decide) (by decide) (by decide) rfl rfl (fun _ => rfl) (fun _ => rfl) ⟨by decide, by decide, fun q => absurd q (by decide)⟩ ⟨by decide, by decide, fun q => absurd q (by decide)⟩ rfl rfl 400 401 c pre ty S R (by have := hC.1.1; omega) (by have := hC.1.1; omega)), RO_sum hC.1 hf.2.1, r_gd_sum hC.1 hf.2.2.1, kb_sum hf.2.2.2⟩
theorem sim_lpa (hC : CX D E N) {k1 r1 : Int32} {n1 dp : Nat} {fc : tS → tS} {fr : rF} (hf : simG D E N S0 B0 dp true fc fr) (q1 : (k1, r1) ∈ tk_M) (h1 : r1 < 900) (hk1 : nI n1 = k1) (o1 : ∀ ty, p_op n1 (true :: true :: ty) = some (true :: ty)) (m1 : n1 ≠ 257 ∧ n1 ≠ 270 ∧ (n1 = 272 → (0 : Int32) = 8)) (e1 : g_tr1 (n1, 0) = [r1]) : ∀ (w1 w2 c : Nat) (pre : List rI) (ty : List Bool) (S : tS) (R : rS), N < R.1.1 + w1 → N < R.1.1 + w2 → RI (tE E) N pre (true :: ty) R → r_ok N R → R.1.2 = dp → R.2.2.2.2.length + c ≤ R.1.1 → SIM D E N S0 B0 S R → ((r_lpa (tE E) r1 n1 fr w2 R).2 = true → (r_lpa (tE E) r1 n1 fr w2 R).1.2.2.2.2.length + c ≤ (r_lpa (tE E) r1 n1 fr w2 R).1.1.1 ∧ SIM D E N S0 B0 (t_lpa D k1 fc w1 S) (r_lpa (tE E) r1 n1 fr w2 R).1) ∧ (¬ (r_lpa (tE E) r1 n1 fr w2 R).2 = true → t_bk (t_lpa D k1 fc w1 S) (D.2.2.2.1 (r_lpa (tE E) r1 n1 fr w2 R).1.1.1)) := by
  obtain ⟨f1, f2, f3, f4⟩ := hf
  have hN4 := hC.1.1
  intro w1
  induction w1 with
  | zero => intro w2 c pre ty S R a b hri; have := hri.1; omega
  | succ w1 ih =>
    intro w2 c pre ty S R a b hri hok hd hsl h
    obtain ⟨w2, rfl⟩ : ∃ w, w2 = w + 1 := ⟨w2 - 1, by have := hri.1; omega⟩
    unfold t_lpa r_lpa
    by_cases c1 : (tE E).1 R.1.1 = r1
    · have q := (Syn_k hC h.1 hri.1 k1 r1 q1).mpr c1
      have hl := RI_lt hC.1 hri c1 h1
      have hri1 := RI_adv hri hl
      have hok1 := (r_ok_adv hC.1 hok c1 h1).1
      have ea : t_acc D S k1 = t_adv D S := if_pos q
      rw [if_pos c1, if_pos q, ea, r_eat_p c1]
      obtain ⟨y, nn⟩ := f1 (c + 1) pre _ _ (r_adv R) hri1 hok1 (show (r_adv R).1.2 = dp from hd) (sl_adv hsl) (sim_adv hC h hl (RI_z hri))
      have g := f3 _ hok1
      by_cases c2 : (fr (r_adv R)).2 = true
      · obtain ⟨sl2, hs2⟩ := y c2
        have hri2 := f2 pre _ _ hri1 c2
        obtain ⟨g1, g2⟩ := g.2 c2
        have g1 : R.1.1 + 1 < (fr (r_adv R)).1.1.1 := g1
        have hl2 := hri2.1
        rw [if_pos c2]
        have hok2 : r_ok N (r_gh (r_put (fr (r_adv R)).1 r1) (n1, 0, none)) := r_st_ok hok ((r_gd_op (x := r1) (i := (n1, 0, none)) hC.1 hok c1 h1 f3).2.2 c2).1
        exact ih w2 c pre ty _ (r_gh (r_put (fr (r_adv R)).1 r1) (n1, 0, none)) (by show N < (fr (r_adv R)).1.1.1 + w1; omega) (by show N < (fr (r_adv R)).1.1.1 + w2; omega) (RI_gh hri2 (o1 ty) m1 e1) hok2 (g2.trans hd) (by show ((fr (r_adv R)).1.2.2.2.2 ++ [(n1, (0 : Int32), (none : Option Nat))]).length + c ≤ (fr (r_adv R)).1.1.1; rw [r_app1]; omega) (sim_code (R := (fr (r_adv R)).1) hs2 (by omega) hk1 rfl)
      · rw [if_neg c2]
        exact ⟨fun z => absurd z Bool.false_ne_true, fun _ => kb_lpa f4 w1 _ _ (kb_code (nn c2))⟩
    · have q : ¬ S.1 11 1 = k1 := fun q => c1 ((Syn_k hC h.1 hri.1 k1 r1 q1).mp q)
      have ea : t_acc D S k1 = S := if_neg q
      rw [if_neg c1, if_neg q, ea, r_eat_n c1]
      exact ⟨fun _ => ⟨hsl, h⟩, fun z => absurd rfl z⟩
theorem sim_both (hC : CX D E N) {dp : Nat} {fc : tS → tS} {fr : rF} (hf : simG D E N S0 B0 dp true fc fr) : simG D E N S0 B0 dp true (t_both D fc) (r_both (tE E) fr) :=
  ⟨sim_then (gc := t_lpa D 274 fc 400) (gr := r_lpa (tE E) 18 274 fr 401) hC hf (kb_lpa hf.2.2.2 400) (fun c pre ty S R h1 => sim_lpa (k1 := 274) (r1 := 18) (n1 := 274) hC hf (by decide) (by decide) rfl (fun _ => rfl) ⟨by decide, by decide, fun q => absurd q (by decide)⟩ rfl 400 401 c pre ty S R (by have := hC.1.1; omega) (by have := hC.1.1; omega)), RO_both hC.1 hf.2.1, r_gd_both hC.1 hf.2.2.1, kb_both hf.2.2.2⟩
theorem sim_test (hC : CX D E N) {dp : Nat} {fc : tS → tS} {fr : rF} (hf : simG D E N S0 B0 dp true fc fr) : simG D E N S0 B0 dp true (t_test D fc) (r_test (tE E) fr) :=
  ⟨sim_then (gc := t_lpa D 275 (t_both D fc) 400) (gr := r_lpa (tE E) 19 275 (r_both (tE E) fr) 401) hC (sim_both hC hf) (kb_lpa (kb_both hf.2.2.2) 400) (fun c pre ty S R h1 => sim_lpa (k1 := 275) (r1 := 19) (n1 := 275) hC (sim_both hC hf) (by decide) (by decide) rfl (fun _ => rfl) ⟨by decide, by decide, fun q => absurd q (by decide)⟩ rfl 400 401 c pre ty S R (by have := hC.1.1; omega) (by have := hC.1.1; omega)), RO_test hC.1 hf.2.1, r_gd_test hC.1 hf.2.2.1, kb_test hf.2.2.2⟩
end XSW
