section XOL
variable {D : tK} {E Ev B B0 : rE} {N od : Nat} {S S0 : tS} {R R0 : rS} {pre : List rI} {ty : List Bool}
theorem h_u_self {A : HS} {k j : Nat} {x : Int32} : h_u A k j x k = upd (A k) j x := by
  show (if k = k then upd (A k) j x else A k) = _
  rw [if_pos rfl]
theorem P2_bad_le {g : Nat → Int32} {t : Nat} (h : ¬ (P2 E g t).1 = 0) : ∀ d, ¬ (P2 E g (t + d)).1 = 0 := by
  intro d
  induction d with
  | zero => exact h
  | succ d ih =>
    rw [show t + (d + 1) = t + d + 1 by omega, P2_bad ih]
    exact ih
theorem ord_row {v t s : Int32} {r : Nat} (h4 : r ≠ 4) (h5 : r ≠ 5) (h6 : r ≠ 6) (h7 : r ≠ 7) (h10 : r ≠ 10) : (t_ord S v t s).1 r = S.1 r := by
  show h_u (q_r (q_r (q_r (q_r S.1 4 (rs 16 (S.1 4) (S.1 10 2) v)) 5 (rs 16 (S.1 5) (S.1 10 2) t)) 6 (rs 16 (S.1 6) (S.1 10 2) s)) 7 (rs 16 (S.1 7) (S.1 10 2) (S.1 10 3))) 10 2 (S.1 10 2 + 1) r = _
  rw [h_u_row h10]
  exact (if_neg h7).trans ((if_neg h6).trans ((if_neg h5).trans (if_neg h4)))
theorem ord_10 {v t s : Int32} {j : Nat} (h : j ≠ 2) : (t_ord S v t s).1 10 j = S.1 10 j := by
  show h_u (q_r (q_r (q_r (q_r S.1 4 (rs 16 (S.1 4) (S.1 10 2) v)) 5 (rs 16 (S.1 5) (S.1 10 2) t)) 6 (rs 16 (S.1 6) (S.1 10 2) s)) 7 (rs 16 (S.1 7) (S.1 10 2) (S.1 10 3))) 10 2 (S.1 10 2 + 1) 10 j = _
  rw [h_u_ne h]
  rfl
theorem ord_at {v t s : Int32} {n : Nat} (h : S.1 10 2 = nI n) (hn : n < 16) : (t_ord S v t s).1 10 2 = nI (n + 1) ∧ (t_ord S v t s).1 4 = upd (S.1 4) n v ∧ (t_ord S v t s).1 5 = upd (S.1 5) n t ∧ (t_ord S v t s).1 6 = upd (S.1 6) n s ∧ (t_ord S v t s).1 7 = upd (S.1 7) n (S.1 10 3) := by
  refine ⟨?_, ?_, ?_, ?_, ?_⟩
  · show h_u (q_r (q_r (q_r (q_r S.1 4 (rs 16 (S.1 4) (S.1 10 2) v)) 5 (rs 16 (S.1 5) (S.1 10 2) t)) 6 (rs 16 (S.1 6) (S.1 10 2) s)) 7 (rs 16 (S.1 7) (S.1 10 2) (S.1 10 3))) 10 2 (S.1 10 2 + 1) 10 2 = _
    rw [h_u_eq, h, nI_1]
  · show h_u (q_r (q_r (q_r (q_r S.1 4 (rs 16 (S.1 4) (S.1 10 2) v)) 5 (rs 16 (S.1 5) (S.1 10 2) t)) 6 (rs 16 (S.1 6) (S.1 10 2) s)) 7 (rs 16 (S.1 7) (S.1 10 2) (S.1 10 3))) 10 2 (S.1 10 2 + 1) 4 = _
    rw [h_u_row (by decide)]
    show rs 16 (S.1 4) (S.1 10 2) v = _
    rw [h, rs_nI hn (by decide)]
  · show h_u (q_r (q_r (q_r (q_r S.1 4 (rs 16 (S.1 4) (S.1 10 2) v)) 5 (rs 16 (S.1 5) (S.1 10 2) t)) 6 (rs 16 (S.1 6) (S.1 10 2) s)) 7 (rs 16 (S.1 7) (S.1 10 2) (S.1 10 3))) 10 2 (S.1 10 2 + 1) 5 = _
    rw [h_u_row (by decide)]
    show rs 16 (S.1 5) (S.1 10 2) t = _
    rw [h, rs_nI hn (by decide)]
  · show h_u (q_r (q_r (q_r (q_r S.1 4 (rs 16 (S.1 4) (S.1 10 2) v)) 5 (rs 16 (S.1 5) (S.1 10 2) t)) 6 (rs 16 (S.1 6) (S.1 10 2) s)) 7 (rs 16 (S.1 7) (S.1 10 2) (S.1 10 3))) 10 2 (S.1 10 2 + 1) 6 = _
    rw [h_u_row (by decide)]
    show rs 16 (S.1 6) (S.1 10 2) s = _
    rw [h, rs_nI hn (by decide)]
  · show h_u (q_r (q_r (q_r (q_r S.1 4 (rs 16 (S.1 4) (S.1 10 2) v)) 5 (rs 16 (S.1 5) (S.1 10 2) t)) 6 (rs 16 (S.1 6) (S.1 10 2) s)) 7 (rs 16 (S.1 7) (S.1 10 2) (S.1 10 3))) 10 2 (S.1 10 2 + 1) 7 = _
    rw [h_u_row (by decide)]
    show rs 16 (S.1 7) (S.1 10 2) (S.1 10 3) = _
    rw [h, rs_nI hn (by decide)]
/-- an order is complete -/
theorem LD_ord {k tv vc start : Int32} {G2 L : List rI} (h : XW D E N Ev od k tv False (start = nI G2.length) S R B) (hv : (k = 6 ∧ vc = 262) ∨ (k = 7 ∧ vc = 263) ∨ (k = 8 ∧ vc = 264)) (hG : R.2.2.2.2 = G2 ++ L) (hL : L = [] ∨ p_ty (L.map g_ks) [] = some [true]) : LD D E N (o_E3 Ev od (g_tr (G2.map (g_rs nI))).length (g_tr (R.2.2.2.2.map (g_rs nI))).length) (od + 1) (t_ord S vc tv start) R B := by
  obtain ⟨o16, ⟨⟨a1, a2⟩, ⟨b1, b2, b3, b4, b5, b6⟩, hr, ⟨d1, d2⟩, ⟨k1, k2, k3⟩, ⟨o1, o2⟩, ⟨c1, c2⟩, nm⟩, u4, u5, u3, ⟨tg, htg, hT⟩, hst⟩ := h
  obtain ⟨q10, q4, q5, q6, q7⟩ := ord_at (v := vc) (t := tv) (s := start) o1 o16
  have e11 : (t_ord S vc tv start).1 11 = S.1 11 := ord_row (by decide) (by decide) (by decide) (by decide) (by decide)
  have hp : o_p od = od := by unfold o_p; rw [if_neg (by omega)]
  have v6 : (o_E3 Ev od (g_tr (G2.map (g_rs nI))).length (g_tr (R.2.2.2.2.map (g_rs nI))).length).2 6 = upd (Ev.2 6) od (nI (g_tr (G2.map (g_rs nI))).length) := by
    show h_u (h_u (h_u Ev.2 10 3 (nI (od + 1))) 6 (o_p od) (nI (g_tr (G2.map (g_rs nI))).length)) 7 (o_p od) (nI (g_tr (R.2.2.2.2.map (g_rs nI))).length) 6 = _
    rw [h_u_row (by decide), hp, h_u_self, h_u_row (by decide)]
  have v7 : (o_E3 Ev od (g_tr (G2.map (g_rs nI))).length (g_tr (R.2.2.2.2.map (g_rs nI))).length).2 7 = upd (Ev.2 7) od (nI (g_tr (R.2.2.2.2.map (g_rs nI))).length) := by
    show h_u (h_u (h_u Ev.2 10 3 (nI (od + 1))) 6 (o_p od) (nI (g_tr (G2.map (g_rs nI))).length)) 7 (o_p od) (nI (g_tr (R.2.2.2.2.map (g_rs nI))).length) 7 = _
    rw [h_u_self, hp, h_u_row (by decide), h_u_row (by decide)]
  unfold LD LX
  rw [e11]
  refine ⟨⟨a1, a2⟩, ⟨b1, b2, b3, b4, b5, b6⟩, hr, ⟨(ord_10 (by decide)).trans d1, fun d hd => (congrFun (ord_row (by decide) (by decide) (by decide) (by decide) (by decide)) d).trans (d2 d hd)⟩, ⟨(ord_10 (by decide)).trans k1, fun q hq => PRT_mono (k2 q hq) (congrFun (ord_row (by decide) (by decide) (by decide) (by decide) (by decide)) q) (fun j _ => congrFun (ord_row (by decide) (by decide) (by decide) (by decide) (by decide)) _) (fun j _ => congrFun (ord_row (by decide) (by decide) (by decide) (by decide) (by decide)) _) rfl (fun _ _ => rfl) (fun _ _ => rfl) (Nat.le_refl _), k3⟩, ⟨q10, fun o ho => ?_⟩, ⟨(ord_10 (by decide)).trans c1, fun i q hq => ?_⟩, NM_same nm (congrFun e11 6) (congrFun e11 7) rfl rfl⟩
  · by_cases c : o = od
    · rw [c]
      have hvt : ∃ vb : Nat, vc = nI vb ∧ k = nI (vb - 256) ∧ ((vb = 262 ∧ tg < cnt R.2.2.2.1 2 R.1.1) ∨ ((vb = 263 ∨ vb = 264) ∧ (tg < cnt R.2.2.2.1 1 R.1.1 ∨ tg = 8))) := by
        rcases hv with ⟨x, y⟩ | ⟨x, y⟩ | ⟨x, y⟩
        · refine ⟨262, y, x, Or.inl ⟨rfl, ?_⟩⟩
          rcases hT with ⟨-, z⟩ | ⟨z, -⟩ | ⟨-, z⟩
          · exact z
          · rw [x] at z; exact absurd z (by decide)
          · exact z.elim
        · refine ⟨263, y, x, Or.inr ⟨Or.inl rfl, ?_⟩⟩
          rcases hT with ⟨z, -⟩ | ⟨-, z⟩ | ⟨-, z⟩
          · rw [x] at z; exact absurd z (by decide)
          · exact z
          · exact z.elim
        · refine ⟨264, y, x, Or.inr ⟨Or.inr rfl, ?_⟩⟩
          rcases hT with ⟨z, -⟩ | ⟨-, z⟩ | ⟨-, z⟩
          · rw [x] at z; exact absurd z (by decide)
          · exact z
          · exact z.elim
      obtain ⟨vb, w1, w2, w3⟩ := hvt
      refine ⟨vb, tg, by rw [q4, upd_at]; exact w1, u4.trans w2, by rw [q5, upd_at]; exact htg, u5.trans htg, w3, G2, L, [], ?_, by rw [q6, upd_at]; exact hst, ?_, by rw [v6, upd_at], ?_, hL⟩
      · rw [List.append_nil]; exact hG
      · rw [q7, upd_at, c1, hG]
      · rw [v7, upd_at, hG]
    · exact ORD_mono (o2 o (by omega)) (by rw [q4, upd_ne c]) (by rw [q5, upd_ne c]) (by rw [q6, upd_ne c]) (by rw [q7, upd_ne c]) rfl rfl (by rw [v6, upd_ne c]) (by rw [v7, upd_ne c]) ⟨[], (List.append_nil _).symm⟩ (Nat.le_refl _) (Nat.le_refl _)
  · rw [ord_row (by decide) (by decide) (by decide) (by decide) (by decide), ord_row (by decide) (by decide) (by decide) (by decide) (by decide)]
    exact c2 i q hq
theorem gs_ord {k tv vc start : Int32} {G2 L : List rI} (h : GS D E (XW D E N Ev od k tv False (start = nI G2.length)) S R) (hv : (k = 6 ∧ vc = 262) ∨ (k = 7 ∧ vc = 263) ∨ (k = 8 ∧ vc = 264)) (hG : R.2.2.2.2 = G2 ++ L) (hL : L = [] ∨ p_ty (L.map g_ks) [] = some [true]) : GS D E (LD D E N (o_E3 Ev od (g_tr (G2.map (g_rs nI))).length (g_tr (R.2.2.2.2.map (g_rs nI))).length) (od + 1)) (t_ord S vc tv start) R := by
  have e11 : (t_ord S vc tv start).1 11 = S.1 11 := ord_row (by decide) (by decide) (by decide) (by decide) (by decide)
  refine ⟨?_, ?_⟩
  · unfold Syn
    rw [e11]
    exact h.1
  · rcases h.2 with q | ⟨B, q1, q2, x⟩
    · exact Or.inl (FT_same q (congrFun e11 4) (congrFun e11 5))
    · exact Or.inr ⟨B, q1, (congrFun e11 4).trans q2, LD_ord x hv hG hL⟩
/-- a test leaves all that was told ahead -/
theorem XW_test {k tv : Int32} {Y Z : Prop} (h : XW D E N Ev od k tv Y Z S0 R0 B0) (fs : FrS S0 S) (fb : FrB B0 B) (cd : Cod S R.2.2.2.2 (B.2 16)) (nm : NM D E N S R.2.2.2.1 R.1.1) (hc : ∀ a, (0 : Int32) ≠ a → (5 : Int32) ≠ a → (6 : Int32) ≠ a → cnt R.2.2.2.1 a R.1.1 = cnt R0.2.2.2.1 a R0.1.1) (hG : ∃ X, R.2.2.2.2 = R0.2.2.2.2 ++ X) : XW D E N Ev od k tv Y Z S R B := by
  obtain ⟨o16, ⟨⟨a1, a2⟩, ⟨b1, b2, b3, b4, b5, b6⟩, ⟨r12, r13, r14, r20⟩, ⟨d1, d2⟩, ⟨k1, k2, k3⟩, ⟨o1, o2⟩, -, -⟩, u4, u5, u3, hT, hZ⟩ := h
  obtain ⟨f1, f2, f3, f4, f5, f6⟩ := fs
  obtain ⟨g1, g2⟩ := fb
  unfold XW LX
  rw [hc 1 (by decide) (by decide) (by decide), hc 2 (by decide) (by decide) (by decide), hc 3 (by decide) (by decide) (by decide), g2 10 (by decide), g2 12 (by decide), g2 13 (by decide), g2 14 (by decide), g2 20 (by decide), g2 0 (by decide), g2 1 (by decide), g2 4 (by decide), g2 5 (by decide)]
  refine ⟨o16, ⟨⟨f3.trans a1, f4.trans a2⟩, ⟨b1, b2, b3, b4, b5, b6⟩, ⟨r12, r13, r14, r20⟩, ⟨(f2 0 (by decide)).trans d1, fun d hd => (congrFun (f1 0 (by decide) (by decide) (by decide) (by decide)) d).trans (d2 d hd)⟩, ⟨(f2 1 (by decide)).trans k1, fun q hq => PRT_mono (k2 q hq) (congrFun (f1 1 (by decide) (by decide) (by decide) (by decide)) q) (fun j _ => congrFun (f1 2 (by decide) (by decide) (by decide) (by decide)) _) (fun j _ => congrFun (f1 3 (by decide) (by decide) (by decide) (by decide)) _) (congrFun (g2 1 (by decide)) q) (fun j _ => congrFun (g2 2 (by decide)) _) (fun j _ => congrFun (g2 3 (by decide)) _) (Nat.le_refl _), k3⟩, ⟨(f2 2 (by decide)).trans o1, fun o ho => ORD_mono (o2 o ho) (congrFun (f1 4 (by decide) (by decide) (by decide) (by decide)) o) (congrFun (f1 5 (by decide) (by decide) (by decide) (by decide)) o) (congrFun (f1 6 (by decide) (by decide) (by decide) (by decide)) o) (congrFun (f1 7 (by decide) (by decide) (by decide) (by decide)) o) (congrFun (g2 4 (by decide)) o) (congrFun (g2 5 (by decide)) o) rfl rfl hG (Nat.le_refl _) (Nat.le_refl _)⟩, cd, nm⟩, u4, u5, u3, hT, hZ⟩
/-- behind an order's names: when, and a test, or nothing -/
theorem wh_step (hC : CX D E N) {k tv : Int32} {Y Z : Prop} (h : GS D E (XW D E N Ev od k tv Y Z) S R) (hri : RI (tE E) N R.2.2.2.2 [] R) (hok : r_ok N R) (hd : R.1.2 = 0) (hsl : R.2.2.2.2.length ≤ R.1.1) : ((r_wh (tE E) (r_testN (tE E) 8) R).2 = true → GS D E (XW D E N Ev od k tv Y Z) (t_or3 D (t_testN D 8) S) (r_wh (tE E) (r_testN (tE E) 8) R).1 ∧ (r_wh (tE E) (r_testN (tE E) 8) R).1.2.2.2.2.length ≤ (r_wh (tE E) (r_testN (tE E) 8) R).1.1.1) ∧ (¬ (r_wh (tE E) (r_testN (tE E) 8) R).2 = true → t_bk (t_or3 D (t_testN D 8) S) (D.2.2.2.1 (r_wh (tE E) (r_testN (tE E) 8) R).1.1.1)) := by
  have K := GS_k hC h hri.1 266 10 (by decide)
  unfold t_or3 r_wh
  by_cases c : (tE E).1 R.1.1 = 10
  · have hl := RI_lt hC.1 hri c (by decide)
    have ea : t_acc D S 266 = t_adv D S := if_pos (K.mpr c)
    rw [if_pos c, if_pos (K.mpr c), ea]
    have h1 := gs_adv hC h hl (RI_z hri) (fun B x => XW_adv x (RI_z hri))
    have hri1 := RI_adv hri hl
    have hok1 := (r_ok_adv hC.1 hok c (by decide)).1
    have hj := jr_testN (T := tE E) 8 (r_adv R)
    have run : ∀ B0 : rE, (B0.2 13 = E.2 13 ∧ B0.2 14 = E.2 14 ∧ B0.2 20 = E.2 20) → SIM D E N (t_adv D S) B0 (t_adv D S) (r_adv R) → ((r_testN (tE E) 8 (r_adv R)).2 = true → (r_testN (tE E) 8 (r_adv R)).1.2.2.2.2.length + 0 ≤ (r_testN (tE E) 8 (r_adv R)).1.1.1 ∧ SIM D E N (t_adv D S) B0 (t_testN D 8 (t_adv D S)) (r_testN (tE E) 8 (r_adv R)).1) ∧ (¬ (r_testN (tE E) 8 (r_adv R)).2 = true → t_bk (t_testN D 8 (t_adv D S)) (D.2.2.2.1 (r_testN (tE E) 8 (r_adv R)).1.1.1)) := fun B0 HB hs => (sim_testN hC HB).1 0 R.2.2.2.2 [] _ _ hri1 hok1 hd (by show R.2.2.2.2.length + 0 ≤ R.1.1 + 1; omega) hs
    rcases h1.2 with q | ⟨B, p1, p2, x⟩
    · obtain ⟨y, n⟩ := run E ⟨rfl, rfl, rfl⟩ ⟨h1.1, Or.inl q⟩
      refine ⟨fun z => ?_, n⟩
      obtain ⟨sl, hs⟩ := y z
      refine ⟨⟨hs.1, ?_⟩, sl⟩
      rcases hs.2 with q2 | ⟨B, p1, -⟩
      · exact Or.inl q2
      · exfalso
        obtain ⟨e, j, B9, a1, a2, -, -⟩ := q
        have hb : ¬ (P2 E (r_testN (tE E) 8 (r_adv R)).1.2.2.2.1 (r_adv R).1.1).1 = 0 := by
          rw [P2_loc (g' := (r_adv R).2.2.2.1) (r_adv R).1.1 (fun k hk => hj.2.1 k hk), a2]
          exact a1
        have := P2_bad_le hb ((r_testN (tE E) 8 (r_adv R)).1.1.1 - (r_adv R).1.1)
        rw [show (r_adv R).1.1 + ((r_testN (tE E) 8 (r_adv R)).1.1.1 - (r_adv R).1.1) = (r_testN (tE E) 8 (r_adv R)).1.1.1 by have := hj.1; omega, p1] at this
        exact this rfl
    · obtain ⟨-, xx, -⟩ := id x
      have x6 := x.2.1
      obtain ⟨y, n⟩ := run B ⟨x6.2.2.1.2.1, x6.2.2.1.2.2.1, x6.2.2.1.2.2.2⟩ ⟨h1.1, Or.inr ⟨B, p1, p2, ⟨fun _ _ _ _ _ => rfl, fun _ _ => rfl, rfl, rfl, rfl, rfl⟩, ⟨rfl, fun _ _ => rfl⟩, x6.2.2.2.2.2.2.1, x6.2.2.2.2.2.2.2⟩⟩
      refine ⟨fun z => ?_, n⟩
      obtain ⟨sl, hs⟩ := y z
      have hri3 := RO_testN hC.1 8 R.2.2.2.2 [] _ hri1 z
      obtain ⟨L, hL, -⟩ := hri3.2.2.2.2.2.1
      refine ⟨⟨hs.1, ?_⟩, sl⟩
      rcases hs.2 with q2 | ⟨B3, p1, p2, fs, fb, cd, nm⟩
      · exact Or.inl q2
      · exact Or.inr ⟨B3, p1, p2, XW_test x fs fb cd nm (fun a h0 h5 h6 => jr_cnt hj hri1.2.2.2.1 hri3.1 h0 h5 h6) ⟨L, hL⟩⟩
  · have ea : t_acc D S 266 = S := if_neg (fun q => c (K.mp q))
    rw [if_neg c, if_neg (fun q => c (K.mp q)), ea]
    exact ⟨fun _ => ⟨h, hsl⟩, fun z => absurd rfl z⟩
end XOL
