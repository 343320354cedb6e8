section XDL
variable {D : tK} {E Ev B : rE} {N od dn kn : Nat} {S : tS} {R : rS} {pre : List rI} {ty : List Bool}
/-- a drone more is told, but for its honey in the class -/
theorem LX_dr (hC : CX D E N) (h : LD D E N Ev od S R B) (hs : Syn D S R.1.1) (hl : R.1.1 < N) (h40 : E.2 12 R.1.1 = 40) (h8 : cnt R.2.2.2.1 1 R.1.1 < 8) : cnt (r_adv (r_role R 1)).2.2.2.1 1 (r_adv (r_role R 1)).1.1 = cnt R.2.2.2.1 1 R.1.1 + 1 ∧ LX D E N Ev od (cnt R.2.2.2.1 1 R.1.1) (cnt (r_adv (r_role R 1)).2.2.2.1 2 (r_adv (r_role R 1)).1.1) (t_adv D (t_add0 S)) (r_adv (r_role R 1)) (e_dr B R.1.1 (cnt R.2.2.2.1 1 R.1.1)) ∧ (e_dr B R.1.1 (cnt R.2.2.2.1 1 R.1.1)).2 0 (cnt R.2.2.2.1 1 R.1.1) = (tE E).2 (R.1.1 + 2) := by
  have hnum := LX_num h (R.1.1 + 2)
  obtain ⟨⟨a1, a2⟩, ⟨b1, b2, b3, b4, b5, b6⟩, ⟨r12, r13, r14, r20⟩, ⟨d1, d2⟩, ⟨k1, k2, k3⟩, ⟨o1, o2⟩, ⟨c1, c2⟩, nm⟩ := h
  have hu : ∀ k, k < R.1.1 → upd R.2.2.2.1 R.1.1 1 k = R.2.2.2.1 k := fun k hk => upd_ne (by omega)
  have e1 : cnt (upd R.2.2.2.1 R.1.1 1) 1 (R.1.1 + 1) = cnt R.2.2.2.1 1 R.1.1 + 1 := by rw [cnt_y upd_at, cnt_loc R.1.1 hu]
  have e2 : cnt (upd R.2.2.2.1 R.1.1 1) 2 (R.1.1 + 1) = cnt R.2.2.2.1 2 R.1.1 := by rw [cnt_n (by rw [upd_at]; decide), cnt_loc R.1.1 hu]
  have e3 : cnt (upd R.2.2.2.1 R.1.1 1) 3 (R.1.1 + 1) = cnt R.2.2.2.1 3 R.1.1 := by rw [cnt_n (by rw [upd_at]; decide), cnt_loc R.1.1 hu]
  have hrow : ∀ r, r ≠ 11 → (t_adv D (t_add0 S)).1 r = S.1 r := fun r hr => (t_adv_row hr).trans (add0_row hr)
  generalize hn : cnt R.2.2.2.1 1 R.1.1 = n at *
  refine ⟨e1, ?_, ?_⟩
  · unfold LX
    show ((t_adv D (t_add0 S)).1 11 6 = nI (cnt (upd R.2.2.2.1 R.1.1 1) 1 (R.1.1 + 1)) ∧ (t_adv D (t_add0 S)).1 11 7 = nI (cnt (upd R.2.2.2.1 R.1.1 1) 2 (R.1.1 + 1))) ∧ ((e_dr B R.1.1 n).2 10 0 = nI (cnt (upd R.2.2.2.1 R.1.1 1) 1 (R.1.1 + 1)) ∧ cnt (upd R.2.2.2.1 R.1.1 1) 1 (R.1.1 + 1) ≤ 8 ∧ (e_dr B R.1.1 n).2 10 1 = nI (cnt (upd R.2.2.2.1 R.1.1 1) 2 (R.1.1 + 1)) ∧ cnt (upd R.2.2.2.1 R.1.1 1) 2 (R.1.1 + 1) ≤ 6 ∧ (e_dr B R.1.1 n).2 10 2 = nI (cnt (upd R.2.2.2.1 R.1.1 1) 3 (R.1.1 + 1)) ∧ cnt (upd R.2.2.2.1 R.1.1 1) 3 (R.1.1 + 1) ≤ 16) ∧ _ ∧ _ ∧ ((t_adv D (t_add0 S)).1 10 1 = nI (cnt (upd R.2.2.2.1 R.1.1 1) 2 (R.1.1 + 1)) ∧ (∀ k, k < cnt (upd R.2.2.2.1 R.1.1 1) 2 (R.1.1 + 1) → PRT (t_adv D (t_add0 S)) (e_dr B R.1.1 n) (cnt (upd R.2.2.2.1 R.1.1 1) 1 (R.1.1 + 1)) k) ∧ ∀ k, cnt (upd R.2.2.2.1 R.1.1 1) 2 (R.1.1 + 1) ≤ k → k < 6 → (e_dr B R.1.1 n).2 1 k = nI 0) ∧ ((t_adv D (t_add0 S)).1 10 2 = nI od ∧ ∀ o, o < od → ORD (t_adv D (t_add0 S)) Ev R.2.2.2.2 (e_dr B R.1.1 n) (cnt (upd R.2.2.2.1 R.1.1 1) 1 (R.1.1 + 1)) (cnt (upd R.2.2.2.1 R.1.1 1) 2 (R.1.1 + 1)) o) ∧ _ ∧ NM D E N (t_adv D (t_add0 S)) (upd R.2.2.2.1 R.1.1 1) (R.1.1 + 1)
    rw [e1, e2, e3]
    refine ⟨⟨?_, ?_⟩, ⟨?_, by omega, (e_dr_10 (by decide)).trans b3, b4, (e_dr_10 (by decide)).trans b5, b6⟩, ⟨(e_dr_row (by decide) (by decide)).trans r12, (e_dr_row (by decide) (by decide)).trans r13, (e_dr_row (by decide) (by decide)).trans r14, (e_dr_row (by decide) (by decide)).trans r20⟩, ⟨(congrFun (hrow 10 (by decide)) 0).trans d1, fun d hd => ?_⟩, ⟨(congrFun (hrow 10 (by decide)) 1).trans k1, fun k hk => PRT_mono (k2 k hk) (congrFun (hrow 1 (by decide)) k) (fun j _ => congrFun (hrow 2 (by decide)) _) (fun j _ => congrFun (hrow 3 (by decide)) _) (congrFun (e_dr_row (by decide) (by decide)) k) (fun j _ => congrFun (e_dr_row (by decide) (by decide)) _) (fun j _ => congrFun (e_dr_row (by decide) (by decide)) _) (Nat.le_succ _), fun k p q => (congrFun (e_dr_row (by decide) (by decide)) k).trans (k3 k p q)⟩, ⟨(congrFun (hrow 10 (by decide)) 2).trans o1, fun o ho => ORD_mono (o2 o ho) (congrFun (hrow 4 (by decide)) o) (congrFun (hrow 5 (by decide)) o) (congrFun (hrow 6 (by decide)) o) (congrFun (hrow 7 (by decide)) o) (congrFun (e_dr_row (by decide) (by decide)) o) (congrFun (e_dr_row (by decide) (by decide)) o) rfl rfl ⟨[], (List.append_nil _).symm⟩ (Nat.le_succ _) (Nat.le_refl _)⟩, ⟨(congrFun (hrow 10 (by decide)) 3).trans c1, fun i p hp => ?_⟩, ?_⟩
    · rw [t_adv_11 (by decide) (by decide) (by decide)]
      show h_u S.1 11 6 (n_ac 8 (S.1 11 6)) 11 6 = _
      rw [h_u_eq, a1, n_ac_nI (by decide) h8]
    · rw [t_adv_11 (by decide) (by decide) (by decide), add0_11 (by decide)]
      exact a2
    · show h_u (h_u B.2 0 n ((tE B).2 (R.1.1 + 2))) 10 0 (nI (n + 1)) 10 0 = _
      rw [h_u_eq]
    · rw [hrow 0 (by decide), d2 d hd]
      show _ = h_u (h_u B.2 0 n ((tE B).2 (R.1.1 + 2))) 10 0 (nI (n + 1)) 0 d
      rw [h_u_row (by decide), h_u_ne (by omega)]
    · rw [hrow 8 (by decide), hrow 9 (by decide)]
      have e16 : (e_dr B R.1.1 n).2 16 = B.2 16 := e_dr_row (by decide) (by decide)
      rw [e16] at hp
      exact c2 i p hp
    · exact NM_add0 hC nm hs hl h40 (by rw [hn]; exact a1) (by rw [hn]; exact h8)
  · show h_u (h_u B.2 0 n ((tE B).2 (R.1.1 + 2))) 10 0 (nI (n + 1)) 0 n = _
    rw [h_u_row (by decide), h_u_eq]
    exact hnum
theorem LX_role {Z : tS} {a : Int32} (h : LX D E N Ev od dn kn S R B) (hrow : ∀ r, r ≠ 11 → Z.1 r = S.1 r) (e6 : Z.1 11 6 = S.1 11 6) (e7 : Z.1 11 7 = S.1 11 7) (e1 : Z.2.1 = S.2.1) (e2 : Z.2.2.1 = S.2.2.1) (n1 : a ≠ 1) (n2 : a ≠ 2) (n3 : a ≠ 3) : LX D E N Ev od dn kn (t_adv D Z) (r_adv (r_role R a)) B :=
  LX_step h (fun r hr => (t_adv_row hr).trans (hrow r hr)) ((t_adv_11 (by decide) (by decide) (by decide)).trans e6) ((t_adv_11 (by decide) (by decide) (by decide)).trans e7) e1 e2 (g' := upd R.2.2.2.1 R.1.1 a) (fun k hk => (upd_ne (by omega)).symm) (by rw [upd_at]; exact n1) (by rw [upd_at]; exact n2) (by rw [upd_at]; exact n3) (d := (R.1.1 + 1, R.1.2)) rfl
theorem cnt_role {a b : Int32} (h : a ≠ b) : cnt (r_adv (r_role R a)).2.2.2.1 b (r_adv (r_role R a)).1.1 = cnt R.2.2.2.1 b R.1.1 := by
  show cnt (upd R.2.2.2.1 R.1.1 a) b (R.1.1 + 1) = _
  rw [cnt_n (by rw [upd_at]; exact h), cnt_loc R.1.1 (fun k hk => upd_ne (by omega))]
theorem dr2_Syn {t : Nat} (h : Syn D S t) : Syn D (t_dr2 S) t := by
  unfold t_dr2
  by_cases c : S.2.2.2.toInt32 ≤ 60
  · rw [if_pos c]; exact h
  · rw [if_neg c]; exact bl_Syn h
theorem dr3_11 {x : Int32} : (t_dr3 S x).1 11 = S.1 11 := by
  show h_u (q_r S.1 0 (rs 8 (S.1 0) (S.1 11 6 - 1) x)) 10 0 (S.1 11 6) 11 = _
  rw [h_u_row (by decide)]
  rfl
theorem dr3_row {x : Int32} {r : Nat} (h0 : r ≠ 0) (h10 : r ≠ 10) : (t_dr3 S x).1 r = S.1 r := by
  show h_u (q_r S.1 0 (rs 8 (S.1 0) (S.1 11 6 - 1) x)) 10 0 (S.1 11 6) r = _
  rw [h_u_row h10]
  exact if_neg h0
theorem dr3_10 {x : Int32} {j : Nat} (h : j ≠ 0) : (t_dr3 S x).1 10 j = S.1 10 j := by
  show h_u (q_r S.1 0 (rs 8 (S.1 0) (S.1 11 6 - 1) x)) 10 0 (S.1 11 6) 10 j = _
  rw [h_u_ne h]
  rfl
/-- the drone's honey is set -/
theorem LX_dr3 {n : Nat} {x : Int32} (hc : cnt R.2.2.2.1 1 R.1.1 = n + 1) (h : LX D E N Ev od n kn S R B) (hx : B.2 0 n = x) : LX D E N Ev od (n + 1) kn (t_dr3 S x) R B := by
  obtain ⟨⟨a1, a2⟩, ⟨b1, b2, b3, b4, b5, b6⟩, hr, ⟨d1, d2⟩, ⟨k1, k2, k3⟩, ⟨o1, o2⟩, ⟨c1, c2⟩, nm⟩ := h
  have e0 : (t_dr3 S x).1 0 = upd (S.1 0) n x := by
    show h_u (q_r S.1 0 (rs 8 (S.1 0) (S.1 11 6 - 1) x)) 10 0 (S.1 11 6) 0 = _
    rw [h_u_row (by decide)]
    show rs 8 (S.1 0) (S.1 11 6 - 1) x = _
    rw [a1, hc]
    have e : nI (n + 1) - 1 = nI n := by
      show nI (n + 1) - nI 1 = nI n
      rw [nI_sb (by omega)]
      rfl
    rw [e, rs_nI (by omega) (by decide)]
  have e10 : (t_dr3 S x).1 10 0 = nI (n + 1) := by
    show h_u (q_r S.1 0 (rs 8 (S.1 0) (S.1 11 6 - 1) x)) 10 0 (S.1 11 6) 10 0 = _
    rw [h_u_eq, a1, hc]
  unfold LX
  rw [dr3_11]
  refine ⟨⟨a1, a2⟩, ⟨b1, b2, b3, b4, b5, b6⟩, hr, ⟨e10, fun d hd => ?_⟩, ⟨(dr3_10 (by decide)).trans k1, fun k hk => PRT_mono (k2 k hk) (congrFun (dr3_row (by decide) (by decide)) k) (fun j _ => congrFun (dr3_row (by decide) (by decide)) _) (fun j _ => congrFun (dr3_row (by decide) (by decide)) _) rfl (fun _ _ => rfl) (fun _ _ => rfl) (Nat.le_refl _), k3⟩, ⟨(dr3_10 (by decide)).trans o1, fun o ho => ORD_mono (o2 o ho) (congrFun (dr3_row (by decide) (by decide)) o) (congrFun (dr3_row (by decide) (by decide)) o) (congrFun (dr3_row (by decide) (by decide)) o) (congrFun (dr3_row (by decide) (by decide)) o) rfl rfl rfl rfl ⟨[], (List.append_nil _).symm⟩ (Nat.le_refl _) (Nat.le_refl _)⟩, ⟨(dr3_10 (by decide)).trans c1, fun i p hp => ?_⟩, NM_same nm (congrFun dr3_11 6) (congrFun dr3_11 7) rfl rfl⟩
  · rw [e0]
    by_cases c : d = n
    · rw [c, upd_at, hx]
    · rw [upd_ne c]
      exact d2 d (by omega)
  · rw [dr3_row (by decide) (by decide), dr3_row (by decide) (by decide)]
    exact c2 i p hp
theorem dr3_Syn {x : Int32} {t : Nat} (h : Syn D S t) : Syn D (t_dr3 S x) t := by
  unfold Syn
  rw [dr3_11]
  exact h
/-- a drone's line, behind its first word -/
theorem ln_drone (hC : CX D E N) (hri : RI (tE E) N pre ty R) (h : GS D E (LD D E N Ev od) S R) : ((r_dr (tE E) R).2 = true → GS D E (LD D E N Ev od) (t_drone D S) (r_dr (tE E) R).1) ∧ (¬ (r_dr (tE E) R).2 = true → t_bk (t_drone D S) (D.2.2.2.1 (r_dr (tE E) R).1.1.1)) := by
  unfold t_drone t_dr1 r_dr
  by_cases c1 : (tE E).1 R.1.1 = 40
  · have hl := RI_lt hC.1 hri c1 (by decide)
    obtain ⟨-, h1⟩ := new0_role (X := fun S R B => ∃ n, cnt R.2.2.2.1 1 R.1.1 = n + 1 ∧ LX D E N Ev od n (cnt R.2.2.2.1 2 R.1.1) S R B ∧ B.2 0 n = (tE E).2 (R.1.1 + 1)) hC h hl c1 (fun B x h8 _ _ _ _ hs => by
      obtain ⟨p, q, r⟩ := LX_dr hC x hs hl c1 h8
      exact ⟨_, p, q, r⟩)
    rw [if_pos c1]
    by_cases c2 : (tE E).1 (R.1.1 + 1) = 1
    · have hl1 : R.1.1 + 1 < N := r_ltn hC.1 hl c2 (by decide)
      have z1 : (r_adv (r_role R 1)).2.2.2.1 (r_adv (r_role R 1)).1.1 = 0 := (upd_ne (show R.1.1 + 1 ≠ R.1.1 by omega)).trans (hri.2.2.2.1 _ (by omega) (by omega))
      have e1 : t_exp D (t_new0 D S) 257 = t_adv D (t_new0 D S) := gs_exy (R := r_adv (r_role R 1)) hC h1.1 (Nat.le_of_lt hl1) 257 1 (by decide) c2
      have h2 := gs_adv (X' := fun S R B => ∃ n, cnt R.2.2.2.1 1 R.1.1 = n + 1 ∧ LX D E N Ev od n (cnt R.2.2.2.1 2 R.1.1) S R B ∧ B.2 0 n = (tE E).2 R.1.1) hC h1 hl1 z1 (fun B ⟨n, p, q, r⟩ => by
        have q2 := LX_adv q z1
        refine ⟨n, ?_, ?_, r⟩
        · exact (cnt_n (show (r_adv (r_role R 1)).2.2.2.1 (r_adv (r_role R 1)).1.1 ≠ 1 by rw [z1]; decide)).trans p
        · have e : cnt (r_adv (r_adv (r_role R 1))).2.2.2.1 2 (r_adv (r_adv (r_role R 1))).1.1 = cnt (r_adv (r_role R 1)).2.2.2.1 2 (r_adv (r_role R 1)).1.1 := cnt_n (show (r_adv (r_role R 1)).2.2.2.1 (r_adv (r_role R 1)).1.1 ≠ 2 by rw [z1]; decide)
          rw [e]
          exact q2)
      rw [e1, if_pos c2]
      generalize hA : t_adv D (t_new0 D S) = A at *
      generalize hR2 : r_adv (r_adv (r_role R 1)) = R2 at *
      have t2 : R2.1.1 = R.1.1 + 2 := by rw [← hR2]; rfl
      have ro2 : R2.2.2.2.1 = upd R.2.2.2.1 R.1.1 1 := by rw [← hR2]; rfl
      have hz := dr2_Syn h2.1
      by_cases c3 : (tE E).1 (R.1.1 + 2) = 41
      · have hl2 : R2.1.1 < N := by rw [t2]; exact r_ltn hC.1 (by omega) c3 (by decide)
        have k3 : (tE E).1 R2.1.1 = 41 := by rw [t2]; exact c3
        have e2 : t_exp D (t_dr2 A) 3 = t_adv D (t_dr2 A) := gs_exy hC hz (Nat.le_of_lt hl2) 3 41 (by decide) k3
        have hv : A.2.2.2.toInt32 = (tE E).2 R2.1.1 := Syn_num hC h2.1 hl2 k3
        have h3 := gs_role (X' := fun S R B => ∃ n, cnt R.2.2.2.1 1 R.1.1 = n + 1 ∧ LX D E N Ev od n (cnt R.2.2.2.1 2 R.1.1) S R B ∧ B.2 0 n = A.2.2.2.toInt32) (a := 8) hC h2 hl2 hz (fun q => by
            have e : t_dr2 A = A := by
              unfold t_dr2
              rw [t_blame_no q]
              by_cases c : A.2.2.2.toInt32 ≤ 60
              · rw [if_pos c]
              · rw [if_neg c]
            rw [e]; exact ⟨rfl, rfl⟩) (fun B p b ⟨n, x1, x2, x3⟩ => by
            have ea := e_at8 (E := B) (R := rf (upd R2.2.2.2.1 R2.1.1 8)) (i := R2.1.1) upd_at
            have hnn : ¬ (tE E).2 R2.1.1 < 0 := by
              obtain ⟨-, -, -, dd⟩ := hC.2 R2.1.1 (Nat.le_of_lt hl2)
              obtain ⟨p, m, a, b, e, v⟩ := dd (hC.1.2.1 _ hl2)
              show ¬ r_num E R2.1.1 < 0
              unfold r_num
              rw [a, b, nI_clamp (by omega), nI_clamp (by omega)]
              exact (v.1 k3).2
            have hr : r_rng B R2.1.1 0 60 = if A.2.2.2.toInt32 ≤ 60 then 0 else 5 := by
              unfold r_rng
              rw [LX_num x2, ← hv]
              rw [← hv] at hnn
              by_cases c : A.2.2.2.toInt32 ≤ 60
              · rw [if_pos c, decide_eq_false hnn, decide_eq_false (Int32.not_lt.mpr c)]
                rfl
              · rw [if_neg c, decide_eq_true (Int32.not_le.mp c), Bool.not_true, Bool.and_false]
                rfl
            rw [ea, hr]
            unfold t_dr2
            by_cases c : A.2.2.2.toInt32 ≤ 60
            · rw [if_pos c, if_pos c]
              refine Or.inl ⟨rfl, b, ?_⟩
              show ∃ n, cnt (r_adv (r_role R2 8)).2.2.2.1 1 (r_adv (r_role R2 8)).1.1 = n + 1 ∧ LX D E N Ev od n (cnt (r_adv (r_role R2 8)).2.2.2.1 2 (r_adv (r_role R2 8)).1.1) (t_adv D A) (r_adv (r_role R2 8)) B ∧ B.2 0 n = A.2.2.2.toInt32
              rw [cnt_role (by decide), cnt_role (by decide)]
              exact ⟨n, x1, LX_role x2 (fun _ _ => rfl) rfl rfl rfl rfl (by decide) (by decide) (by decide), x3.trans hv.symm⟩
            · rw [if_neg c, if_neg c]
              obtain ⟨y1, y2⟩ := t_blame_yes (S := A) (e := 5) b
              exact Or.inr ⟨show ¬ (5 : Int32) = 0 by decide, y1, y2⟩)
        rw [e2, decide_eq_true c3, r_eatAs_p k3]
        refine ⟨fun _ => ?_, fun z => absurd rfl z⟩
        refine ⟨dr3_Syn h3.1, ?_⟩
        rcases h3.2 with q | ⟨B, q1, q2, n, x1, x2, x3⟩
        · exact Or.inl (FT_same q (congrFun dr3_11 4) (congrFun dr3_11 5))
        · refine Or.inr ⟨B, q1, (congrFun dr3_11 4).trans q2, ?_⟩
          unfold LD
          rw [x1]
          exact LX_dr3 x1 x2 x3
      · have k3 : ¬ (tE E).1 R2.1.1 = 41 := by rw [t2]; exact c3
        rw [decide_eq_false c3, r_eatAs_n k3]
        refine ⟨fun z => absurd z Bool.false_ne_true, fun _ => kb_cnt (kb_row (by decide) ?_)⟩
        exact gs_exn hC hz (by rw [t2]; omega) 3 41 (by decide) k3
    · rw [if_neg c2]
      refine ⟨fun z => absurd z Bool.false_ne_true, fun _ => kb_cnt (kb_row (by decide) (kb_exp _ _ (kb_dr2 _ _ ?_)))⟩
      exact gs_exn hC h1.1 (show R.1.1 + 1 ≤ N from hl) 257 1 (by decide) c2
  · rw [if_neg c1]
    refine ⟨fun z => absurd z Bool.false_ne_true, fun _ => kb_cnt (kb_row (by decide) (kb_exp _ _ (kb_dr2 _ _ (kb_exp _ _ ?_))))⟩
    exact gs_exn hC (add0_Syn (full0_Syn (old_Syn h.1))) hri.1 2 40 (by decide) c1
end XDL
