section XOR
variable {D : tK} {E Ev B B0 : rE} {N od : Nat} {S S0 : tS} {R : rS} {pre : List rI} {ty : List Bool}
/-- in an order's line: k its verb, tv what it names -/
def XW (D : tK) (E : rE) (N : Nat) (Ev : rE) (od : Nat) (k tv : Int32) (Y Z : Prop) (S : tS) (R : rS) (B : rE) : Prop := od < 16 ∧ LX D E N Ev od (cnt R.2.2.2.1 1 R.1.1) (cnt R.2.2.2.1 2 R.1.1) S R B ∧ B.2 4 od = k ∧ B.2 5 od = tv ∧ cnt R.2.2.2.1 3 R.1.1 = od + 1 ∧ (∃ tg, tv = nI tg ∧ ((k = 6 ∧ tg < cnt R.2.2.2.1 2 R.1.1) ∨ ((k = 7 ∨ k = 8) ∧ (tg < cnt R.2.2.2.1 1 R.1.1 ∨ tg = 8)) ∨ (tg = 8 ∧ Y))) ∧ Z
theorem or1_Syn {t : Nat} (h : Syn D S t) : Syn D (t_or1 S) t := by
  unfold t_or1
  by_cases c : S.1 10 2 < 16
  · rw [if_pos c]; exact h
  · rw [if_neg c]; exact bl_Syn h
/-- an order's verb -/
theorem or_role (hC : CX D E N) {k : Int32} (h : GS D E (LD D E N Ev od) S R) (hod : od = cnt R.2.2.2.1 3 R.1.1) (hl : R.1.1 < N) (hk : (tE E).1 R.1.1 = k) : GS D E (XW D E N Ev od k 8 True True) (t_adv D (t_or1 S)) (r_adv (r_role R 3)) := by
  refine gs_role hC h hl (or1_Syn h.1) (fun q => ?_) (fun B pp b x => ?_)
  · have e : t_or1 S = S := by
      unfold t_or1
      rw [t_blame_no q]
      by_cases c : S.1 10 2 < 16
      · rw [if_pos c]
      · rw [if_neg c]
    rw [e]
    exact ⟨rfl, rfl⟩
  · obtain ⟨⟨a1, a2⟩, ⟨b1, b2, b3, b4, b5, b6⟩, ⟨r12, r13, r14, r20⟩, ⟨d1, d2⟩, ⟨k1, k2, k3⟩, ⟨o1, o2⟩, ⟨c1, c2⟩, nm⟩ := x
    have hle : od ≤ 16 := by omega
    have ea := e_at3 (E := B) (R := rf (upd R.2.2.2.1 R.1.1 3)) (i := R.1.1) upd_at
    have hn : e_n B 2 = od := e_nE (by rw [hod]; exact b5) (by omega)
    rw [hn] at ea
    rw [ea]
    by_cases c : od = 16
    · have e1 : t_or1 S = t_blame S 4 := by
        unfold t_or1
        rw [o1, c]
        exact if_neg (by decide)
      obtain ⟨y1, y2⟩ := t_blame_yes (S := S) (e := 4) b
      rw [if_pos c, e1]
      exact Or.inr ⟨show ¬ (4 : Int32) = 0 by decide, y1, y2⟩
    · have e1 : t_or1 S = S := by
        unfold t_or1
        rw [o1]
        exact if_pos (nI_lt (show od < 16 by omega) (by decide))
      rw [if_neg c, if_neg c, e1]
      refine Or.inl ⟨rfl, b, ?_⟩
      show XW D E N Ev od k 8 True True (t_adv D S) (r_adv (r_role R 3)) (e_or B R.1.1 od)
      have hu : ∀ j, j < R.1.1 → upd R.2.2.2.1 R.1.1 3 j = R.2.2.2.1 j := fun j hj => upd_ne (by omega)
      have e3 : cnt (r_adv (r_role R 3)).2.2.2.1 3 (r_adv (r_role R 3)).1.1 = od + 1 := by
        show cnt (upd R.2.2.2.1 R.1.1 3) 3 (R.1.1 + 1) = _
        rw [cnt_y upd_at, cnt_loc R.1.1 hu, hod]
      have hor : ∀ o, o ≠ od → (e_or B R.1.1 od).2 4 o = B.2 4 o ∧ (e_or B R.1.1 od).2 5 o = B.2 5 o := fun o ho => by
        refine ⟨?_, ?_⟩
        · show h_u (h_u (h_u B.2 4 od (B.2 12 R.1.1)) 5 od 8) 10 2 (nI (od + 1)) 4 o = _
          rw [h_u_row (by decide), h_u_row (by decide), h_u_ne ho]
        · show h_u (h_u (h_u B.2 4 od (B.2 12 R.1.1)) 5 od 8) 10 2 (nI (od + 1)) 5 o = _
          rw [h_u_row (by decide), h_u_ne ho, h_u_row (by decide)]
      have hrow : ∀ r, r ≠ 11 → (t_adv D S).1 r = S.1 r := fun r hr => t_adv_row hr
      have hd1 : (r_adv (r_role R 3)).2.2.2.2 = R.2.2.2.2 := rfl
      unfold XW LX
      rw [cnt_role (by decide), cnt_role (by decide), e3, hd1]
      refine ⟨by omega, ⟨⟨(t_adv_11 (by decide) (by decide) (by decide)).trans a1, (t_adv_11 (by decide) (by decide) (by decide)).trans a2⟩, ⟨(e_or_10 (by decide)).trans b1, b2, (e_or_10 (by decide)).trans b3, b4, ?_, by omega⟩, ⟨(e_or_row (by decide) (by decide) (by decide)).trans r12, (e_or_row (by decide) (by decide) (by decide)).trans r13, (e_or_row (by decide) (by decide) (by decide)).trans r14, (e_or_row (by decide) (by decide) (by decide)).trans r20⟩, ⟨(congrFun (hrow 10 (by decide)) 0).trans d1, fun d hd => ?_⟩, ⟨(congrFun (hrow 10 (by decide)) 1).trans k1, fun k hk => PRT_mono (k2 k hk) (congrFun (hrow 1 (by decide)) k) (fun j _ => congrFun (hrow 2 (by decide)) _) (fun j _ => congrFun (hrow 3 (by decide)) _) (congrFun (e_or_row (by decide) (by decide) (by decide)) k) (fun j _ => congrFun (e_or_row (by decide) (by decide) (by decide)) _) (fun j _ => congrFun (e_or_row (by decide) (by decide) (by decide)) _) (Nat.le_refl _), fun k p q => (congrFun (e_or_row (by decide) (by decide) (by decide)) k).trans (k3 k p q)⟩, ⟨(congrFun (hrow 10 (by decide)) 2).trans o1, fun o ho => ORD_mono (o2 o ho) (congrFun (hrow 4 (by decide)) o) (congrFun (hrow 5 (by decide)) o) (congrFun (hrow 6 (by decide)) o) (congrFun (hrow 7 (by decide)) o) (hor o (by omega)).1 (hor o (by omega)).2 rfl rfl ⟨[], (List.append_nil _).symm⟩ (Nat.le_refl _) (Nat.le_refl _)⟩, ⟨(congrFun (hrow 10 (by decide)) 3).trans c1, fun i p hp => ?_⟩, ?_⟩, ?_, ?_, rfl, ⟨8, rfl, Or.inr (Or.inr ⟨rfl, trivial⟩)⟩, trivial⟩
      · show h_u (h_u (h_u B.2 4 od (B.2 12 R.1.1)) 5 od 8) 10 2 (nI (od + 1)) 10 2 = _
        rw [h_u_eq]
      · rw [hrow 0 (by decide), d2 d hd, e_or_row (by decide) (by decide) (by decide)]
      · rw [hrow 8 (by decide), hrow 9 (by decide)]
        have e16 : (e_or B R.1.1 od).2 16 = B.2 16 := e_or_row (by decide) (by decide) (by decide)
        rw [e16] at hp
        exact c2 i p hp
      · exact NM_skip nm (fun k hk => (hu k hk).symm) (by show upd R.2.2.2.1 R.1.1 3 R.1.1 ≠ 1; rw [upd_at]; decide) (by show upd R.2.2.2.1 R.1.1 3 R.1.1 ≠ 2; rw [upd_at]; decide) (t_adv_11 (by decide) (by decide) (by decide)) (t_adv_11 (by decide) (by decide) (by decide)) rfl rfl
      · show h_u (h_u (h_u B.2 4 od (B.2 12 R.1.1)) 5 od 8) 10 2 (nI (od + 1)) 4 od = _
        rw [h_u_row (by decide), h_u_row (by decide), h_u_eq, r12]
        exact hk
      · show h_u (h_u (h_u B.2 4 od (B.2 12 R.1.1)) 5 od 8) 10 2 (nI (od + 1)) 5 od = _
        rw [h_u_row (by decide), h_u_eq]
theorem XW_adv {k tv : Int32} {Y Z : Prop} (h : XW D E N Ev od k tv Y Z S R B) (h0 : R.2.2.2.1 R.1.1 = 0) : XW D E N Ev od k tv Y Z (t_adv D S) (r_adv R) B := by
  obtain ⟨a, b, c, d, e, f, g⟩ := h
  unfold XW
  rw [cnt_adv h0 (by decide), cnt_adv h0 (by decide), cnt_adv h0 (by decide)]
  exact ⟨a, LX_adv b h0, c, d, e, f, g⟩
/-- the name that an order names -/
theorem of0_role (hC : CX D E N) (hri : RI (tE E) N pre ty R) {k : Int32} {Y Z : Prop} (h : GS D E (XW D E N Ev od k 8 Y Z) S R) (hl : R.1.1 < N) (h40 : (tE E).1 R.1.1 = 40) (h1 : 1 ≤ R.1.1) (hk : (tE E).1 (R.1.1 - 1) = k) (hkk : k = 7 ∨ k = 8) : t_known0 D S = t_adv D (t_lk0 S) ∧ GS D E (XW D E N Ev od k (t_fd0 S) False Z) (t_known0 D S) (r_adv (r_role R 7)) := by
  have hz : Syn D (t_lk0 S) R.1.1 := lk0_Syn h.1
  have eK : t_known0 D S = t_adv D (t_lk0 S) := gs_exy hC hz (Nat.le_of_lt hl) 2 40 (by decide) h40
  rw [eK]
  refine ⟨rfl, gs_role hC h hl hz (fun q => ?_) (fun B pp b x => ?_)⟩
  · have e : t_lk0 S = S := by
      unfold t_lk0
      rw [t_blame_no q]
      by_cases c : t_fd0 S = -1
      · rw [if_pos c]
      · rw [if_neg c]
    rw [e]
    exact ⟨rfl, rfl⟩
  · obtain ⟨o16, x5, u4, u5, u3, -, hZ⟩ := x
    obtain ⟨t1, t2, t3, t4⟩ := LX_fd (a := 7) x5 h.1 hl h40
    have ea := e_at7 (E := B) (R := rf (upd R.2.2.2.1 R.1.1 7)) (i := R.1.1) upd_at
    have hn : e_n B 2 = od + 1 := e_nE (by rw [← u3]; exact x5.2.1.2.2.2.2.1) (by omega)
    have h7 : e_a7 B R.1.1 = 1 := by
      unfold e_a7
      rw [x5.2.2.1.1, show E.2 12 (R.1.1 - 1) = k from hk]
      rcases hkk with e | e <;> rw [e] <;> rfl
    rw [hn, h7] at ea
    rw [ea]
    have tx := t1
    have tf := t3
    by_cases c0 : t_fd0 S = -1
    · have e1 : t_lk0 S = t_blame S 3 := if_pos c0
      obtain ⟨y1, y2⟩ := t_blame_yes (S := S) (e := 3) b
      have hr : r_lk B (rf (upd R.2.2.2.1 R.1.1 7)) R.1.1 1 = 3 := by unfold r_lk; rw [tx, if_pos c0]
      rw [e1, hr]
      exact Or.inr ⟨show ¬ (3 : Int32) = 0 by decide, y1, y2⟩
    have e1 : t_lk0 S = S := if_neg c0
    have hr : r_lk B (rf (upd R.2.2.2.1 R.1.1 7)) R.1.1 1 = 0 := by unfold r_lk; rw [tx, if_neg c0]
    rw [e1, hr]
    refine Or.inl ⟨rfl, b, ?_⟩
    obtain ⟨d, hd1, hd2⟩ := r_tdl_lt0 (E := E) (g := R.2.2.2.1) (i := R.1.1) (t := R.1.1) (a := 1) (by rw [← tf]; exact c0)
    generalize hB2 : e_of B (rf (upd R.2.2.2.1 R.1.1 7)) R.1.1 (od + 1) 1 = B2
    have eB : B2.2 = h_u (m_E B R.1.1 (t_fd0 S)).2 5 od (t_fd0 S) := by
      rw [← hB2]
      show h_u (m_E B R.1.1 (r_tld B (rf (upd R.2.2.2.1 R.1.1 7)) R.1.1 1)).2 5 (od + 1 - 1) (r_tld B (rf (upd R.2.2.2.1 R.1.1 7)) R.1.1 1) = _
      rw [tx]
      rfl
    have br : ∀ q, q ≠ 16 → q ≠ 5 → B2.2 q = B.2 q := fun q a b => by rw [eB, h_u_row b, m_E_row a]
    have b5 : ∀ o, o ≠ od → B2.2 5 o = B.2 5 o := fun o ho => by rw [eB, h_u_ne ho, m_E_row (by decide)]
    have b5' : B2.2 5 od = t_fd0 S := by rw [eB, h_u_eq]
    have b16 : ∀ j, j < R.1.1 → B2.2 16 j = B.2 16 j := fun j hj => by
      rw [eB, h_u_row (by decide)]
      show h_u B.2 16 R.1.1 (t_fd0 S) 16 j = _
      rw [h_u_ne (by omega)]
    have hx9 : LX D E N Ev od (cnt R.2.2.2.1 1 R.1.1) (cnt R.2.2.2.1 2 R.1.1) S R B2 := by
      obtain ⟨⟨a1, a2⟩, ⟨b1, b2, b3, b4, b50, b6⟩, ⟨r12, r13, r14, r20⟩, ⟨d1, d2⟩, ⟨k1, k2, k3⟩, ⟨o1, o2⟩, ⟨c1, c2⟩, nm⟩ := x5
      unfold LX
      rw [br 10 (by decide) (by decide), br 12 (by decide) (by decide), br 13 (by decide) (by decide), br 14 (by decide) (by decide), br 20 (by decide) (by decide), br 0 (by decide) (by decide), br 1 (by decide) (by decide)]
      refine ⟨⟨a1, a2⟩, ⟨b1, b2, b3, b4, b50, b6⟩, ⟨r12, r13, r14, r20⟩, ⟨d1, d2⟩, ⟨k1, fun q hq => PRT_mono (k2 q hq) rfl (fun _ _ => rfl) (fun _ _ => rfl) (congrFun (br 1 (by decide) (by decide)) q) (fun j _ => congrFun (br 2 (by decide) (by decide)) _) (fun j _ => congrFun (br 3 (by decide) (by decide)) _) (Nat.le_refl _), k3⟩, ⟨o1, fun o ho => ORD_mono (o2 o ho) rfl rfl rfl rfl (congrFun (br 4 (by decide) (by decide)) o) (b5 o (by omega)) rfl rfl ⟨[], (List.append_nil _).symm⟩ (Nat.le_refl _) (Nat.le_refl _)⟩, ⟨c1, ?_⟩, nm⟩
      rw [g_rs_keep hri.2.2.2.2.2.2 b16]
      exact c2
    have hx8 := LX_role (Z := S) (a := 7) hx9 (fun _ _ => rfl) rfl rfl rfl rfl (by decide) (by decide) (by decide)
    show XW D E N Ev od k (t_fd0 S) False Z (t_adv D S) (r_adv (r_role R 7)) B2
    unfold XW
    rw [cnt_role (by decide), cnt_role (by decide), cnt_role (by decide)]
    exact ⟨o16, hx8, (congrFun (br 4 (by decide) (by decide)) od).trans u4, b5', u3, ⟨d, tf.trans hd2, Or.inr (Or.inl ⟨hkk, Or.inl hd1⟩)⟩, hZ⟩
/-- the name that an order names -/
theorem of1_role (hC : CX D E N) (hri : RI (tE E) N pre ty R) {k : Int32} {Y Z : Prop} (h : GS D E (XW D E N Ev od k 8 Y Z) S R) (hl : R.1.1 < N) (h40 : (tE E).1 R.1.1 = 40) (h1 : 1 ≤ R.1.1) (hk : (tE E).1 (R.1.1 - 1) = k) (hkk : k = 6) : t_known1 D S = t_adv D (t_lk1 S) ∧ GS D E (XW D E N Ev od k (t_fd1 S) False Z) (t_known1 D S) (r_adv (r_role R 7)) := by
  have hz : Syn D (t_lk1 S) R.1.1 := lk1_Syn h.1
  have eK : t_known1 D S = t_adv D (t_lk1 S) := gs_exy hC hz (Nat.le_of_lt hl) 2 40 (by decide) h40
  rw [eK]
  refine ⟨rfl, gs_role hC h hl hz (fun q => ?_) (fun B pp b x => ?_)⟩
  · have e : t_lk1 S = S := by
      unfold t_lk1
      rw [t_blame_no q]
      by_cases c : t_fd1 S = -1
      · rw [if_pos c]
      · rw [if_neg c]
    rw [e]
    exact ⟨rfl, rfl⟩
  · obtain ⟨o16, x5, u4, u5, u3, -, hZ⟩ := x
    obtain ⟨t1, t2, t3, t4⟩ := LX_fd (a := 7) x5 h.1 hl h40
    have ea := e_at7 (E := B) (R := rf (upd R.2.2.2.1 R.1.1 7)) (i := R.1.1) upd_at
    have hn : e_n B 2 = od + 1 := e_nE (by rw [← u3]; exact x5.2.1.2.2.2.2.1) (by omega)
    have h7 : e_a7 B R.1.1 = 2 := by
      unfold e_a7
      rw [x5.2.2.1.1, show E.2 12 (R.1.1 - 1) = k from hk]
      rw [hkk]; rfl
    rw [hn, h7] at ea
    rw [ea]
    have tx := t2
    have tf := t4
    by_cases c0 : t_fd1 S = -1
    · have e1 : t_lk1 S = t_blame S 3 := if_pos c0
      obtain ⟨y1, y2⟩ := t_blame_yes (S := S) (e := 3) b
      have hr : r_lk B (rf (upd R.2.2.2.1 R.1.1 7)) R.1.1 2 = 3 := by unfold r_lk; rw [tx, if_pos c0]
      rw [e1, hr]
      exact Or.inr ⟨show ¬ (3 : Int32) = 0 by decide, y1, y2⟩
    have e1 : t_lk1 S = S := if_neg c0
    have hr : r_lk B (rf (upd R.2.2.2.1 R.1.1 7)) R.1.1 2 = 0 := by unfold r_lk; rw [tx, if_neg c0]
    rw [e1, hr]
    refine Or.inl ⟨rfl, b, ?_⟩
    obtain ⟨d, hd1, hd2⟩ := r_tdl_lt0 (E := E) (g := R.2.2.2.1) (i := R.1.1) (t := R.1.1) (a := 2) (by rw [← tf]; exact c0)
    generalize hB2 : e_of B (rf (upd R.2.2.2.1 R.1.1 7)) R.1.1 (od + 1) 2 = B2
    have eB : B2.2 = h_u (m_E B R.1.1 (t_fd1 S)).2 5 od (t_fd1 S) := by
      rw [← hB2]
      show h_u (m_E B R.1.1 (r_tld B (rf (upd R.2.2.2.1 R.1.1 7)) R.1.1 2)).2 5 (od + 1 - 1) (r_tld B (rf (upd R.2.2.2.1 R.1.1 7)) R.1.1 2) = _
      rw [tx]
      rfl
    have br : ∀ q, q ≠ 16 → q ≠ 5 → B2.2 q = B.2 q := fun q a b => by rw [eB, h_u_row b, m_E_row a]
    have b5 : ∀ o, o ≠ od → B2.2 5 o = B.2 5 o := fun o ho => by rw [eB, h_u_ne ho, m_E_row (by decide)]
    have b5' : B2.2 5 od = t_fd1 S := by rw [eB, h_u_eq]
    have b16 : ∀ j, j < R.1.1 → B2.2 16 j = B.2 16 j := fun j hj => by
      rw [eB, h_u_row (by decide)]
      show h_u B.2 16 R.1.1 (t_fd1 S) 16 j = _
      rw [h_u_ne (by omega)]
    have hx9 : LX D E N Ev od (cnt R.2.2.2.1 1 R.1.1) (cnt R.2.2.2.1 2 R.1.1) S R B2 := by
      obtain ⟨⟨a1, a2⟩, ⟨b1, b2, b3, b4, b50, b6⟩, ⟨r12, r13, r14, r20⟩, ⟨d1, d2⟩, ⟨k1, k2, k3⟩, ⟨o1, o2⟩, ⟨c1, c2⟩, nm⟩ := x5
      unfold LX
      rw [br 10 (by decide) (by decide), br 12 (by decide) (by decide), br 13 (by decide) (by decide), br 14 (by decide) (by decide), br 20 (by decide) (by decide), br 0 (by decide) (by decide), br 1 (by decide) (by decide)]
      refine ⟨⟨a1, a2⟩, ⟨b1, b2, b3, b4, b50, b6⟩, ⟨r12, r13, r14, r20⟩, ⟨d1, d2⟩, ⟨k1, fun q hq => PRT_mono (k2 q hq) rfl (fun _ _ => rfl) (fun _ _ => rfl) (congrFun (br 1 (by decide) (by decide)) q) (fun j _ => congrFun (br 2 (by decide) (by decide)) _) (fun j _ => congrFun (br 3 (by decide) (by decide)) _) (Nat.le_refl _), k3⟩, ⟨o1, fun o ho => ORD_mono (o2 o ho) rfl rfl rfl rfl (congrFun (br 4 (by decide) (by decide)) o) (b5 o (by omega)) rfl rfl ⟨[], (List.append_nil _).symm⟩ (Nat.le_refl _) (Nat.le_refl _)⟩, ⟨c1, ?_⟩, nm⟩
      rw [g_rs_keep hri.2.2.2.2.2.2 b16]
      exact c2
    have hx8 := LX_role (Z := S) (a := 7) hx9 (fun _ _ => rfl) rfl rfl rfl rfl (by decide) (by decide) (by decide)
    show XW D E N Ev od k (t_fd1 S) False Z (t_adv D S) (r_adv (r_role R 7)) B2
    unfold XW
    rw [cnt_role (by decide), cnt_role (by decide), cnt_role (by decide)]
    exact ⟨o16, hx8, (congrFun (br 4 (by decide) (by decide)) od).trans u4, b5', u3, ⟨d, tf.trans hd2, Or.inl ⟨hkk, hd1⟩⟩, hZ⟩
end XOR
