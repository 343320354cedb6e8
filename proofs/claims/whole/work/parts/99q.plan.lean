theorem g_tr1_len (k : Nat) (x y : Int32) : (g_tr1 (k, x)).length = (g_tr1 (k, y)).length := by
  unfold g_tr1
  dsimp only
  by_cases c3 : k = 3
  · rw [if_pos c3, if_pos c3]; first | done | rfl
  rw [if_neg c3, if_neg c3]
  by_cases c267 : k = 267
  · rw [if_pos c267, if_pos c267]; first | done | rfl
  rw [if_neg c267, if_neg c267]
  by_cases c268 : k = 268
  · rw [if_pos c268, if_pos c268]; first | done | rfl
  rw [if_neg c268, if_neg c268]
  by_cases c269 : k = 269
  · rw [if_pos c269, if_pos c269]; first | done | rfl
  rw [if_neg c269, if_neg c269]
  by_cases c257 : k = 257
  · rw [if_pos c257, if_pos c257]; first | done | rfl
  rw [if_neg c257, if_neg c257]
  by_cases c270 : k = 270
  · rw [if_pos c270, if_pos c270]; first | done | rfl
  rw [if_neg c270, if_neg c270]
  by_cases c272 : k = 272
  · rw [if_pos c272, if_pos c272]; first | done | rfl
  rw [if_neg c272, if_neg c272]
theorem g_tr_len (f g : Nat → Int32) : ∀ l : List rI, (g_tr (l.map (g_rs f))).length = (g_tr (l.map (g_rs g))).length := by
  intro l
  induction l with
  | nil => rfl
  | cons e t ih =>
    show (g_tr1 (e.1, g_dt e f) ++ g_tr (t.map (g_rs f))).length = (g_tr1 (e.1, g_dt e g) ++ g_tr (t.map (g_rs g))).length
    rw [List.length_append, List.length_append, ih, g_tr1_len]
theorem p_ty_rs (f : Nat → Int32) : ∀ (l : List rI) (st : List Bool), p_ty (l.map (g_rs f)) st = p_ty (l.map g_ks) st := by
  intro l
  induction l with
  | nil => intro st; rfl
  | cons e t ih =>
    intro st
    show (match p_op e.1 st with | some ty' => p_ty (t.map (g_rs f)) ty' | none => none) = (match p_op e.1 st with | some ty' => p_ty (t.map g_ks) ty' | none => none)
    cases p_op e.1 st with
    | none => rfl
    | some s => exact ih s
/-- the plan that has been told -/
def mkP (S : tS) (B : rE) (G : List rI) (nd nk no : Nat) : PL := ((nd, nk, no), (fun k => (B.2 1 k).toNatClampNeg), (fun s => (B.2 2 s).toNatClampNeg), (fun s => B.2 3 s), (fun o => (S.1 4 o).toNatClampNeg), (fun o => (S.1 5 o).toNatClampNeg), (fun o => ((G.take (S.1 7 o).toNatClampNeg).drop (S.1 6 o).toNatClampNeg).map (g_rs (B.2 16))), fun d => B.2 0 d)
section XMP
variable {D : tK} {E Ev B GE : rE} {N od : Nat} {S : tS} {R : rS}
theorem getD_app3 {a b c : List Int32} {i : Nat} {x : Int32} (h : b[i]? = some x) : (a ++ b ++ c).getD (a.length + i) 0 = x := by
  have hi : i < b.length := (List.getElem?_eq_some_iff.mp h).1
  rw [List.append_assoc]
  simp only [List.getD]
  rw [List.getElem?_append_right (by omega), Nat.add_sub_cancel_left, List.getElem?_append_left hi, h]
  rfl
theorem plan_of (hN4 : N ≤ 400) (hri : RI (tE E) N R.2.2.2.2 [] R) (hok : r_ok N R) (hsl : R.2.2.2.2.length ≤ R.1.1) (hod : od = cnt R.2.2.2.1 3 R.1.1) (hp : P2 E R.2.2.2.1 R.1.1 = (0, R.1.1, B)) (hx : LD D E N Ev od S R B) (h1 : ∀ q, q ≠ 6 → q ≠ 7 → q ≠ 10 → GE.2 q = B.2 q) (h10 : ∀ j, j ≠ 3 → GE.2 10 j = B.2 10 j) (h6 : GE.2 6 = Ev.2 6) (h7 : GE.2 7 = Ev.2 7) (t : Nat × Nat) : ∃ P : PL, p_ok P ∧ q_is S.1 P ∧ g_is (prG GE (t, f_ls (GE.2 16) R.2.2.1 R.2.1, R.2.2)) P := by
  have htk := hri.1
  have hnames := P2_names (E := E) (fun j hj => hri.2.2.2.2.1 j hj) R.1.1 B (Nat.le_refl _) hp
  have hnames := fun j hj => hnames j hj
  obtain ⟨⟨a1, a2⟩, ⟨b1, b2, b3, b4, b5, b6⟩, hr, ⟨d1, d2⟩, ⟨k1, k2, k3⟩, ⟨o1, o2⟩, ⟨c1, c2⟩, nm⟩ := hx
  have hgl : R.2.2.2.2.length ≤ 400 := by omega
  have hcl : R.2.1.length ≤ 800 := by have := hok.2.2.1; omega
  refine ⟨mkP S B R.2.2.2.2 (cnt R.2.2.2.1 1 R.1.1) (cnt R.2.2.2.1 2 R.1.1) od, ?_⟩
  generalize hP : mkP S B R.2.2.2.2 (cnt R.2.2.2.1 1 R.1.1) (cnt R.2.2.2.1 2 R.1.1) od = P
  have pnd : p_nd P = cnt R.2.2.2.1 1 R.1.1 := by rw [← hP]; rfl
  have pnk : p_nk P = cnt R.2.2.2.1 2 R.1.1 := by rw [← hP]; rfl
  have pno : p_no P = od := by rw [← hP]; rfl
  have pnp : ∀ k, p_np P k = (B.2 1 k).toNatClampNeg := fun k => by rw [← hP]; rfl
  have pwh : ∀ s, p_who P s = (B.2 2 s).toNatClampNeg := fun s => by rw [← hP]; rfl
  have pmv : ∀ s, p_mv P s = B.2 3 s := fun s => by rw [← hP]; rfl
  have pvb : ∀ o, p_vb P o = (S.1 4 o).toNatClampNeg := fun o => by rw [← hP]; rfl
  have ptg : ∀ o, p_tg P o = (S.1 5 o).toNatClampNeg := fun o => by rw [← hP]; rfl
  have pts : ∀ o, p_ts P o = ((R.2.2.2.2.take (S.1 7 o).toNatClampNeg).drop (S.1 6 o).toNatClampNeg).map (g_rs (B.2 16)) := fun o => by rw [← hP]; rfl
  have phn : ∀ d, p_hn P d = B.2 0 d := fun d => by rw [← hP]; rfl
  clear hP
  -- deals
  have DL : ∀ k, k < p_nk P → 1 ≤ p_np P k ∧ p_np P k ≤ 6 ∧ B.2 1 k = nI (p_np P k) ∧ S.1 1 k = nI (p_np P k) ∧ ∀ j, j < p_np P k → p_who P (6 * k + j) < p_nd P ∧ B.2 2 (6 * k + j) = nI (p_who P (6 * k + j)) ∧ S.1 2 (6 * k + j) = nI (p_who P (6 * k + j)) ∧ S.1 3 (6 * k + j) = p_mv P (6 * k + j) := by
    intro k hk
    obtain ⟨np, n1, n2, n3, n4, n5⟩ := k2 k (by rw [← pnk]; exact hk)
    have e : p_np P k = np := by rw [pnp, n3, nI_clamp (by omega)]
    rw [e]
    refine ⟨n1, n2, n3, n4, fun j hj => ?_⟩
    obtain ⟨⟨d, q1, q2⟩, q3, q4⟩ := n5 j hj
    have e2 : p_who P (6 * k + j) = d := by rw [pwh, q2, nI_clamp (by omega)]
    rw [e2, pmv, pnd]
    exact ⟨q1, q2, q3.trans q2, q4⟩
  -- orders
  have OD : ∀ o, o < p_no P → ((p_vb P o = 262 ∧ p_tg P o < p_nk P) ∨ ((p_vb P o = 263 ∨ p_vb P o = 264) ∧ (p_tg P o < p_nd P ∨ p_tg P o = 8))) ∧ S.1 4 o = nI (p_vb P o) ∧ B.2 4 o = nI (p_vb P o - 256) ∧ S.1 5 o = nI (p_tg P o) ∧ B.2 5 o = nI (p_tg P o) ∧ ∃ p L q : List rI, R.2.2.2.2 = p ++ L ++ q ∧ p_ts P o = L.map (g_rs (B.2 16)) ∧ S.1 6 o = nI p.length ∧ S.1 7 o = nI (p ++ L).length ∧ Ev.2 6 o = nI (g_tr (p.map (g_rs nI))).length ∧ Ev.2 7 o = nI (g_tr ((p ++ L).map (g_rs nI))).length ∧ (L = [] ∨ p_ty (L.map g_ks) [] = some [true]) := by
    intro o ho
    obtain ⟨vb, tg, w1, w2, w3, w4, w5, p, L, q, g1, g2, g3, g4, g5, g6⟩ := o2 o (by rw [← pno]; exact ho)
    have hvb : vb < 2 ^ 31 := by rcases w5 with ⟨z, -⟩ | ⟨z | z, -⟩ <;> omega
    have htg : tg < 2 ^ 31 := by rcases w5 with ⟨-, z⟩ | ⟨-, z | z⟩ <;> omega
    have e1 : p_vb P o = vb := by rw [pvb, w1, nI_clamp hvb]
    have e2 : p_tg P o = tg := by rw [ptg, w3, nI_clamp htg]
    have hlen := congrArg List.length g1
    rw [List.length_append, List.length_append] at hlen
    have hl2 : (p ++ L).length = p.length + L.length := List.length_append
    have e3 : p_ts P o = L.map (g_rs (B.2 16)) := by
      rw [pts, g2, g3, nI_clamp (by omega), nI_clamp (by omega), g1, List.take_left, List.drop_left]
    rw [e1, e2, e3, pnk, pnd]
    exact ⟨w5, w1, w2, w3, w4, p, L, q, g1, rfl, g2, g3, g4, g5, g6⟩
  have hfill : f_ls (GE.2 16) R.2.2.1 R.2.1 = g_tr (R.2.2.2.2.map (g_rs (B.2 16))) := by
    have e := f_fill (T := tE E) (t := R.1.1) (f := R.2.2.2.1) (B.2 16) (by omega) R.2.2.2.2 [] hri.2.2.2.2.2.2
    rw [List.nil_append, List.nil_append] at e
    rw [h1 16 (by decide) (by decide) (by decide), hri.2.2.1, hri.2.1]
    exact e
  refine ⟨⟨by rw [pnd]; exact b2, by rw [pnk]; exact b4, by rw [pno]; omega, fun k hk => ⟨(DL k hk).1, (DL k hk).2.1⟩, fun k j hk hj => ((DL k hk).2.2.2.2 j hj).1, fun o ho => (OD o ho).1, fun o ho => ?_⟩, ⟨d1.trans (by rw [pnd]), k1.trans (by rw [pnk]), o1.trans (by rw [pno]), fun k hk => (DL k hk).2.2.2.1, fun k j hk hj => ((DL k hk).2.2.2.2 j hj).2.2, fun o ho => ?_, fun d hd => (d2 d (by rw [← pnd]; exact hd)).trans (phn d).symm⟩, ?_⟩
  · obtain ⟨-, -, -, -, -, p, L, q, g1, g2, -, -, -, -, g6⟩ := OD o ho
    rw [g2]
    rcases g6 with g6 | g6
    · rw [g6]; exact Or.inl rfl
    · refine Or.inr ⟨by rw [p_ty_rs]; exact g6, ?_, fun x hx => ?_⟩
      · have hlen := congrArg List.length g1
        rw [List.length_append, List.length_append] at hlen
        rw [List.length_map]
        omega
      · obtain ⟨e, he, rfl⟩ := List.mem_map.mp hx
        have hm : e ∈ R.2.2.2.2 := by rw [g1]; exact List.mem_append.mpr (Or.inl (List.mem_append.mpr (Or.inr he)))
        have hgk := hri.2.2.2.2.2.2 e hm
        unfold p_dt
        rw [pnd, pnk]
        show (e.1 = 257 → ∃ d, d < cnt R.2.2.2.1 1 R.1.1 ∧ g_dt e (B.2 16) = nI d) ∧ (e.1 = 270 → ∃ k, k < cnt R.2.2.2.1 2 R.1.1 ∧ g_dt e (B.2 16) = nI k) ∧ (e.1 = 272 → ∃ d, (d < cnt R.2.2.2.1 1 R.1.1 ∨ d = 8) ∧ g_dt e (B.2 16) = nI d)
        cases hj : e.2.2 with
        | none =>
          obtain ⟨n1, n2, n3⟩ := hgk.1 hj
          rw [g_dt_none hj]
          exact ⟨fun z => absurd z n1, fun z => absurd z n2, fun z => ⟨8, Or.inr rfl, n3 z⟩⟩
        | some j =>
          obtain ⟨j1, -, j3⟩ := hgk.2 j hj
          obtain ⟨m5, m6⟩ := hnames j j1
          rw [g_dt_some hj]
          rcases j3 with ⟨j3, j4⟩ | ⟨j3, j4⟩
          · obtain ⟨d, y1, y2⟩ := m5 j4
            refine ⟨fun _ => ⟨d, y1, y2⟩, fun z => ?_, fun _ => ⟨d, Or.inl y1, y2⟩⟩
            rcases j3 with j3 | j3
            · rw [j3] at z; exact absurd z (by decide)
            · rw [j3] at z; exact absurd z (by decide)
          · obtain ⟨d, y1, y2⟩ := m6 j4
            exact ⟨fun z => by rw [j3] at z; exact absurd z (by decide), fun _ => ⟨d, y1, y2⟩, fun z => by rw [j3] at z; exact absurd z (by decide)⟩
  · obtain ⟨-, s4, -, s5, -, p, L, q, g1, g2, g3, g4, -, -, -⟩ := OD o ho
    have hlen := congrArg List.length g1
    rw [List.length_append, List.length_append] at hlen
    refine ⟨s4, s5, p.length, g3, ?_, ?_, fun i x hx => ?_⟩
    · rw [g4, g2, List.length_map, List.length_append]
    · rw [g2, List.length_map]; omega
    · rw [g2] at hx
      have hi : i < (L.map (g_rs (B.2 16))).length := (List.getElem?_eq_some_iff.mp hx).1
      have := c2 (p.length + i) x (by
        rw [g1, List.map_append, List.map_append, List.append_assoc, List.getElem?_append_right (by rw [List.length_map]; omega), List.length_map, Nat.add_sub_cancel_left, List.getElem?_append_left hi]
        exact hx)
      rw [Nat.zero_add] at this
      exact this
  · have pr : ∀ q, q ≠ 8 → q ≠ 9 → q ≠ 10 → prG GE (t, f_ls (GE.2 16) R.2.2.1 R.2.1, R.2.2) q = GE.2 q := fun q h8 h9 h10 => by
      unfold prG
      rw [if_neg h8, if_neg h9, if_neg h10]
    have pr8 : prG GE (t, f_ls (GE.2 16) R.2.2.1 R.2.1, R.2.2) 8 = lr (f_ls (GE.2 16) R.2.2.1 R.2.1) := rfl
    have pr10 : ∀ j, j < 3 → prG GE (t, f_ls (GE.2 16) R.2.2.1 R.2.1, R.2.2) 10 j = B.2 10 j := fun j hj => by
      rw [← h10 j (by omega)]
      show (if j = 4 then _ else if j = 5 then _ else GE.2 10 j) = _
      rw [if_neg (by omega), if_neg (by omega)]
    refine ⟨?_, ?_, ?_, fun k hk => ?_, fun k j hk hj => ?_, fun o ho => ?_, fun d hd => ?_⟩
    · rw [pr10 0 (by decide), b1, pnd]
    · rw [pr10 1 (by decide), b3, pnk]
    · rw [pr10 2 (by decide), b5, pno, hod]
    · rw [pr 1 (by decide) (by decide) (by decide), h1 1 (by decide) (by decide) (by decide)]
      exact (DL k hk).2.2.1
    · rw [pr 2 (by decide) (by decide) (by decide), pr 3 (by decide) (by decide) (by decide), h1 2 (by decide) (by decide) (by decide), h1 3 (by decide) (by decide) (by decide), pmv]
      exact ⟨((DL k hk).2.2.2.2 j hj).2.1, rfl⟩
    · obtain ⟨-, -, s4, -, s5, p, L, q, g1, g2, -, -, g4, g5, -⟩ := OD o ho
      rw [pr 4 (by decide) (by decide) (by decide), pr 5 (by decide) (by decide) (by decide), pr 6 (by decide) (by decide) (by decide), pr 7 (by decide) (by decide) (by decide), h1 4 (by decide) (by decide) (by decide), h1 5 (by decide) (by decide) (by decide), h6, h7]
      have hsum : (g_tr ((p ++ L).map (g_rs nI))).length = (g_tr (p.map (g_rs nI))).length + (g_tr (L.map (g_rs (B.2 16)))).length := by
        rw [List.map_append, g_tr_app, List.length_append, g_tr_len nI (B.2 16) L]
      refine ⟨s4, s5, (g_tr (p.map (g_rs nI))).length, g4, ?_, ?_, fun i x hx => ?_⟩
      · rw [g5, g2, hsum]
      · have : R.2.1.length = (g_tr ((p ++ L).map (g_rs nI))).length + (g_tr (q.map (g_rs nI))).length := by
          rw [hri.2.1, g1, List.map_append, g_tr_app, List.length_append]
        rw [g2]
        omega
      · rw [g2] at hx
        rw [pr8, hfill, g1, List.map_append, List.map_append, g_tr_app, g_tr_app, g_tr_len nI (B.2 16) p]
        exact getD_app3 hx
    · rw [pr 0 (by decide) (by decide) (by decide), h1 0 (by decide) (by decide) (by decide), phn]
end XMP
