def PRT (S : tS) (B : rE) (nd k : Nat) : Prop := ∃ np, 1 ≤ np ∧ np ≤ 6 ∧ B.2 1 k = nI np ∧ S.1 1 k = nI np ∧ ∀ j, j < np → (∃ d, d < nd ∧ B.2 2 (6 * k + j) = nI d) ∧ S.1 2 (6 * k + j) = B.2 2 (6 * k + j) ∧ S.1 3 (6 * k + j) = B.2 3 (6 * k + j)
def ORD (S : tS) (Ev : rE) (G : List rI) (B : rE) (nd nk o : Nat) : Prop := ∃ vb tg, S.1 4 o = nI vb ∧ B.2 4 o = nI (vb - 256) ∧ S.1 5 o = nI tg ∧ B.2 5 o = nI tg ∧ ((vb = 262 ∧ tg < nk) ∨ ((vb = 263 ∨ vb = 264) ∧ (tg < nd ∨ tg = 8))) ∧ ∃ p L q : List rI, G = p ++ L ++ q ∧ S.1 6 o = nI p.length ∧ S.1 7 o = nI (p ++ L).length ∧ Ev.2 6 o = nI (g_tr (p.map (g_rs nI))).length ∧ Ev.2 7 o = nI (g_tr ((p ++ L).map (g_rs nI))).length ∧ (L = [] ∨ p_ty (L.map g_ks) [] = some [true])
/-- all that has been told so far, of both: dn drones, kn deals, od orders are complete -/
def LX (D : tK) (E : rE) (N : Nat) (Ev : rE) (od dn kn : Nat) (S : tS) (R : rS) (B : rE) : Prop :=
  (S.1 11 6 = nI (cnt R.2.2.2.1 1 R.1.1) ∧ S.1 11 7 = nI (cnt R.2.2.2.1 2 R.1.1)) ∧
  (B.2 10 0 = nI (cnt R.2.2.2.1 1 R.1.1) ∧ cnt R.2.2.2.1 1 R.1.1 ≤ 8 ∧ B.2 10 1 = nI (cnt R.2.2.2.1 2 R.1.1) ∧ cnt R.2.2.2.1 2 R.1.1 ≤ 6 ∧ B.2 10 2 = nI (cnt R.2.2.2.1 3 R.1.1) ∧ cnt R.2.2.2.1 3 R.1.1 ≤ 16) ∧
  (B.2 12 = E.2 12 ∧ B.2 13 = E.2 13 ∧ B.2 14 = E.2 14 ∧ B.2 20 = E.2 20) ∧
  (S.1 10 0 = nI dn ∧ ∀ d, d < dn → S.1 0 d = B.2 0 d) ∧
  (S.1 10 1 = nI kn ∧ (∀ k, k < kn → PRT S B (cnt R.2.2.2.1 1 R.1.1) k) ∧ ∀ k, cnt R.2.2.2.1 2 R.1.1 ≤ k → k < 6 → B.2 1 k = nI 0) ∧
  (S.1 10 2 = nI od ∧ ∀ o, o < od → ORD S Ev R.2.2.2.2 B (cnt R.2.2.2.1 1 R.1.1) (cnt R.2.2.2.1 2 R.1.1) o) ∧
  Cod S R.2.2.2.2 (B.2 16) ∧ NM D E N S R.2.2.2.1 R.1.1
def LD (D : tK) (E : rE) (N : Nat) (Ev : rE) (od : Nat) (S : tS) (R : rS) (B : rE) : Prop := LX D E N Ev od (cnt R.2.2.2.1 1 R.1.1) (cnt R.2.2.2.1 2 R.1.1) S R B
section XLX
variable {D : tK} {E Ev B B' : rE} {N od dn kn : Nat} {S S' : tS} {R : rS} {G : List rI}
theorem PRT_mono {nd nd' k : Nat} (h : PRT S B nd k) (s1 : S'.1 1 k = S.1 1 k) (s2 : ∀ j, j < 6 → S'.1 2 (6 * k + j) = S.1 2 (6 * k + j)) (s3 : ∀ j, j < 6 → S'.1 3 (6 * k + j) = S.1 3 (6 * k + j)) (b1 : B'.2 1 k = B.2 1 k) (b2 : ∀ j, j < 6 → B'.2 2 (6 * k + j) = B.2 2 (6 * k + j)) (b3 : ∀ j, j < 6 → B'.2 3 (6 * k + j) = B.2 3 (6 * k + j)) (hn : nd ≤ nd') : PRT S' B' nd' k := by
  obtain ⟨np, h1, h2, h3, h4, h5⟩ := h
  refine ⟨np, h1, h2, b1.trans h3, s1.trans h4, fun j hj => ?_⟩
  obtain ⟨⟨d, p1, p2⟩, p3, p4⟩ := h5 j hj
  rw [s2 j (by omega), s3 j (by omega), b2 j (by omega), b3 j (by omega)]
  exact ⟨⟨d, by omega, p2⟩, p3, p4⟩
theorem ORD_mono {nd nd' nk nk' o : Nat} (h : ORD S Ev G B nd nk o) (s4 : S'.1 4 o = S.1 4 o) (s5 : S'.1 5 o = S.1 5 o) (s6 : S'.1 6 o = S.1 6 o) (s7 : S'.1 7 o = S.1 7 o) (b4 : B'.2 4 o = B.2 4 o) (b5 : B'.2 5 o = B.2 5 o) {Ev' : rE} (e6 : Ev'.2 6 o = Ev.2 6 o) (e7 : Ev'.2 7 o = Ev.2 7 o) {G' : List rI} (hG : ∃ X, G' = G ++ X) (hn : nd ≤ nd') (hk : nk ≤ nk') : ORD S' Ev' G' B' nd' nk' o := by
  obtain ⟨vb, tg, h1, h2, h3, h4, h5, p, L, q, g1, g2, g3, g4, g5, g6⟩ := h
  obtain ⟨X, hX⟩ := hG
  refine ⟨vb, tg, s4.trans h1, b4.trans h2, s5.trans h3, b5.trans h4, ?_, p, L, q ++ X, ?_, s6.trans g2, s7.trans g3, e6.trans g4, e7.trans g5, g6⟩
  · rcases h5 with ⟨x, y⟩ | ⟨x, y⟩
    · exact Or.inl ⟨x, by omega⟩
    · exact Or.inr ⟨x, y.imp (fun z => by omega) (fun z => z)⟩
  · rw [hX, g1]; simp only [List.append_assoc]
/-- one token on: nothing is told by it -/
theorem LX_step (h : LX D E N Ev od dn kn S R B) (hrow : ∀ r, r ≠ 11 → S'.1 r = S.1 r) (e6 : S'.1 11 6 = S.1 11 6) (e7 : S'.1 11 7 = S.1 11 7) (e1 : S'.2.1 = S.2.1) (e2 : S'.2.2.1 = S.2.2.1) {g' : Nat → Int32} (hl : ∀ k, k < R.1.1 → R.2.2.2.1 k = g' k) (n1 : g' R.1.1 ≠ 1) (n2 : g' R.1.1 ≠ 2) (n3 : g' R.1.1 ≠ 3) {d : Nat × Nat} {cd : List Int32} {op : List Nat} (hd : d.1 = R.1.1 + 1) : LX D E N Ev od dn kn S' (d, cd, op, g', R.2.2.2.2) B := by
  obtain ⟨⟨a1, a2⟩, ⟨b1, b2, b3, b4, b5, b6⟩, hr, ⟨d1, d2⟩, ⟨k1, k2, k3⟩, ⟨o1, o2⟩, ⟨c1, c2⟩, nm⟩ := h
  have q : ∀ a, g' R.1.1 ≠ a → cnt g' a (R.1.1 + 1) = cnt R.2.2.2.1 a R.1.1 := fun a ha => (cnt_n ha).trans (cnt_loc R.1.1 (fun k hk => (hl k hk).symm))
  unfold LX
  show (S'.1 11 6 = nI (cnt g' 1 d.1) ∧ S'.1 11 7 = nI (cnt g' 2 d.1)) ∧ (B.2 10 0 = nI (cnt g' 1 d.1) ∧ cnt g' 1 d.1 ≤ 8 ∧ B.2 10 1 = nI (cnt g' 2 d.1) ∧ cnt g' 2 d.1 ≤ 6 ∧ B.2 10 2 = nI (cnt g' 3 d.1) ∧ cnt g' 3 d.1 ≤ 16) ∧ _ ∧ _ ∧ (S'.1 10 1 = nI kn ∧ (∀ k, k < kn → PRT S' B (cnt g' 1 d.1) k) ∧ ∀ k, cnt g' 2 d.1 ≤ k → k < 6 → B.2 1 k = nI 0) ∧ (S'.1 10 2 = nI od ∧ ∀ o, o < od → ORD S' Ev R.2.2.2.2 B (cnt g' 1 d.1) (cnt g' 2 d.1) o) ∧ Cod S' R.2.2.2.2 (B.2 16) ∧ NM D E N S' g' d.1
  rw [hd, q 1 n1, q 2 n2, q 3 n3]
  refine ⟨⟨e6.trans a1, e7.trans a2⟩, ⟨b1, b2, b3, b4, b5, b6⟩, hr, ⟨(congrFun (hrow 10 (by decide)) 0).trans d1, fun d hd => (congrFun (hrow 0 (by decide)) d).trans (d2 d hd)⟩, ⟨(congrFun (hrow 10 (by decide)) 1).trans k1, fun k hk => PRT_mono (k2 k hk) (congrFun (hrow 1 (by decide)) k) (fun j _ => congrFun (hrow 2 (by decide)) _) (fun j _ => congrFun (hrow 3 (by decide)) _) rfl (fun _ _ => rfl) (fun _ _ => rfl) (Nat.le_refl _), k3⟩, ⟨(congrFun (hrow 10 (by decide)) 2).trans o1, fun o ho => ORD_mono (o2 o ho) (congrFun (hrow 4 (by decide)) o) (congrFun (hrow 5 (by decide)) o) (congrFun (hrow 6 (by decide)) o) (congrFun (hrow 7 (by decide)) o) rfl rfl rfl rfl ⟨[], (List.append_nil _).symm⟩ (Nat.le_refl _) (Nat.le_refl _)⟩, ⟨(congrFun (hrow 10 (by decide)) 3).trans c1, fun i p hp => ?_⟩, NM_skip nm hl n1 n2 e6 e7 e1 e2⟩
  rw [hrow 8 (by decide), hrow 9 (by decide)]
  exact c2 i p hp
theorem LX_adv (h : LX D E N Ev od dn kn S R B) (h0 : R.2.2.2.1 R.1.1 = 0) : LX D E N Ev od dn kn (t_adv D S) (r_adv R) B :=
  LX_step h (fun r hr => t_adv_row hr) (t_adv_11 (by decide) (by decide) (by decide)) (t_adv_11 (by decide) (by decide) (by decide)) rfl rfl (g' := R.2.2.2.1) (fun _ _ => rfl) (by rw [h0]; decide) (by rw [h0]; decide) (by rw [h0]; decide) (d := (R.1.1 + 1, R.1.2)) rfl
theorem LD_adv (h : LD D E N Ev od S R B) (h0 : R.2.2.2.1 R.1.1 = 0) : LD D E N Ev od (t_adv D S) (r_adv R) B := by
  have h1 := LX_adv h h0
  unfold LD
  show LX D E N Ev od (cnt R.2.2.2.1 1 (R.1.1 + 1)) (cnt R.2.2.2.1 2 (R.1.1 + 1)) (t_adv D S) (r_adv R) B
  rw [cnt_n (by rw [h0]; decide), cnt_n (by rw [h0]; decide)]
  exact h1
/-- what is found of a name, by both -/
theorem LX_fd (h : LX D E N Ev od dn kn S R B) (hs : Syn D S R.1.1) (hl : R.1.1 < N) (h40 : E.2 12 R.1.1 = 40) {a : Int32} : r_tld B (rf (upd R.2.2.2.1 R.1.1 a)) R.1.1 1 = t_fd0 S ∧ r_tld B (rf (upd R.2.2.2.1 R.1.1 a)) R.1.1 2 = t_fd1 S ∧ t_fd0 S = r_tdl E R.2.2.2.1 R.1.1 1 R.1.1 0 0 ∧ t_fd1 S = r_tdl E R.2.2.2.1 R.1.1 2 R.1.1 0 0 := by
  obtain ⟨-, -, ⟨r12, r13, r14, r20⟩, -, -, -, -, nm⟩ := h
  obtain ⟨q1, q2⟩ := nm R.1.1 hl h40
  have f0 : t_fd0 S = r_tdl E R.2.2.2.1 R.1.1 1 R.1.1 0 0 := by unfold t_fd0; rw [hs.2.2.2.2]; exact q1
  have f1 : t_fd1 S = r_tdl E R.2.2.2.1 R.1.1 2 R.1.1 0 0 := by unfold t_fd1; rw [hs.2.2.2.2]; exact q2
  refine ⟨?_, ?_, f0, f1⟩
  · rw [f0]
    unfold r_tld
    rw [r_tdl_E r13 r14 r20]
    exact r_tdl_loc R.1.1 0 0 (fun k _ hk => upd_ne (by omega))
  · rw [f1]
    unfold r_tld
    rw [r_tdl_E r13 r14 r20]
    exact r_tdl_loc R.1.1 0 0 (fun k _ hk => upd_ne (by omega))
theorem LX_num (h : LX D E N Ev od dn kn S R B) (i : Nat) : (tE B).2 i = (tE E).2 i := by
  obtain ⟨-, -, ⟨r12, r13, r14, r20⟩, -⟩ := h
  show r_num B i = r_num E i
  unfold r_num
  rw [r13, r14, r20]
end XLX
