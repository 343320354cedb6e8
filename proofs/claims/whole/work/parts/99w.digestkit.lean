theorem x_pick {K : x_K} {nL cells slots pc : Nat} {lv lv' : List (Nat × Value)} {st : List Value} {M : x_M} (is : List Nat) (h : is.filterMap (fun i => lv[i]?) = lv') (k : x_X K nL cells slots pc lv' st M) : x_X K nL cells slots pc lv st M := by
  obtain ⟨p, l1, e, R, s, m, args, below, meth, c, Y, Q⟩ := K
  intro H locs ls hw hs hl
  refine k H locs ls hw hs ⟨hl.1, hl.2.1, fun q hq => hl.2.2 q ?_⟩
  rw [← h] at hq
  obtain ⟨i, _, hi⟩ := List.mem_filterMap.mp hq
  exact List.mem_of_getElem? hi
section XDIG
variable {K : x_K} {l : Launch} {Y0 : x_Y} {y : MethodName} {cc : ByteArray} {nL d mc ms cells slots pc : Nat} {lv : List (Nat × Value)} {st : List Value} {M : x_M}
theorem x_notb (C : x_Ctx K l Y0 y cc nL d mc ms) {x : Int32} (d1 : decode cc pc = .ok (.ifCond .eq 7, 3)) (d2 : decode cc (pc + 3) = .ok (.iconst 0, 1)) (d3 : decode cc (pc + 4) = .ok (.goto 4, 3)) (d4 : decode cc (pc + 7) = .ok (.iconst 1, 1)) (hx : x = 0 ∨ x = 1) (k : x_X K nL cells slots (pc + 8) lv (.int (1 - x) :: st) M) : x_X K nL cells slots pc lv (.int x :: st) M := by
  refine x_if_eq (tgt := pc + 7) C d1 (by omega) (fun h => ?_) (fun h => ?_)
  · refine x_iconst (v := 1) C d4 (by decide) ?_
    rw [show (1 : Int32) = 1 - x by rw [h]; decide]
    exact k
  · refine x_iconst (v := 0) C d2 (by decide) ?_
    refine x_goto (tgt := pc + 8) C d3 (by omega) ?_
    rw [show (0 : Int32) = 1 - x by rw [hx.resolve_left h]; decide]
    exact k
theorem x_isb (C : x_Ctx K l Y0 y cc nL d mc ms) {x : Int32} (d1 : decode cc pc = .ok (.ifCond .eq 7, 3)) (d2 : decode cc (pc + 3) = .ok (.iconst 1, 1)) (d3 : decode cc (pc + 4) = .ok (.goto 4, 3)) (d4 : decode cc (pc + 7) = .ok (.iconst 0, 1)) (hx : x = 0 ∨ x = 1) (k : x_X K nL cells slots (pc + 8) lv (.int x :: st) M) : x_X K nL cells slots pc lv (.int x :: st) M := by
  refine x_if_eq (tgt := pc + 7) C d1 (by omega) (fun h => ?_) (fun h => ?_)
  · refine x_iconst (v := 0) C d4 (by decide) ?_
    rw [← h]
    exact k
  · refine x_iconst (v := 1) C d2 (by decide) ?_
    refine x_goto (tgt := pc + 8) C d3 (by omega) ?_
    rw [← hx.resolve_left h]
    exact k
end XDIG
theorem h_upI_sub {A : HS} {d : Nat} (h : A 1 d = 0 ∨ A 1 d = 1) : 1 - A 1 d = h_upI A d := by
  unfold h_upI
  rcases h with e | e <;> rw [e] <;> decide
theorem x_bk_up {M1 M2 : x_M} {a n : Nat} {L : List x_E} (h : x_bk M1 a L) (hL : a + L.length ≤ n) (hh : ∀ r, r < n → M2.1 r = M1.1 r) : x_bk M2 a L := by
  intro j c hc
  have hj : j < L.length := (List.getElem?_eq_some_iff.mp hc).1
  rw [hh (a + j) (by omega)]
  exact h j c hc
/-- what stands while the digest is told: all below M's end as it was, but for the stack and the other State -/
def dgF (M : x_M) (o q m t m2 : Nat) (OB : x_E) (G : HS) (P : PL) (A : HS) (hx : Nat → Int32) (z : Int32) (M1 : x_M) : Prop := M.2 ≤ M1.2 ∧ x_bk M1 o [OB] ∧ x_bk M1 q (pmT q G) ∧ x_bk M1 m (stT m o P A hx z) ∧ (∃ sk : Nat → Int32, x_bk M1 t [.inl (0, 400, .inl sk)]) ∧ (∃ (B : HS) (hy : Nat → Int32) (y8 : Int32), x_bk M1 m2 (stT m2 o P B hy y8)) ∧ ∀ r, r < M.2 → r ≠ o → r ≠ t → ¬ (m2 ≤ r ∧ r < m2 + 9) → M1.1 r = M.1 r
def dgB (M : x_M) (o q m t m2 : Nat) : Prop := o + 1 ≤ M.2 ∧ q + 11 ≤ M.2 ∧ m + 9 ≤ M.2 ∧ t + 1 ≤ M.2 ∧ m2 + 9 ≤ M.2
section XDGF
variable {M M1 M2 : x_M} {o q m t m2 : Nat} {OB : x_E} {G : HS} {P : PL} {A : HS} {hx : Nat → Int32} {z : Int32}
theorem dgF_up (hb : dgB M o q m t m2) (F : dgF M o q m t m2 OB G P A hx z M1) (hl : M1.2 ≤ M2.2) (h : ∀ r, r < M.2 → M2.1 r = M1.1 r) : dgF M o q m t m2 OB G P A hx z M2 := by
  obtain ⟨b1, b2, b3, b4, b5⟩ := hb
  obtain ⟨f1, f2, f3, f4, ⟨sk, f5⟩, ⟨B, hy, y8, f6⟩, f7⟩ := F
  exact ⟨Nat.le_trans f1 hl, x_bk_up f2 b1 h, x_bk_up f3 b2 h, x_bk_up f4 b3 h, ⟨sk, x_bk_up f5 b4 h⟩, ⟨B, hy, y8, x_bk_up f6 b5 h⟩, fun r hr h1 h2 h3 => (h r hr).trans (f7 r hr h1 h2 h3)⟩
theorem dgF_nw (hb : dgB M o q m t m2) (F : dgF M o q m t m2 OB G P A hx z M1) {c : x_E} : dgF M o q m t m2 OB G P A hx z (x_nw M1 c) := by
  have hl := F.1
  refine dgF_up hb F (Nat.le_succ _) (fun r hr => ?_)
  show (if r = M1.2 then some c else M1.1 r) = M1.1 r
  rw [if_neg (by omega)]
theorem dgF_ar (hb : dgB M o q m t m2) (F : dgF M o q m t m2 OB G P A hx z M1) {a : Nat} (ha : M.2 ≤ a) {c : x_E} : dgF M o q m t m2 OB G P A hx z (x_ov M1 a [c]) := by
  refine dgF_up hb F (Nat.le_refl _) (fun r hr => x_ov_out (Or.inl (by omega)))
theorem dgF_tm (hto : o + 1 ≤ t ∨ t + 1 ≤ o) (htq : q + 11 ≤ t ∨ t + 1 ≤ q) (htm : m + 9 ≤ t ∨ t + 1 ≤ m) (hm2o : o + 1 ≤ m2 ∨ m2 + 9 ≤ o) (hm2q : q + 11 ≤ m2 ∨ m2 + 9 ≤ q) (hm2 : m + 9 ≤ m2 ∨ m2 + 9 ≤ m) (htm2 : m2 + 9 ≤ t ∨ t + 1 ≤ m2) (F : dgF M o q m t m2 OB G P A hx z M1) {sk : Nat → Int32} {B : HS} {hy : Nat → Int32} {y8 : Int32} : dgF M o q m t m2 OB G P A hx z (x_ov (x_ov M1 t [.inl (0, 400, .inl sk)]) m2 (stT m2 o P B hy y8)) := by
  obtain ⟨f1, f2, f3, f4, _, _, f7⟩ := F
  refine ⟨f1, x_ov_far 9 (x_ov_far 1 f2 rfl hto) rfl hm2o, x_ov_far 9 (x_ov_far 1 f3 rfl htq) rfl hm2q, x_ov_far 9 (x_ov_far 1 f4 rfl htm) rfl hm2, ⟨sk, x_ov_far 9 x_ov_bk rfl htm2.symm⟩, ⟨B, hy, y8, x_ov_bk⟩, fun r hr h1 h2 h3 => ?_⟩
  have e9 : (stT m2 o P B hy y8).length = 9 := rfl
  rw [x_ov_out (by rw [e9]; omega), x_ov_out (by show r < t ∨ t + 1 ≤ r; omega)]
  exact f7 r hr h1 h2 h3
variable {K : x_K} {nL cells slots pc : Nat} {lv : List (Nat × Value)} {st : List Value}
theorem dg_new (hb : dgB M o q m t m2) (F : dgF M o q m t m2 OB G P A hx z M1) {c : x_E} (k : ∀ (Mb : x_M) (a : Nat), (∀ c, dgF M o q m t m2 OB G P A hx z (x_ov Mb a [c])) → M.2 ≤ a → x_X K nL cells slots pc lv (.ref a :: st) (x_ov Mb a [c])) : x_X K nL cells slots pc lv (.ref M1.2 :: st) (x_nw M1 c) := by
  have h := k (x_nw M1 c) M1.2 (fun c2 => dgF_ar hb (dgF_nw hb F) F.1) F.1
  rw [x_ov_self x_nw_bk] at h
  exact h
theorem dg_gen {a : Nat} {Mb : x_M} (hF : ∀ c, dgF M o q m t m2 OB G P A hx z (x_ov Mb a [c])) {c : x_E} (k : ∀ Mc : x_M, dgF M o q m t m2 OB G P A hx z Mc → x_bk Mc a [c] → x_X K nL cells slots pc lv st Mc) : x_X K nL cells slots pc lv st (x_ov Mb a [c]) := k _ (hF c) x_ov_bk
theorem dg_set (hb : dgB M o q m t m2) {a : Nat} (ha : M.2 ≤ a) {Mc : x_M} {c : x_E} (F : dgF M o q m t m2 OB G P A hx z Mc) (hA : x_bk Mc a [c]) (k : ∀ Mb : x_M, (∀ c, dgF M o q m t m2 OB G P A hx z (x_ov Mb a [c])) → x_X K nL cells slots pc lv st (x_ov Mb a [c])) : x_X K nL cells slots pc lv st Mc := by
  have h := k Mc (fun c2 => dgF_ar hb F ha)
  rw [x_ov_self hA] at h
  exact h
end XDGF
