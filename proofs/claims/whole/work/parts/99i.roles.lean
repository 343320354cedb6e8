/-- a test gives its tokens no other roles than those of names -/
def jr (R R' : rS) : Prop := R.1.1 ≤ R'.1.1 ∧ (∀ i, i < R.1.1 → R'.2.2.2.1 i = R.2.2.2.1 i) ∧ ∀ i, R'.2.2.2.1 i = R.2.2.2.1 i ∨ R'.2.2.2.1 i = 5 ∨ R'.2.2.2.1 i = 6
abbrev jrF (f : rF) : Prop := ∀ R, jr R (f R).1
section XJR
variable {T : rT} {R R' R'' : rS}
theorem jr_eq (h : R'.2.2.2.1 = R.2.2.2.1) (ht : R.1.1 ≤ R'.1.1) : jr R R' := ⟨ht, fun i _ => congrFun h i, fun i => Or.inl (congrFun h i)⟩
theorem jr_rf : jr R R := jr_eq rfl (Nat.le_refl _)
theorem jr_tr (a : jr R R') (b : jr R' R'') : jr R R'' := by
  obtain ⟨a1, a2, a3⟩ := a
  obtain ⟨b1, b2, b3⟩ := b
  refine ⟨Nat.le_trans a1 b1, fun i hi => (b2 i (by omega)).trans (a2 i hi), fun i => ?_⟩
  rcases b3 i with h | h
  · rw [h]; exact a3 i
  · exact Or.inr h
theorem jr_adv : jr R (r_adv R) := jr_eq rfl (Nat.le_succ _)
theorem jr_eat {k : Int32} : jr R (r_eat T R k) := by
  unfold r_eat
  split
  · exact jr_adv
  · exact jr_rf
theorem jr_deep : jr R (r_deep R) := by
  unfold r_deep
  split
  · exact jr_rf
  · exact jr_eq rfl (Nat.le_succ _)
theorem jr_role {a : Int32} (h : a = 5 ∨ a = 6) : jr R (r_role R a) := by
  refine ⟨Nat.le_refl _, fun i hi => upd_ne (by omega), fun i => ?_⟩
  by_cases e : i = R.1.1
  · rw [e]
    show upd R.2.2.2.1 R.1.1 a R.1.1 = _ ∨ upd R.2.2.2.1 R.1.1 a R.1.1 = 5 ∨ upd R.2.2.2.1 R.1.1 a R.1.1 = 6
    rw [upd_at]
    exact Or.inr h
  · exact Or.inl (upd_ne e)
theorem jr_name {a : Int32} (h : a = 5 ∨ a = 6) : jr R (r_name T R a) := by
  unfold r_name r_eatAs
  exact jr_tr (R' := r_put (r_opn R) (nI R.1.1)) (jr_eq rfl (Nat.le_refl _)) (jr_tr (jr_role h) jr_eat)
theorem jr_56 {k : Int32} : (if k = 1 then (5 : Int32) else 6) = 5 ∨ (if k = 1 then (5 : Int32) else 6) = 6 := by
  by_cases h : k = 1
  · rw [if_pos h]; exact Or.inl rfl
  · rw [if_neg h]; exact Or.inr rfl
theorem jr_vn {k : Int32} : jr R (r_vn T R k).1 := by
  unfold r_vn
  split
  · exact jr_tr (R' := r_adv (r_put R k)) (jr_eq rfl (Nat.le_succ _)) (jr_tr jr_eat (jr_name jr_56))
  · exact jr_tr (R' := r_adv (r_put R k)) (jr_eq rfl (Nat.le_succ _)) jr_eat
theorem jr_gp {x : Int32} {e : rI} (h : jr R R') : jr R (r_gh (r_put R' x) e) := jr_tr h (jr_eq rfl (Nat.le_refl _))
theorem jr_gu {x : Int32} {e : rI} (h : jr R R') : jr R (r_gh (r_put (r_up R') x) e) := jr_tr h (jr_eq rfl (Nat.le_refl _))
theorem jr_ins {fs : rF} {k : Int32} {two : Bool} (hf : jrF fs) : jr R (r_ins T fs R k two).1 := by
  unfold r_ins
  split
  · split
    · exact jr_deep
    · split
      · split
        · split
          · split
            · exact jr_tr (jr_gu (jr_tr (jr_tr jr_deep (hf _)) (jr_tr jr_eat (hf _)))) jr_eat
            · exact jr_tr (jr_tr jr_deep (hf _)) (jr_tr jr_eat (hf _))
          · exact jr_tr (jr_tr jr_deep (hf _)) jr_eat
        · exact jr_tr (jr_tr jr_deep (hf _)) (jr_tr (R' := r_up (fs (r_deep R)).1) (jr_eq rfl (Nat.le_refl _)) jr_eat)
      · exact jr_tr jr_deep (hf _)
  · exact jr_rf
theorem jr_val {fv fs : rF} (hv : jrF fv) (hf : jrF fs) : jrF (r_val T fv fs) := by
  intro R
  unfold r_val
  split
  · exact jr_eq rfl (Nat.le_succ _)
  split
  · exact jr_eq rfl (Nat.le_succ _)
  split
  · exact jr_vn
  split
  · exact jr_vn
  split
  · split
    · exact jr_deep
    · split
      · exact jr_gu (jr_tr jr_deep (hv _))
      · exact jr_tr jr_deep (hv _)
  split
  · exact jr_tr jr_eat (jr_ins hf)
  split
  · exact jr_tr jr_eat (jr_tr jr_eat (jr_ins hf))
  · exact jr_tr jr_eat (jr_tr jr_eat (jr_ins hf))
theorem jr_lpb {k1 k2 p1 p2 : Int32} {n1 n2 : Nat} {f : rF} (hf : jrF f) : ∀ w, jrF (r_lpb T k1 k2 p1 p2 n1 n2 f w) := by
  intro w
  induction w with
  | zero => intro R; exact jr_rf
  | succ w ih =>
    intro R
    unfold r_lpb
    split
    · split
      · exact jr_tr (jr_gp (jr_tr jr_adv (hf _))) (ih _)
      · exact jr_tr jr_adv (hf _)
    split
    · split
      · exact jr_tr (jr_gp (jr_tr jr_adv (hf _))) (ih _)
      · exact jr_tr jr_adv (hf _)
    · exact jr_rf
theorem jr_lpa {k1 : Int32} {n1 : Nat} {f : rF} (hf : jrF f) : ∀ w, jrF (r_lpa T k1 n1 f w) := by
  intro w
  induction w with
  | zero => intro R; exact jr_rf
  | succ w ih =>
    intro R
    unfold r_lpa
    split
    · split
      · exact jr_tr (jr_gp (jr_tr jr_eat (hf _))) (ih _)
      · exact jr_tr jr_eat (hf _)
    · exact jr_eat
theorem jr_prod {f : rF} (hf : jrF f) : jrF (r_prod T f) := by
  intro R
  unfold r_prod
  split
  · exact jr_tr (hf _) (jr_lpb hf 401 _)
  · exact hf _
theorem jr_sum {f : rF} (hf : jrF f) : jrF (r_sum T f) := by
  intro R
  unfold r_sum
  split
  · exact jr_tr (jr_prod hf _) (jr_lpb (jr_prod hf) 401 _)
  · exact jr_prod hf _
theorem jr_both {f : rF} (hf : jrF f) : jrF (r_both T f) := by
  intro R
  unfold r_both
  split
  · exact jr_tr (hf _) (jr_lpa hf 401 _)
  · exact hf _
theorem jr_test {f : rF} (hf : jrF f) : jrF (r_test T f) := by
  intro R
  unfold r_test
  split
  · exact jr_tr (jr_both hf _) (jr_lpa (jr_both hf) 401 _)
  · exact jr_both hf _
theorem jr_cmp {f : rF} (hf : jrF f) : jrF (r_cmp T f) := by
  intro R
  unfold r_cmp
  split
  · split
    · exact hf _
    · split
      · exact jr_gp (jr_tr (hf _) (jr_tr jr_adv (hf _)))
      · exact jr_tr (hf _) (jr_tr jr_adv (hf _))
  · exact hf _
theorem jr_awk : jr R (r_awk T R).1 := by
  unfold r_awk
  split
  · exact jr_eq rfl (Nat.le_succ _)
  · exact jr_tr (R' := r_put R 16) (jr_eq rfl (Nat.le_refl _)) (jr_tr (jr_name (Or.inl rfl)) (jr_eq rfl (Nat.le_refl _)))
theorem jr_single {fo ft fs : rF} (ho : jrF fo) (ht : jrF ft) (hs : jrF fs) : jrF (r_single T fo ft fs) := by
  intro R
  unfold r_single
  split
  · split
    · exact jr_deep
    · split
      · exact jr_gu (jr_tr jr_deep (ho _))
      · exact jr_tr jr_deep (ho _)
  split
  · split
    · exact jr_deep
    · split
      · exact jr_tr (jr_tr jr_deep (ht _)) (jr_tr (R' := r_up (ft (r_deep R)).1) (jr_eq rfl (Nat.le_refl _)) jr_eat)
      · exact jr_tr jr_deep (ht _)
  split
  · exact jr_tr jr_eat jr_awk
  · exact jr_tr jr_eat (jr_cmp hs _)
theorem jr_valN : ∀ w, jrF (r_valN T w) := by
  intro w
  induction w with
  | zero => exact jr_val (fun _ => jr_rf) (fun _ => jr_rf)
  | succ w ih => exact jr_val ih (jr_sum ih)
theorem jr_sinN : ∀ w, jrF (r_sinN T w) := by
  intro w
  induction w with
  | zero => exact jr_single (fun _ => jr_rf) (fun _ => jr_rf) (jr_sum (jr_valN 0))
  | succ w ih => exact jr_single ih (jr_test ih) (jr_sum (jr_valN (w + 1)))
theorem jr_testN (w : Nat) : jrF (r_testN T w) := jr_test (jr_sinN w)
/-- so the counts stay -/
theorem jr_cnt {N : Nat} {a : Int32} (h : jr R R') (hz : ∀ i, R.1.1 ≤ i → i ≤ N → R.2.2.2.1 i = 0) (hN : R'.1.1 ≤ N) (a0 : (0 : Int32) ≠ a) (a5 : (5 : Int32) ≠ a) (a6 : (6 : Int32) ≠ a) : cnt R'.2.2.2.1 a R'.1.1 = cnt R.2.2.2.1 a R.1.1 := by
  obtain ⟨h1, h2, h3⟩ := h
  have key : ∀ d, R.1.1 + d ≤ R'.1.1 → cnt R'.2.2.2.1 a (R.1.1 + d) = cnt R.2.2.2.1 a R.1.1 := by
    intro d
    induction d with
    | zero => intro _; exact cnt_loc R.1.1 h2
    | succ d ih =>
      intro hd
      have e : R'.2.2.2.1 (R.1.1 + d) ≠ a := by
        rcases h3 (R.1.1 + d) with q | q | q
        · rw [q, hz _ (by omega) (by omega)]; exact a0
        · rw [q]; exact a5
        · rw [q]; exact a6
      exact (cnt_n e).trans (ih (by omega))
  have := key (R'.1.1 - R.1.1) (by omega)
  rw [show R.1.1 + (R'.1.1 - R.1.1) = R'.1.1 by omega] at this
  exact this
end XJR
