/-- the reading has been broken off at x -/
def t_bk (S : tS) (x : Int32) : Prop := S.1 11 3 = x ∧ ¬ x = -1
abbrev t_kb (f : tS → tS) : Prop := ∀ S x, t_bk S x → t_bk (f S) x
section XKBK
variable {D : tK}
theorem kb_adv : t_kb (t_adv D) := fun S x h => by
  refine ⟨?_, h.2⟩
  show h_u (h_u (h_u S.1 11 0 (S.1 11 0 + 1)) 11 1 (rgk 401 D.2.2.1 (S.1 11 1) (S.1 11 0 + 1))) 11 2 (rgk 401 D.2.2.2.1 (S.1 11 2) (S.1 11 0 + 1)) 11 3 = x
  rw [h_u_ne (by decide), h_u_ne (by decide), h_u_ne (by decide)]
  exact h.1
theorem kb_s {j : Nat} {y : Int32} (hj : (3 : Nat) ≠ j) : t_kb (fun S => t_s S j y) := fun S x h => by
  refine ⟨?_, h.2⟩
  show h_u S.1 11 j y 11 3 = x
  rw [h_u_ne hj]
  exact h.1
theorem kb_brk : t_kb t_brk := fun S x h => by
  unfold t_brk
  rw [if_neg (fun q => h.2 (h.1.symm.trans q))]
  exact kb_s (by decide) S x h
theorem kb_blame {e : Int32} : t_kb (fun S => t_blame S e) := fun S x h => by
  show t_bk (t_blame S e) x
  unfold t_blame
  split
  · exact kb_s (by decide) _ x (kb_s (by decide) S x h)
  · exact h
theorem kb_acc {k : Int32} : t_kb (fun S => t_acc D S k) := fun S x h => by
  show t_bk (t_acc D S k) x
  unfold t_acc
  split
  · exact kb_adv S x h
  · exact h
theorem kb_exp {k : Int32} : t_kb (fun S => t_exp D S k) := fun S x h => by
  show t_bk (t_exp D S k) x
  unfold t_exp
  split
  · exact kb_adv S x h
  · exact kb_brk S x h
theorem kb_deep {k d : Int32} : t_kb (fun S => t_deep D S k d) := fun S x h => by
  show t_bk (t_deep D S k d) x
  unfold t_deep
  split
  · exact kb_exp S x h
  · exact kb_brk S x h
theorem kb_code {k y : Int32} {S : tS} {x : Int32} (h : t_bk S x) : t_bk (t_code S k y) x := h
theorem kb_ord {a b c : Int32} {S : tS} {x : Int32} (h : t_bk S x) : t_bk (t_ord S a b c) x := h
theorem kb_row {r : Nat} {f : Nat → Int32} {S : tS} {x : Int32} (hr : (11 : Nat) ≠ r) (h : t_bk S x) : t_bk (t_row S r f) x := ⟨(congrFun (t_row_ne hr) 3).trans h.1, h.2⟩
theorem kb_cnt {j : Nat} {y : Int32} {S : tS} {x : Int32} (h : t_bk S x) : t_bk (t_cnt S j y) x := h
theorem kb_add0 : t_kb t_add0 := fun S x h => ⟨(h_u_ne (A := S.1) (k := 11) (j := 6) (x := n_ac 8 (S.1 11 6)) (show (3 : Nat) ≠ 6 by decide)).trans h.1, h.2⟩
theorem kb_add1 : t_kb t_add1 := fun S x h => ⟨(h_u_ne (A := S.1) (k := 11) (j := 7) (x := n_ac 6 (S.1 11 7)) (show (3 : Nat) ≠ 7 by decide)).trans h.1, h.2⟩
theorem kb_lk0 : t_kb t_lk0 := fun S x h => by
  unfold t_lk0
  split
  · exact kb_blame S x h
  · exact h
theorem kb_lk1 : t_kb t_lk1 := fun S x h => by
  unfold t_lk1
  split
  · exact kb_blame S x h
  · exact h
theorem kb_known0 : t_kb (t_known0 D) := fun S x h => kb_exp _ x (kb_lk0 S x h)
theorem kb_known1 : t_kb (t_known1 D) := fun S x h => kb_exp _ x (kb_lk1 S x h)
theorem kb_old : t_kb t_old := fun S x h => by
  unfold t_old
  split
  · split
    · exact h
    · exact kb_blame S x h
  · exact kb_blame S x h
theorem kb_full0 : t_kb t_full0 := fun S x h => by
  unfold t_full0
  split
  · exact kb_blame S x h
  · exact h
theorem kb_full1 : t_kb t_full1 := fun S x h => by
  unfold t_full1
  split
  · exact kb_blame S x h
  · exact h
theorem kb_new0 : t_kb (t_new0 D) := fun S x h => kb_exp _ x (kb_add0 _ x (kb_full0 _ x (kb_old S x h)))
theorem kb_new1 : t_kb (t_new1 D) := fun S x h => kb_exp _ x (kb_add1 _ x (kb_full1 _ x (kb_old S x h)))
theorem kb_dq : t_kb (t_dq D) := fun S x h => by
  unfold t_dq
  split
  · exact kb_acc S x h
  · exact kb_known0 _ x (kb_acc S x h)
theorem kb_vn {k : Int32} : t_kb (fun S => t_vn D S k) := fun S x h => by
  show t_bk (t_vn D S k) x
  unfold t_vn
  split
  · exact kb_code (kb_known0 _ x (kb_exp _ x (kb_adv S x h)))
  · exact kb_code (kb_known1 _ x (kb_exp _ x (kb_adv S x h)))
theorem kb_pair {d k : Int32} {fs : tS → tS} (hs : t_kb fs) : t_kb (fun S => t_pair D d fs S k) := fun S x h => by
  show t_bk (t_pair D d fs S k) x
  unfold t_pair
  split
  · exact kb_code (kb_exp _ x (hs _ x (kb_exp _ x (hs _ x (kb_deep S x h)))))
  · exact kb_deep S x h
theorem kb_val {d : Int32} {fv fs : tS → tS} (hv : t_kb fv) (hs : t_kb fs) : t_kb (t_val D d fv fs) := fun S x h => by
  unfold t_val
  split
  · exact kb_adv _ x (kb_code h)
  split
  · exact kb_adv _ x (kb_code h)
  split
  · exact kb_adv _ x (kb_code h)
  split
  · exact kb_adv _ x (kb_code h)
  split
  · exact kb_vn S x h
  split
  · exact kb_vn S x h
  split
  · split
    · exact kb_code (hv _ x (kb_deep S x h))
    · exact kb_deep S x h
  split
  · exact kb_pair hs _ x (kb_adv S x h)
  split
  · exact kb_pair hs _ x (kb_adv S x h)
  split
  · exact kb_exp _ x (hs _ x (kb_deep S x h))
  · exact kb_deep S x h
theorem kb_lpb {k1 k2 : Int32} {f : tS → tS} (hf : t_kb f) : ∀ n, t_kb (t_lpb D k1 k2 f n) := by
  intro n
  induction n with
  | zero => intro S x h; exact h
  | succ n ih =>
    intro S x h
    unfold t_lpb
    split
    · exact ih _ x (kb_code (hf _ x (kb_adv S x h)))
    split
    · exact ih _ x (kb_code (hf _ x (kb_adv S x h)))
    · exact h
theorem kb_prod {fv : tS → tS} (hv : t_kb fv) : t_kb (t_prod D fv) := fun S x h => kb_lpb hv 400 _ x (hv S x h)
theorem kb_sum {fv : tS → tS} (hv : t_kb fv) : t_kb (t_sum D fv) := fun S x h => kb_lpb (kb_prod hv) 400 _ x (kb_prod hv S x h)
theorem kb_sign : t_kb (t_sign D) := fun S x h => by
  unfold t_sign
  split
  · exact kb_adv S x h
  split
  · exact kb_adv S x h
  split
  · exact kb_adv S x h
  split
  · exact kb_adv S x h
  split
  · exact kb_adv S x h
  · exact kb_brk S x h
theorem kb_cmp {fs : tS → tS} (hs : t_kb fs) : t_kb (t_cmp D fs) := fun S x h => kb_code (hs _ x (kb_sign _ x (hs S x h)))
theorem kb_single {d : Int32} {fo ft fc : tS → tS} (ho : t_kb fo) (ht : t_kb ft) (hc : t_kb fc) : t_kb (t_single D d fo ft fc) := fun S x h => by
  unfold t_single
  split
  · split
    · exact kb_code (ho _ x (kb_deep S x h))
    · exact kb_deep S x h
  split
  · split
    · exact kb_exp _ x (ht _ x (kb_deep S x h))
    · exact kb_deep S x h
  split
  · exact kb_code (kb_dq _ x (kb_acc S x h))
  · exact hc _ x (kb_acc S x h)
theorem kb_lpa {k1 : Int32} {f : tS → tS} (hf : t_kb f) : ∀ n, t_kb (t_lpa D k1 f n) := by
  intro n
  induction n with
  | zero => intro S x h; exact h
  | succ n ih =>
    intro S x h
    unfold t_lpa
    split
    · exact ih _ x (kb_code (hf _ x (kb_acc S x h)))
    · exact kb_acc S x h
theorem kb_both {fo : tS → tS} (ho : t_kb fo) : t_kb (t_both D fo) := fun S x h => kb_lpa ho 400 _ x (ho S x h)
theorem kb_test {fo : tS → tS} (ho : t_kb fo) : t_kb (t_test D fo) := fun S x h => kb_lpa (kb_both ho) 400 _ x (kb_both ho S x h)
theorem kb_id : t_kb (id : tS → tS) := fun _ _ h => h
theorem kb_valN : ∀ w, t_kb (t_valN D w) := by
  intro w
  induction w with
  | zero => exact kb_val kb_id kb_id
  | succ w ih => exact kb_val ih (kb_sum ih)
theorem kb_sinN : ∀ w, t_kb (t_sinN D w) := by
  intro w
  induction w with
  | zero => exact kb_single kb_id kb_id (kb_cmp (kb_sum (kb_valN 0)))
  | succ w ih => exact kb_single ih (kb_test ih) (kb_cmp (kb_sum (kb_valN (w + 1))))
theorem kb_testN (w : Nat) : t_kb (t_testN D w) := kb_test (kb_sinN w)
theorem kb_dr1 : t_kb (t_dr1 D) := fun S x h => kb_exp _ x (kb_new0 S x h)
theorem kb_dr2 : t_kb t_dr2 := fun S x h => by
  unfold t_dr2
  split
  · exact h
  · exact kb_blame S x h
theorem kb_drone : t_kb (t_drone D) := fun S x h => kb_cnt (kb_row (by decide) (kb_exp _ x (kb_dr2 _ x (kb_dr1 S x h))))
theorem kb_pt2 {p : Int32} : t_kb (fun S => t_pt2 S p) := fun S x h => by
  show t_bk (t_pt2 S p) x
  unfold t_pt2
  split
  · exact h
  · exact kb_blame S x h
theorem kb_pt3 {a b c : Int32} : t_kb (fun S => t_pt3 S a b c) := fun S x h => by
  show t_bk (t_pt3 S a b c) x
  unfold t_pt3
  split
  · exact kb_blame S x h
  · exact h
theorem kb_pt6 : t_kb (t_pt6 D) := fun S x h => by
  unfold t_pt6
  split
  · exact kb_acc S x h
  · exact kb_exp _ x (kb_acc S x h)
theorem kb_pt7 : t_kb t_pt7 := fun S x h => by
  unfold t_pt7
  split
  · exact kb_blame S x h
  split
  · exact h
  · exact kb_blame S x h
theorem kb_pt9 {a b c y : Int32} {S : tS} {x : Int32} (h : t_bk S x) : t_bk (t_pt9 S a b c y) x := by
  unfold t_pt9
  split
  · exact h
  · exact kb_row (by decide) (kb_row (by decide) h)
theorem kb_pt5 {a b : Int32} : t_kb (fun S => t_pt5 D S a b) := fun S x h => kb_pt6 _ x (kb_exp _ x (kb_pt3 _ x (kb_pt2 _ x (kb_lk0 S x h))))
theorem kb_part {a b : Int32} : t_kb (fun S => t_part D S a b) := fun S x h => kb_pt9 (kb_exp _ x (kb_pt7 _ x (kb_pt5 S x h)))
theorem kb_dlp {deal : Int32} : ∀ (k : Nat) (p : Int32) (S : tS) (x : Int32), t_bk S x → t_bk (t_dlp D deal k p S).1 x := by
  intro k
  induction k with
  | zero => intro p S x h; exact h
  | succ k ih =>
    intro p S x h
    unfold t_dlp
    split
    · exact ih _ _ x (kb_part _ x (kb_acc S x h))
    · exact kb_acc S x h
theorem kb_deal : t_kb (t_deal D) := fun S x h => kb_cnt (kb_row (by decide) (kb_dlp 400 1 _ x (kb_part _ x (kb_exp _ x (kb_new1 S x h)))))
theorem kb_or1 : t_kb t_or1 := fun S x h => by
  unfold t_or1
  split
  · exact h
  · exact kb_blame S x h
theorem kb_or2 : t_kb (t_or2 D) := fun S x h => by
  unfold t_or2
  split
  · exact kb_known1 _ x (kb_acc S x h)
  split
  · exact kb_dq _ x (kb_acc _ x (kb_acc S x h))
  · exact kb_dq _ x (kb_exp _ x (kb_acc _ x (kb_acc S x h)))
theorem kb_or3 {ft : tS → tS} (hf : t_kb ft) : t_kb (t_or3 D ft) := fun S x h => by
  unfold t_or3
  split
  · exact hf _ x (kb_acc S x h)
  · exact kb_acc S x h
theorem kb_order {ft : tS → tS} (hf : t_kb ft) : t_kb (t_order D ft) := fun S x h => kb_ord (kb_or3 hf _ x (kb_or2 _ x (kb_or1 S x h)))
theorem kb_line {ft : tS → tS} (hf : t_kb ft) : t_kb (t_line D ft) := fun S x h => by
  unfold t_line
  split
  · exact kb_drone _ x (kb_acc S x h)
  split
  · exact kb_deal _ x (kb_acc _ x (kb_acc S x h))
  · exact kb_order hf _ x (kb_acc _ x (kb_acc S x h))
end XKBK
