/-- x is the place of a fault, as long as there is none -/
def t_zf (S : tS) (x : Int32) : Prop := S.1 11 4 = 0 → S.1 11 5 = x
abbrev t_zb (f : tS → tS) : Prop := ∀ S x, t_zf S x → t_zf (f S) x
section XZB
variable {D : tK}
theorem zb_adv : t_zb (t_adv D) := fun S x h => by
  unfold t_zf
  rw [t_adv_11 (by decide) (by decide) (by decide), t_adv_11 (by decide) (by decide) (by decide)]
  exact h
theorem zb_brk : t_zb t_brk := fun S x h => by
  unfold t_brk t_zf
  by_cases c : S.1 11 3 = -1
  · rw [if_pos c]
    show h_u (h_u S.1 11 3 (S.1 11 2)) 11 1 1 11 4 = 0 → h_u (h_u S.1 11 3 (S.1 11 2)) 11 1 1 11 5 = x
    rw [h_u_ne (by decide), h_u_ne (by decide), h_u_ne (by decide), h_u_ne (by decide)]
    exact h
  · rw [if_neg c]
    show h_u S.1 11 1 1 11 4 = 0 → h_u S.1 11 1 1 11 5 = x
    rw [h_u_ne (by decide), h_u_ne (by decide)]
    exact h
theorem zb_blame0 {e : Int32} (he : ¬ e = 0) {S : tS} {x : Int32} (h : t_zf S x) : t_zf (t_blame S e) x := by
  by_cases c : S.1 11 4 = 0
  · obtain ⟨y1, y2⟩ := t_blame_yes (S := S) (e := e) c
    intro q
    rw [y1] at q
    exact absurd q he
  · rw [t_blame_no c]
    exact h
theorem zb_acc {k : Int32} : t_zb (fun S => t_acc D S k) := fun S x h => by
  show t_zf (t_acc D S k) x
  unfold t_acc
  split
  · exact zb_adv S x h
  · exact h
theorem zb_exp {k : Int32} : t_zb (fun S => t_exp D S k) := fun S x h => by
  show t_zf (t_exp D S k) x
  unfold t_exp
  split
  · exact zb_adv S x h
  · exact zb_brk S x h
theorem zb_deep {k d : Int32} : t_zb (fun S => t_deep D S k d) := fun S x h => by
  show t_zf (t_deep D S k d) x
  unfold t_deep
  split
  · exact zb_exp S x h
  · exact zb_brk S x h
theorem zb_code {k y : Int32} {S : tS} {x : Int32} (h : t_zf S x) : t_zf (t_code S k y) x := h
theorem zb_ord {a b c : Int32} {S : tS} {x : Int32} (h : t_zf S x) : t_zf (t_ord S a b c) x := h
theorem zb_row {r : Nat} {f : Nat → Int32} {S : tS} {x : Int32} (hr : (11 : Nat) ≠ r) (h : t_zf S x) : t_zf (t_row S r f) x := by
  unfold t_zf
  rw [t_row_ne hr]
  exact h
theorem zb_cnt {j : Nat} {y : Int32} {S : tS} {x : Int32} (h : t_zf S x) : t_zf (t_cnt S j y) x := h
theorem zb_add0 : t_zb t_add0 := fun S x h => by
  unfold t_zf
  rw [add0_11 (by decide), add0_11 (by decide)]
  exact h
theorem zb_add1 : t_zb t_add1 := fun S x h => by
  unfold t_zf
  rw [add1_11 (by decide), add1_11 (by decide)]
  exact h
theorem zb_lk0 : t_zb t_lk0 := fun S x h => by
  unfold t_lk0
  split
  · exact zb_blame0 (by decide) h
  · exact h
theorem zb_lk1 : t_zb t_lk1 := fun S x h => by
  unfold t_lk1
  split
  · exact zb_blame0 (by decide) h
  · exact h
theorem zb_known0 : t_zb (t_known0 D) := fun S x h => zb_exp _ x (zb_lk0 S x h)
theorem zb_known1 : t_zb (t_known1 D) := fun S x h => zb_exp _ x (zb_lk1 S x h)
theorem zb_old : t_zb t_old := fun S x h => by
  unfold t_old
  split
  · split
    · exact h
    · exact zb_blame0 (by decide) h
  · exact zb_blame0 (by decide) h
theorem zb_full0 : t_zb t_full0 := fun S x h => by
  unfold t_full0
  split
  · exact zb_blame0 (by decide) h
  · exact h
theorem zb_full1 : t_zb t_full1 := fun S x h => by
  unfold t_full1
  split
  · exact zb_blame0 (by decide) h
  · exact h
theorem zb_new0 : t_zb (t_new0 D) := fun S x h => zb_exp _ x (zb_add0 _ x (zb_full0 _ x (zb_old S x h)))
theorem zb_new1 : t_zb (t_new1 D) := fun S x h => zb_exp _ x (zb_add1 _ x (zb_full1 _ x (zb_old S x h)))
theorem zb_dq : t_zb (t_dq D) := fun S x h => by
  unfold t_dq
  split
  · exact zb_acc S x h
  · exact zb_known0 _ x (zb_acc S x h)
theorem zb_vn {k : Int32} : t_zb (fun S => t_vn D S k) := fun S x h => by
  show t_zf (t_vn D S k) x
  unfold t_vn
  split
  · exact zb_code (zb_known0 _ x (zb_exp _ x (zb_adv S x h)))
  · exact zb_code (zb_known1 _ x (zb_exp _ x (zb_adv S x h)))
theorem zb_pair {d k : Int32} {fs : tS → tS} (hs : t_zb fs) : t_zb (fun S => t_pair D d fs S k) := fun S x h => by
  show t_zf (t_pair D d fs S k) x
  unfold t_pair
  split
  · exact zb_code (zb_exp _ x (hs _ x (zb_exp _ x (hs _ x (zb_deep S x h)))))
  · exact zb_deep S x h
theorem zb_val {d : Int32} {fv fs : tS → tS} (hv : t_zb fv) (hs : t_zb fs) : t_zb (t_val D d fv fs) := fun S x h => by
  unfold t_val
  split
  · exact zb_adv _ x (zb_code h)
  split
  · exact zb_adv _ x (zb_code h)
  split
  · exact zb_adv _ x (zb_code h)
  split
  · exact zb_adv _ x (zb_code h)
  split
  · exact zb_vn S x h
  split
  · exact zb_vn S x h
  split
  · split
    · exact zb_code (hv _ x (zb_deep S x h))
    · exact zb_deep S x h
  split
  · exact zb_pair hs _ x (zb_adv S x h)
  split
  · exact zb_pair hs _ x (zb_adv S x h)
  split
  · exact zb_exp _ x (hs _ x (zb_deep S x h))
  · exact zb_deep S x h
theorem zb_lpb {k1 k2 : Int32} {f : tS → tS} (hf : t_zb f) : ∀ n, t_zb (t_lpb D k1 k2 f n) := by
  intro n
  induction n with
  | zero => intro S x h; exact h
  | succ n ih =>
    intro S x h
    unfold t_lpb
    split
    · exact ih _ x (zb_code (hf _ x (zb_adv S x h)))
    split
    · exact ih _ x (zb_code (hf _ x (zb_adv S x h)))
    · exact h
theorem zb_prod {fv : tS → tS} (hv : t_zb fv) : t_zb (t_prod D fv) := fun S x h => zb_lpb hv 400 _ x (hv S x h)
theorem zb_sum {fv : tS → tS} (hv : t_zb fv) : t_zb (t_sum D fv) := fun S x h => zb_lpb (zb_prod hv) 400 _ x (zb_prod hv S x h)
theorem zb_sign : t_zb (t_sign D) := fun S x h => by
  unfold t_sign
  split
  · exact zb_adv S x h
  split
  · exact zb_adv S x h
  split
  · exact zb_adv S x h
  split
  · exact zb_adv S x h
  split
  · exact zb_adv S x h
  · exact zb_brk S x h
theorem zb_cmp {fs : tS → tS} (hs : t_zb fs) : t_zb (t_cmp D fs) := fun S x h => zb_code (hs _ x (zb_sign _ x (hs S x h)))
theorem zb_single {d : Int32} {fo ft fc : tS → tS} (ho : t_zb fo) (ht : t_zb ft) (hc : t_zb fc) : t_zb (t_single D d fo ft fc) := fun S x h => by
  unfold t_single
  split
  · split
    · exact zb_code (ho _ x (zb_deep S x h))
    · exact zb_deep S x h
  split
  · split
    · exact zb_exp _ x (ht _ x (zb_deep S x h))
    · exact zb_deep S x h
  split
  · exact zb_code (zb_dq _ x (zb_acc S x h))
  · exact hc _ x (zb_acc S x h)
theorem zb_lpa {k1 : Int32} {f : tS → tS} (hf : t_zb f) : ∀ n, t_zb (t_lpa D k1 f n) := by
  intro n
  induction n with
  | zero => intro S x h; exact h
  | succ n ih =>
    intro S x h
    unfold t_lpa
    split
    · exact ih _ x (zb_code (hf _ x (zb_acc S x h)))
    · exact zb_acc S x h
theorem zb_both {fo : tS → tS} (ho : t_zb fo) : t_zb (t_both D fo) := fun S x h => zb_lpa ho 400 _ x (ho S x h)
theorem zb_test {fo : tS → tS} (ho : t_zb fo) : t_zb (t_test D fo) := fun S x h => zb_lpa (zb_both ho) 400 _ x (zb_both ho S x h)
theorem zb_id : t_zb (id : tS → tS) := fun _ _ h => h
theorem zb_valN : ∀ w, t_zb (t_valN D w) := by
  intro w
  induction w with
  | zero => exact zb_val zb_id zb_id
  | succ w ih => exact zb_val ih (zb_sum ih)
theorem zb_sinN : ∀ w, t_zb (t_sinN D w) := by
  intro w
  induction w with
  | zero => exact zb_single zb_id zb_id (zb_cmp (zb_sum (zb_valN 0)))
  | succ w ih => exact zb_single ih (zb_test ih) (zb_cmp (zb_sum (zb_valN (w + 1))))
theorem zb_testN (w : Nat) : t_zb (t_testN D w) := zb_test (zb_sinN w)
theorem zb_dr1 : t_zb (t_dr1 D) := fun S x h => zb_exp _ x (zb_new0 S x h)
theorem zb_dr2 : t_zb t_dr2 := fun S x h => by
  unfold t_dr2
  split
  · exact h
  · exact zb_blame0 (by decide) h
theorem zb_drone : t_zb (t_drone D) := fun S x h => zb_cnt (zb_row (by decide) (zb_exp _ x (zb_dr2 _ x (zb_dr1 S x h))))
theorem zb_pt2 {p : Int32} : t_zb (fun S => t_pt2 S p) := fun S x h => by
  show t_zf (t_pt2 S p) x
  unfold t_pt2
  split
  · exact h
  · exact zb_blame0 (by decide) h
theorem zb_pt3 {a b c : Int32} : t_zb (fun S => t_pt3 S a b c) := fun S x h => by
  show t_zf (t_pt3 S a b c) x
  unfold t_pt3
  split
  · exact zb_blame0 (by decide) h
  · exact h
theorem zb_pt6 : t_zb (t_pt6 D) := fun S x h => by
  unfold t_pt6
  split
  · exact zb_acc S x h
  · exact zb_exp _ x (zb_acc S x h)
theorem zb_pt7 : t_zb t_pt7 := fun S x h => by
  unfold t_pt7
  split
  · exact zb_blame0 (by decide) h
  split
  · exact h
  · exact zb_blame0 (by decide) h
theorem zb_pt9 {a b c y : Int32} {S : tS} {x : Int32} (h : t_zf S x) : t_zf (t_pt9 S a b c y) x := by
  unfold t_pt9
  split
  · exact h
  · exact zb_row (by decide) (zb_row (by decide) h)
theorem zb_pt5 {a b : Int32} : t_zb (fun S => t_pt5 D S a b) := fun S x h => zb_pt6 _ x (zb_exp _ x (zb_pt3 _ x (zb_pt2 _ x (zb_lk0 S x h))))
theorem zb_part {a b : Int32} : t_zb (fun S => t_part D S a b) := fun S x h => zb_pt9 (zb_exp _ x (zb_pt7 _ x (zb_pt5 S x h)))
theorem zb_dlp {deal : Int32} : ∀ (k : Nat) (p : Int32) (S : tS) (x : Int32), t_zf S x → t_zf (t_dlp D deal k p S).1 x := by
  intro k
  induction k with
  | zero => intro p S x h; exact h
  | succ k ih =>
    intro p S x h
    unfold t_dlp
    split
    · exact ih _ _ x (zb_part _ x (zb_acc S x h))
    · exact zb_acc S x h
theorem zb_deal : t_zb (t_deal D) := fun S x h => zb_cnt (zb_row (by decide) (zb_dlp 400 1 _ x (zb_part _ x (zb_exp _ x (zb_new1 S x h)))))
theorem zb_or1 : t_zb t_or1 := fun S x h => by
  unfold t_or1
  split
  · exact h
  · exact zb_blame0 (by decide) h
theorem zb_or2 : t_zb (t_or2 D) := fun S x h => by
  unfold t_or2
  split
  · exact zb_known1 _ x (zb_acc S x h)
  split
  · exact zb_dq _ x (zb_acc _ x (zb_acc S x h))
  · exact zb_dq _ x (zb_exp _ x (zb_acc _ x (zb_acc S x h)))
theorem zb_or3 {ft : tS → tS} (hf : t_zb ft) : t_zb (t_or3 D ft) := fun S x h => by
  unfold t_or3
  split
  · exact hf _ x (zb_acc S x h)
  · exact zb_acc S x h
theorem zb_order {ft : tS → tS} (hf : t_zb ft) : t_zb (t_order D ft) := fun S x h => zb_ord (zb_or3 hf _ x (zb_or2 _ x (zb_or1 S x h)))
theorem zb_line {ft : tS → tS} (hf : t_zb ft) : t_zb (t_line D ft) := fun S x h => by
  unfold t_line
  split
  · exact zb_drone _ x (zb_acc S x h)
  split
  · exact zb_deal _ x (zb_acc _ x (zb_acc S x h))
  · exact zb_order hf _ x (zb_acc _ x (zb_acc S x h))
theorem zb_lines {ft : tS → tS} (hf : t_zb ft) : ∀ k, t_zb (t_lines D ft k) := by
  intro k
  induction k with
  | zero => intro S x h; exact h
  | succ k ih =>
    intro S x h
    unfold t_lines
    split
    · exact h
    split
    · exact ih _ x (zb_exp _ x (zb_line hf S x h))
    · exact h
end XZB
