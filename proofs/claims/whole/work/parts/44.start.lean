/-- the start told is no -1 (so that a break shows) -/
def t_in (S : tS) : Prop := ¬ S.1 11 2 = -1
def t_dk (D : tK) : Prop := ∀ j, ¬ D.2.2.2.1 j = -1
theorem t_in_adv {D : tK} (hD : t_dk D) {S : tS} (h : t_in S) : t_in (t_adv D S) := by
  show ¬ rgk 401 D.2.2.2.1 (S.1 11 2) (S.1 11 0 + 1) = -1
  unfold rgk
  split
  · exact h
  · exact hD _
theorem t_in_s {S : tS} {j : Nat} {x : Int32} (hj : j ≠ 2) (h : t_in S) : t_in (t_s S j x) := by
  show ¬ h_u S.1 11 j x 11 2 = -1
  rw [h_u_ne (Ne.symm hj)]
  exact h
theorem t_in_brk {S : tS} (h : t_in S) : t_in (t_brk S) := by
  unfold t_brk
  split
  · exact t_in_s (by decide) (t_in_s (by decide) h)
  · exact t_in_s (by decide) h
theorem t_in_blame {S : tS} {e : Int32} (h : t_in S) : t_in (t_blame S e) := by
  unfold t_blame
  split
  · exact t_in_s (by decide) (t_in_s (by decide) h)
  · exact h
theorem t_in_acc {D : tK} (hD : t_dk D) {S : tS} {k : Int32} (h : t_in S) : t_in (t_acc D S k) := by
  unfold t_acc
  split
  · exact t_in_adv hD h
  · exact h
theorem t_in_exp {D : tK} (hD : t_dk D) {S : tS} {k : Int32} (h : t_in S) : t_in (t_exp D S k) := by
  unfold t_exp
  split
  · exact t_in_adv hD h
  · exact t_in_brk h
theorem t_in_deep {D : tK} (hD : t_dk D) {S : tS} {k d : Int32} (h : t_in S) : t_in (t_deep D S k d) := by
  unfold t_deep
  split
  · exact t_in_exp hD h
  · exact t_in_brk h
theorem t_in_code {S : tS} {k x : Int32} (h : t_in S) : t_in (t_code S k x) := h
theorem t_in_lk0 {S : tS} (h : t_in S) : t_in (t_lk0 S) := by
  unfold t_lk0
  split
  · exact t_in_blame h
  · exact h
theorem t_in_lk1 {S : tS} (h : t_in S) : t_in (t_lk1 S) := by
  unfold t_lk1
  split
  · exact t_in_blame h
  · exact h
theorem t_in_known0 {D : tK} (hD : t_dk D) {S : tS} (h : t_in S) : t_in (t_known0 D S) := t_in_exp hD (t_in_lk0 h)
theorem t_in_known1 {D : tK} (hD : t_dk D) {S : tS} (h : t_in S) : t_in (t_known1 D S) := t_in_exp hD (t_in_lk1 h)
theorem t_in_dq {D : tK} (hD : t_dk D) {S : tS} (h : t_in S) : t_in (t_dq D S) := by
  unfold t_dq
  split
  · exact t_in_acc hD h
  · exact t_in_known0 hD (t_in_acc hD h)
theorem t_deep_lt {D : tK} {S : tS} {k d : Int32} (hi : t_in S) (h : (t_deep D S k d).1 11 3 = -1) : d < 8 := by
  refine Decidable.byContradiction (fun q => ?_)
  unfold t_deep at h
  rw [if_neg q] at h
  unfold t_brk at h
  by_cases e : S.1 11 3 = -1
  · rw [if_pos e] at h
    exact hi h
  · rw [if_neg e] at h
    exact e h
theorem t_in_vn {D : tK} (hD : t_dk D) {S : tS} {k : Int32} (h : t_in S) : t_in (t_vn D S k) := by
  unfold t_vn
  split
  · exact t_in_code (t_in_known0 hD (t_in_exp hD (t_in_adv hD h)))
  · exact t_in_code (t_in_known1 hD (t_in_exp hD (t_in_adv hD h)))
abbrev t_ki (f : tS → tS) : Prop := ∀ S, t_in S → t_in (f S)
theorem t_in_pair {D : tK} (hD : t_dk D) {d k : Int32} {fs : tS → tS} {S : tS} (hs : d < 8 → t_ki fs) (h : t_in S) : t_in (t_pair D d fs S k) := by
  unfold t_pair
  split
  · rename_i q
    have h8 := hs (t_deep_lt h q)
    exact t_in_code (t_in_exp hD (h8 _ (t_in_exp hD (h8 _ (t_in_deep hD h)))))
  · exact t_in_deep hD h
theorem t_in_val {D : tK} (hD : t_dk D) {d : Int32} {fv fs : tS → tS} (hv : d < 8 → t_ki fv) (hs : d < 8 → t_ki fs) : t_ki (t_val D d fv fs) := by
  intro S h
  unfold t_val
  split
  · exact t_in_adv hD (t_in_code h)
  split
  · exact t_in_adv hD (t_in_code h)
  split
  · exact t_in_adv hD (t_in_code h)
  split
  · exact t_in_adv hD (t_in_code h)
  split
  · exact t_in_vn hD h
  split
  · exact t_in_vn hD h
  split
  · split
    · rename_i q
      exact t_in_code (hv (t_deep_lt h q) _ (t_in_deep hD h))
    · exact t_in_deep hD h
  split
  · exact t_in_pair hD hs (t_in_adv hD h)
  split
  · exact t_in_pair hD hs (t_in_adv hD h)
  split
  · rename_i q
    exact t_in_exp hD (hs (t_deep_lt h q) _ (t_in_deep hD h))
  · exact t_in_deep hD h
theorem t_in_lpb {D : tK} (hD : t_dk D) {k1 k2 : Int32} {f : tS → tS} (hf : t_ki f) : ∀ n, t_ki (t_lpb D k1 k2 f n) := by
  intro n
  induction n with
  | zero => intro S h; exact h
  | succ n ih =>
    intro S h
    unfold t_lpb
    split
    · exact ih _ (t_in_code (hf _ (t_in_adv hD h)))
    split
    · exact ih _ (t_in_code (hf _ (t_in_adv hD h)))
    · exact h
theorem t_in_prod {D : tK} (hD : t_dk D) {fv : tS → tS} (hv : t_ki fv) : t_ki (t_prod D fv) := fun S h => t_in_lpb hD hv 400 _ (hv S h)
theorem t_in_sum {D : tK} (hD : t_dk D) {fv : tS → tS} (hv : t_ki fv) : t_ki (t_sum D fv) := fun S h => t_in_lpb hD (t_in_prod hD hv) 400 _ (t_in_prod hD hv S h)
theorem t_in_sign {D : tK} (hD : t_dk D) {S : tS} (h : t_in S) : t_in (t_sign D S) := by
  unfold t_sign
  split
  · exact t_in_adv hD h
  split
  · exact t_in_adv hD h
  split
  · exact t_in_adv hD h
  split
  · exact t_in_adv hD h
  split
  · exact t_in_adv hD h
  · exact t_in_brk h
theorem t_in_cmp {D : tK} (hD : t_dk D) {fs : tS → tS} (hs : t_ki fs) : t_ki (t_cmp D fs) := fun S h => t_in_code (hs _ (t_in_sign hD (hs S h)))
theorem t_in_single {D : tK} (hD : t_dk D) {d : Int32} {fo ft fc : tS → tS} (ho : d < 8 → t_ki fo) (ht : d < 8 → t_ki ft) (hc : t_ki fc) : t_ki (t_single D d fo ft fc) := by
  intro S h
  unfold t_single
  split
  · split
    · rename_i q
      exact t_in_code (ho (t_deep_lt h q) _ (t_in_deep hD h))
    · exact t_in_deep hD h
  split
  · split
    · rename_i q
      exact t_in_exp hD (ht (t_deep_lt h q) _ (t_in_deep hD h))
    · exact t_in_deep hD h
  split
  · exact t_in_code (t_in_dq hD (t_in_acc hD h))
  · exact hc _ (t_in_acc hD h)
theorem t_in_lpa {D : tK} (hD : t_dk D) {k1 : Int32} {f : tS → tS} (hf : t_ki f) : ∀ n, t_ki (t_lpa D k1 f n) := by
  intro n
  induction n with
  | zero => intro S h; exact h
  | succ n ih =>
    intro S h
    unfold t_lpa
    split
    · exact ih _ (t_in_code (hf _ (t_in_acc hD h)))
    · exact t_in_acc hD h
theorem t_in_both {D : tK} (hD : t_dk D) {fo : tS → tS} (ho : t_ki fo) : t_ki (t_both D fo) := fun S h => t_in_lpa hD ho 400 _ (ho S h)
theorem t_in_test {D : tK} (hD : t_dk D) {fo : tS → tS} (ho : t_ki fo) : t_ki (t_test D fo) := fun S h => t_in_lpa hD (t_in_both hD ho) 400 _ (t_in_both hD ho S h)
/-- a method of the Teacher at some depth does f -/
def tCt (l : Launch) (Y0 : x_Y) (y : MethodName) (cc : ByteArray) (nL d b : Nat) (D : tK) (Q : HS) (k : Int32) (f : tS → tS) : Prop := ∀ (M : x_M) (S : tS), t_in S → x_bk M b (tcT b D Q S) → x_C l Y0 y cc nL none d 0 0 [.ref (b + 42), .int k] M (fun u M1 => u = none ∧ M1 = tX M b D Q (f S))
