def r_kdL (f : Nat → Int32) (n x : Nat) : Nat := k_run k_isW f (n - (x + 1)) (x + 1)
def r_kdD (f : Nat → Int32) (n x : Nat) : Nat := k_run k_isD f (n - (x + 1)) (x + 1)
def r_lng (f : Nat → Int32) (n x : Nat) : Bool := (decide (f x = 60) || decide (f x = 62)) && decide (r_by f n (x + 1) = 61)
def r_sy1 (c : Int32) : Int32 := if 0 < c then (if c < 128 then (if s_ix c.toNatClampNeg k_SYM 0 < 0 then 901 else 50 + c) else 901) else 901
/-- a token's kind, its length (the length stays as it was at the end) -/
def r_kd9 (f : Nat → Int32) (n x : Nat) : Int32 × Nat :=
  if k_isL (f x) = true then (if 10 < r_kdL f n x - x then 901 else r_word f x (r_kdL f n x - x), r_kdL f n x - x)
  else if k_isD (f x) = true then (if 6 < r_kdD f n x - x then 901 else 41, r_kdD f n x - x)
  else if r_lng f n x = true then (if f x = 60 then 300 else 301, 2) else (r_sy1 (f x), 1)
def y_E (E : rE) (i : Nat) (m : Nat) : rE := (E.1, h_u E.2 14 i (nI m))
def r_run (L : Bool) (f : Nat → Int32) (n x : Nat) : Nat := if L = true then r_kdL f n x else r_kdD f n x
theorem r_runE {L : Bool} {f : Nat → Int32} {n x : Nat} : r_run L f n x = k_run (fun c => k_isD c || (L && k_isL c)) f (n - (x + 1)) (x + 1) := by
  unfold r_run r_kdL r_kdD
  have e : (fun c => k_isD c || (true && k_isL c)) = k_isW := by
    funext c
    unfold k_isW
    rw [Bool.true_and, Bool.or_comm]
  have e2 : (fun c => k_isD c || (false && k_isL c)) = k_isD := by
    funext c
    rw [Bool.false_and, Bool.or_false]
  cases L
  · rw [if_neg Bool.false_ne_true, e2]
  · rw [if_pos rfl, e]
theorem r_runLe {L : Bool} {f : Nat → Int32} {n x : Nat} (h : x < n) : x + 1 ≤ r_run L f n x ∧ r_run L f n x ≤ n := by
  rw [r_runE]
  have := k_run_le (q := fun c => k_isD c || (L && k_isL c)) (f := f) (n - (x + 1)) (x + 1)
  omega
section XRK
variable {M : x_M} {o r : Nat} {E : rE} {R : rS}
theorem rH_my (hd : o + 7 ≤ r) {i m : Nat} : x_st (rH M o r E R) (o + 4) (.inl (0, 401, .inl (upd (E.2 14) i (nI m)))) = rH M o r (y_E E i m) R := rH_so hd 4 (y_E E i m) R rfl rfl (by decide)
end XRK
