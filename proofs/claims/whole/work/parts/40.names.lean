theorem b_n {A : Prop} [Decidable A] (h : (if A then (1 : Int32) else 0) = 0) : ¬ A := fun a => by rw [if_pos a] at h; exact absurd h (by decide)
theorem b_y {A : Prop} [Decidable A] (h : ¬ (if A then (1 : Int32) else 0) = 0) : A := Decidable.byContradiction (fun a => h (if_neg a))
/-- what the Teacher knows: rows 0 to 10 the draft's; 11: 0 index, 1 kind, 2 start, 3 brokenAt, 4 fault, 5 faultAt, 6 how many drone names, 7 deal names; then the names' words, and the token's value -/
abbrev tS : Type := HS × (Nat → Int64) × (Nat → Int64) × Int64
/-- what stays: the tape's address, next, valueRead; keywords, kinds, starts, values -/
abbrev tK : Type := (Nat × Int32 × Int64) × (Nat → Int64) × (Nat → Int32) × (Nat → Int32) × (Nat → Int64)
def rgL (n : Nat) (f : Nat → Int64) (i : Int32) : Int64 := if i < 0 ∨ n ≤ i.toNatClampNeg then 0 else f i.toNatClampNeg
/-- a row read where it has such a place; else what stood there -/
def rgk {α : Type} (n : Nat) (f : Nat → α) (x : α) (i : Int32) : α := if i < 0 ∨ n ≤ i.toNatClampNeg then x else f i.toNatClampNeg
theorem rgk_t {α : Type} {n : Nat} {f : Nat → α} {x : α} {i : Int32} (h : i < 0 ∨ n ≤ i.toNatClampNeg) : rgk n f x i = x := if_pos h
theorem rgk_f {α : Type} {n : Nat} {f : Nat → α} {x : α} {i : Int32} (h : ¬ i < 0) (h2 : i.toNatClampNeg < n) : rgk n f x i = f i.toNatClampNeg := if_neg (fun q => q.elim h (Nat.not_le.mpr h2))
theorem rgk_0 {f : Nat → Int32} {x : Int32} : rgk 401 f x 0 = rg 401 f 0 := by unfold rgk rg; rw [if_neg (by decide), if_neg (by decide)]
theorem rgk_0L {f : Nat → Int64} {x : Int64} : rgk 401 f x 0 = rgL 401 f 0 := by unfold rgk rgL; rw [if_neg (by decide), if_neg (by decide)]
/-- Names: a row of words, how many -/
def nmT (r n : Nat) (w : Nat → Int64) (c : Int32) : List x_E := [.inr (1, [.ref (r + 1), .int c]), .inl (1, n, .inr (.inl w))]
def n_fd (n : Nat) (w : Nat → Int64) (c : Int32) (x : Int64) : Nat → Nat → Int32
  | 0, _ => -1
  | k + 1, i => if c ≤ nI i then -1 else if nI n ≤ nI i then -1 else if w i = x then nI i else n_fd n w c x k (i + 1)
def n_find (n : Nat) (w : Nat → Int64) (c : Int32) (x : Int64) : Int32 := n_fd n w c x (n + 1) 0
def n_aw (n : Nat) (w : Nat → Int64) (c : Int32) (x : Int64) : Nat → Int64 := if c < 0 then w else if nI n ≤ c then w else vp_updL w c.toNatClampNeg x
def n_ac (n : Nat) (c : Int32) : Int32 := if c < 0 then c else if nI n ≤ c then c else c + 1
/-- the Teacher's cells, from b + 42 on; the draft's begin at b -/
def teT (b : Nat) (D : tK) (S : tS) : List x_E :=
  [.inr (6, [.ref (b + 47), .ref b, .ref (b + 43), .ref (b + 45), .int (S.1 11 3), .int (S.1 11 4), .int (S.1 11 5)]),
   .inr (1, [.ref (b + 44), .int (S.1 11 6)]), .inl (1, 8, .inr (.inl S.2.1)),
   .inr (1, [.ref (b + 46), .int (S.1 11 7)]), .inl (1, 6, .inr (.inl S.2.2.1)),
   .inr (7, [.ref D.1.1, .ref (b + 48), .ref (b + 49), .ref (b + 50), .ref (b + 51), .int D.1.2.1, .long D.1.2.2, .int (S.1 11 0), .int (S.1 11 1), .int (S.1 11 2), .long S.2.2.2]),
   .inl (1, 22, .inr (.inl D.2.1)), .inl (0, 401, .inl D.2.2.1), .inl (0, 401, .inl D.2.2.2.1), .inl (1, 401, .inr (.inl D.2.2.2.2))]
/-- all cells from the draft to the Teacher's last; Q: the told plan, which the Teacher leaves alone -/
def tcT (b : Nat) (D : tK) (Q : HS) (S : tS) : List x_E := plT b S.1 ++ (plT (b + 21) Q ++ teT b D S)
theorem tc_len {b : Nat} {D : tK} {Q : HS} {S S' : tS} : (tcT b D Q S).length = (tcT b D Q S').length := (show (tcT b D Q S).length = 52 from rfl).trans (show (tcT b D Q S').length = 52 from rfl).symm
def t_s (S : tS) (j : Nat) (x : Int32) : tS := (h_u S.1 11 j x, S.2)
def t_adv (D : tK) (S : tS) : tS := (h_u (h_u (h_u S.1 11 0 (S.1 11 0 + 1)) 11 1 (rgk 401 D.2.2.1 (S.1 11 1) (S.1 11 0 + 1))) 11 2 (rgk 401 D.2.2.2.1 (S.1 11 2) (S.1 11 0 + 1)), S.2.1, S.2.2.1, rgk 401 D.2.2.2.2 S.2.2.2 (S.1 11 0 + 1))
def t_brk (S : tS) : tS := t_s (if S.1 11 3 = -1 then t_s S 3 (S.1 11 2) else S) 1 1
def t_blame (S : tS) (e : Int32) : tS := if S.1 11 4 = 0 then t_s (t_s S 4 e) 5 (S.1 11 2) else S
def t_acc (D : tK) (S : tS) (k : Int32) : tS := if S.1 11 1 = k then t_adv D S else S
def t_exp (D : tK) (S : tS) (k : Int32) : tS := if S.1 11 1 = k then t_adv D S else t_brk S
def t_deep (D : tK) (S : tS) (k d : Int32) : tS := if d < 8 then t_exp D S k else t_brk S
def t_code (S : tS) (k x : Int32) : tS := (q_addCode S.1 k x, S.2)
def t_ord (S : tS) (v t s : Int32) : tS := (q_addOrder S.1 v t s, S.2)
def t_fd0 (S : tS) : Int32 := n_find 8 (S.2.1) (S.1 11 6) S.2.2.2
def t_add0 (S : tS) : tS := (h_u S.1 11 6 (n_ac 8 (S.1 11 6)), n_aw 8 S.2.1 (S.1 11 6) S.2.2.2, S.2.2)
def t_lk0 (S : tS) : tS := if t_fd0 S = -1 then t_blame S 3 else S
def t_known0 (D : tK) (S : tS) : tS := t_exp D (t_lk0 S) 2
def t_fd1 (S : tS) : Int32 := n_find 6 (S.2.2.1) (S.1 11 7) S.2.2.2
def t_add1 (S : tS) : tS := (h_u S.1 11 7 (n_ac 6 (S.1 11 7)), S.2.1, n_aw 6 S.2.2.1 (S.1 11 7) S.2.2.2, S.2.2.2)
def t_lk1 (S : tS) : tS := if t_fd1 S = -1 then t_blame S 3 else S
def t_known1 (D : tK) (S : tS) : tS := t_exp D (t_lk1 S) 2
def t_old (S : tS) : tS := if t_fd0 S = -1 then (if t_fd1 S = -1 then S else t_blame S 2) else t_blame S 2
def t_full0 (S : tS) : tS := if nI 8 ≤ S.1 11 6 then t_blame S 4 else S
def t_new0 (D : tK) (S : tS) : tS := t_exp D (t_add0 (t_full0 (t_old S))) 2
def t_full1 (S : tS) : tS := if nI 6 ≤ S.1 11 7 then t_blame S 4 else S
def t_new1 (D : tK) (S : tS) : tS := t_exp D (t_add1 (t_full1 (t_old S))) 2
def t_dq (D : tK) (S : tS) : tS := if S.1 11 1 = 265 then t_acc D S 265 else t_known0 D (t_acc D S 265)
def t_dqv (D : tK) (S : tS) : Int32 := if S.1 11 1 = 265 then 8 else t_fd0 (t_acc D S 265)

def tX (M : x_M) (b : Nat) (D : tK) (Q : HS) (S : tS) : x_M := x_ov M b (tcT b D Q S)
def t_row (S : tS) (r : Nat) (f : Nat → Int32) : tS := (q_r S.1 r f, S.2)
def t_cnt (S : tS) (j : Nat) (x : Int32) : tS := (h_u S.1 10 j x, S.2)
theorem t_row_ne {S : tS} {r r' : Nat} {f : Nat → Int32} (h : r' ≠ r) : (t_row S r f).1 r' = S.1 r' := if_neg h
def t_v (S : tS) (v : Int64) : tS := (S.1, S.2.1, S.2.2.1, v)
def t_clr (S : tS) : tS := (q_clear S.1, S.2)
theorem tc_len2 {b : Nat} {D D' : tK} {Q Q' : HS} {S S' : tS} : (tcT b D Q S).length = (tcT b D' Q' S').length := (show (tcT b D Q S).length = 52 from rfl).trans (show (tcT b D' Q' S').length = 52 from rfl).symm
section XTX
variable {M : x_M} {b : Nat} {D D' : tK} {Q Q' : HS} {S S' : tS}
theorem tX_self (h : x_bk M b (tcT b D Q S)) : tX M b D Q S = M := x_ov_self h
theorem tX_bk : x_bk (tX M b D Q S) b (tcT b D Q S) := x_ov_bk
theorem tX_tX : tX (tX M b D Q S) b D' Q' S' = tX M b D' Q' S' := x_ov_ov tc_len2
theorem tX_g0 : (tX M b D Q S).1 b = some (.inr (2, [.int (S.1 10 0), .int (S.1 10 1), .int (S.1 10 2), .int (S.1 10 3), .ref (b + 1), .ref (b + 3), .ref (b + 5), .ref (b + 7), .ref (b + 9), .ref (b + 11), .ref (b + 13), .ref (b + 15), .ref (b + 17), .ref (b + 19)])) := x_ovg 0 rfl
theorem tX_g42 : (tX M b D Q S).1 (b + 42) = some (.inr (6, [.ref (b + 47), .ref b, .ref (b + 43), .ref (b + 45), .int (S.1 11 3), .int (S.1 11 4), .int (S.1 11 5)])) := x_ovg 42 rfl
theorem tX_g43 : (tX M b D Q S).1 (b + 43) = some (.inr (1, [.ref (b + 44), .int (S.1 11 6)])) := x_ovg 43 rfl
theorem tX_g45 : (tX M b D Q S).1 (b + 45) = some (.inr (1, [.ref (b + 46), .int (S.1 11 7)])) := x_ovg 45 rfl
theorem tX_g47 : (tX M b D Q S).1 (b + 47) = some (.inr (7, [.ref D.1.1, .ref (b + 48), .ref (b + 49), .ref (b + 50), .ref (b + 51), .int D.1.2.1, .long D.1.2.2, .int (S.1 11 0), .int (S.1 11 1), .int (S.1 11 2), .long S.2.2.2])) := x_ovg 47 rfl
theorem tX_g1 : (tX M b D Q S).1 (b + 1) = some (.inr (4, [.ref (b + 1 + 1)])) := x_ovg 1 rfl
theorem tX_g3 : (tX M b D Q S).1 (b + 3) = some (.inr (4, [.ref (b + 3 + 1)])) := x_ovg 3 rfl
theorem tX_g5 : (tX M b D Q S).1 (b + 5) = some (.inr (4, [.ref (b + 5 + 1)])) := x_ovg 5 rfl
theorem tX_g7 : (tX M b D Q S).1 (b + 7) = some (.inr (4, [.ref (b + 7 + 1)])) := x_ovg 7 rfl
theorem tX_g51 : (tX M b D Q S).1 (b + 51) = some (.inl (1, 401, .inr (.inl D.2.2.2.2))) := x_ovg 51 rfl
theorem tX_g49 : (tX M b D Q S).1 (b + 49) = some (.inl (0, 401, .inl D.2.2.1)) := x_ovg 49 rfl
theorem tX_g50 : (tX M b D Q S).1 (b + 50) = some (.inl (0, 401, .inl D.2.2.2.1)) := x_ovg 50 rfl
theorem tX_b1 : x_bk (tX M b D Q S) (b + 1) (rowL (b + 1) 8 (S.1 0)) := x_bk_sub x_ov_bk 1 rfl
theorem tX_b3 : x_bk (tX M b D Q S) (b + 3) (rowL (b + 3) 6 (S.1 1)) := x_bk_sub x_ov_bk 3 rfl
theorem tX_b5 : x_bk (tX M b D Q S) (b + 5) (rowL (b + 5) 36 (S.1 2)) := x_bk_sub x_ov_bk 5 rfl
theorem tX_b7 : x_bk (tX M b D Q S) (b + 7) (rowL (b + 7) 36 (S.1 3)) := x_bk_sub x_ov_bk 7 rfl
theorem tX_n43 : x_bk (tX M b D Q S) (b + 43) (nmT (b + 43) 8 S.2.1 (S.1 11 6)) := x_bk_sub x_ov_bk 43 rfl
theorem tX_n45 : x_bk (tX M b D Q S) (b + 45) (nmT (b + 45) 6 S.2.2.1 (S.1 11 7)) := x_bk_sub x_ov_bk 45 rfl
theorem tX_pl : x_bk (tX M b D Q S) b (plT b S.1) := x_bk_sub x_ov_bk 0 rfl
theorem tX_code {k x : Int32} : x_ov (tX M b D Q S) b (plT b (q_addCode S.1 k x)) = tX M b D Q (t_code S k x) := (x_ov_in 0 (Nat.le_of_ble_eq_true rfl)).trans (congrArg (x_ov M b) rfl)
theorem tX_ord {v t s : Int32} : x_ov (tX M b D Q S) b (plT b (q_addOrder S.1 v t s)) = tX M b D Q (t_ord S v t s) := (x_ov_in 0 (Nat.le_of_ble_eq_true rfl)).trans (congrArg (x_ov M b) rfl)
theorem tX_clr : x_ov (tX M b D Q S) b (plT b (q_clear S.1)) = tX M b D Q (t_clr S) := (x_ov_in 0 (Nat.le_of_ble_eq_true rfl)).trans (congrArg (x_ov M b) rfl)
theorem tX_a0 : x_ov (tX M b D Q S) (b + 43) (nmT (b + 43) 8 (n_aw 8 S.2.1 (S.1 11 6) S.2.2.2) (n_ac 8 (S.1 11 6))) = tX M b D Q (t_add0 S) := (x_ov_in 43 (Nat.le_of_ble_eq_true rfl)).trans (congrArg (x_ov M b) rfl)
theorem tX_a1 : x_ov (tX M b D Q S) (b + 45) (nmT (b + 45) 6 (n_aw 6 S.2.2.1 (S.1 11 7) S.2.2.2) (n_ac 6 (S.1 11 7))) = tX M b D Q (t_add1 S) := (x_ov_in 45 (Nat.le_of_ble_eq_true rfl)).trans (congrArg (x_ov M b) rfl)
theorem tX_s3 {x : Int32} : x_st (tX M b D Q S) (b + 42) (.inr (6, ([.ref (b + 47), .ref b, .ref (b + 43), .ref (b + 45), .int (S.1 11 3), .int (S.1 11 4), .int (S.1 11 5)] : List Value).set 4 (.int x))) = tX M b D Q (t_s S 3 x) := (x_st_ov 42 (Nat.le_of_ble_eq_true rfl)).trans (congrArg (x_ov M b) rfl)
theorem tX_s4 {x : Int32} : x_st (tX M b D Q S) (b + 42) (.inr (6, ([.ref (b + 47), .ref b, .ref (b + 43), .ref (b + 45), .int (S.1 11 3), .int (S.1 11 4), .int (S.1 11 5)] : List Value).set 5 (.int x))) = tX M b D Q (t_s S 4 x) := (x_st_ov 42 (Nat.le_of_ble_eq_true rfl)).trans (congrArg (x_ov M b) rfl)
theorem tX_s5 {x : Int32} : x_st (tX M b D Q S) (b + 42) (.inr (6, ([.ref (b + 47), .ref b, .ref (b + 43), .ref (b + 45), .int (S.1 11 3), .int (S.1 11 4), .int (S.1 11 5)] : List Value).set 6 (.int x))) = tX M b D Q (t_s S 5 x) := (x_st_ov 42 (Nat.le_of_ble_eq_true rfl)).trans (congrArg (x_ov M b) rfl)
theorem tX_s0 {x : Int32} : x_st (tX M b D Q S) (b + 47) (.inr (7, ([.ref D.1.1, .ref (b + 48), .ref (b + 49), .ref (b + 50), .ref (b + 51), .int D.1.2.1, .long D.1.2.2, .int (S.1 11 0), .int (S.1 11 1), .int (S.1 11 2), .long S.2.2.2] : List Value).set 7 (.int x))) = tX M b D Q (t_s S 0 x) := (x_st_ov 47 (Nat.le_of_ble_eq_true rfl)).trans (congrArg (x_ov M b) rfl)
theorem tX_s1 {x : Int32} : x_st (tX M b D Q S) (b + 47) (.inr (7, ([.ref D.1.1, .ref (b + 48), .ref (b + 49), .ref (b + 50), .ref (b + 51), .int D.1.2.1, .long D.1.2.2, .int (S.1 11 0), .int (S.1 11 1), .int (S.1 11 2), .long S.2.2.2] : List Value).set 8 (.int x))) = tX M b D Q (t_s S 1 x) := (x_st_ov 47 (Nat.le_of_ble_eq_true rfl)).trans (congrArg (x_ov M b) rfl)
theorem tX_s2 {x : Int32} : x_st (tX M b D Q S) (b + 47) (.inr (7, ([.ref D.1.1, .ref (b + 48), .ref (b + 49), .ref (b + 50), .ref (b + 51), .int D.1.2.1, .long D.1.2.2, .int (S.1 11 0), .int (S.1 11 1), .int (S.1 11 2), .long S.2.2.2] : List Value).set 9 (.int x))) = tX M b D Q (t_s S 2 x) := (x_st_ov 47 (Nat.le_of_ble_eq_true rfl)).trans (congrArg (x_ov M b) rfl)
theorem tX_sv {x : Int64} : x_st (tX M b D Q S) (b + 47) (.inr (7, ([.ref D.1.1, .ref (b + 48), .ref (b + 49), .ref (b + 50), .ref (b + 51), .int D.1.2.1, .long D.1.2.2, .int (S.1 11 0), .int (S.1 11 1), .int (S.1 11 2), .long S.2.2.2] : List Value).set 10 (.long x))) = tX M b D Q (t_v S x) := (x_st_ov 47 (Nat.le_of_ble_eq_true rfl)).trans (congrArg (x_ov M b) rfl)
theorem tX_s6 {x : Int32} : x_st (tX M b D Q S) (b + 43) (.inr (1, ([.ref (b + 44), .int (S.1 11 6)] : List Value).set 1 (.int x))) = tX M b D Q (t_s S 6 x) := (x_st_ov 43 (Nat.le_of_ble_eq_true rfl)).trans (congrArg (x_ov M b) rfl)
theorem tX_s7 {x : Int32} : x_st (tX M b D Q S) (b + 45) (.inr (1, ([.ref (b + 46), .int (S.1 11 7)] : List Value).set 1 (.int x))) = tX M b D Q (t_s S 7 x) := (x_st_ov 45 (Nat.le_of_ble_eq_true rfl)).trans (congrArg (x_ov M b) rfl)
theorem tX_c0 {x : Int32} : x_st (tX M b D Q S) b (.inr (2, ([.int (S.1 10 0), .int (S.1 10 1), .int (S.1 10 2), .int (S.1 10 3), .ref (b + 1), .ref (b + 3), .ref (b + 5), .ref (b + 7), .ref (b + 9), .ref (b + 11), .ref (b + 13), .ref (b + 15), .ref (b + 17), .ref (b + 19)] : List Value).set 0 (.int x))) = tX M b D Q (t_cnt S 0 x) := (x_st_ov 0 (Nat.le_of_ble_eq_true rfl)).trans (congrArg (x_ov M b) rfl)
theorem tX_c1 {x : Int32} : x_st (tX M b D Q S) b (.inr (2, ([.int (S.1 10 0), .int (S.1 10 1), .int (S.1 10 2), .int (S.1 10 3), .ref (b + 1), .ref (b + 3), .ref (b + 5), .ref (b + 7), .ref (b + 9), .ref (b + 11), .ref (b + 13), .ref (b + 15), .ref (b + 17), .ref (b + 19)] : List Value).set 1 (.int x))) = tX M b D Q (t_cnt S 1 x) := (x_st_ov 0 (Nat.le_of_ble_eq_true rfl)).trans (congrArg (x_ov M b) rfl)
theorem tX_r1 {f : Nat → Int32} : x_st (tX M b D Q S) (b + 1 + 1) (.inl (0, 8, .inl f)) = tX M b D Q (t_row S 0 f) := (x_st_ov 2 (Nat.le_of_ble_eq_true rfl)).trans (congrArg (x_ov M b) rfl)
theorem tX_r3 {f : Nat → Int32} : x_st (tX M b D Q S) (b + 3 + 1) (.inl (0, 6, .inl f)) = tX M b D Q (t_row S 1 f) := (x_st_ov 4 (Nat.le_of_ble_eq_true rfl)).trans (congrArg (x_ov M b) rfl)
theorem tX_r5 {f : Nat → Int32} : x_st (tX M b D Q S) (b + 5 + 1) (.inl (0, 36, .inl f)) = tX M b D Q (t_row S 2 f) := (x_st_ov 6 (Nat.le_of_ble_eq_true rfl)).trans (congrArg (x_ov M b) rfl)
theorem tX_r7 {f : Nat → Int32} : x_st (tX M b D Q S) (b + 7 + 1) (.inl (0, 36, .inl f)) = tX M b D Q (t_row S 3 f) := (x_st_ov 8 (Nat.le_of_ble_eq_true rfl)).trans (congrArg (x_ov M b) rfl)
end XTX
/-- a drone's line -/
def t_dr1 (D : tK) (S : tS) : tS := t_exp D (t_new0 D S) 257
def t_dr2 (S : tS) : tS := if S.2.2.2.toInt32 ≤ 60 then S else t_blame S 5
def t_dr3 (S : tS) (x : Int32) : tS := t_cnt (t_row S 0 (rs 8 (S.1 0) (S.1 11 6 - 1) x)) 0 (S.1 11 6)
def t_drone (D : tK) (S : tS) : tS := t_dr3 (t_exp D (t_dr2 (t_dr1 D S)) 3) (t_dr1 D S).2.2.2.toInt32
/-- a part -/
def t_hs (Q : Nat → Int32) (deal parts f : Int32) : Nat → Nat → Bool
  | 0, _ => false
  | k + 1, i => if parts ≤ nI i then false else if 6 ≤ nI i then false else if rg 36 Q (deal * 6 + nI i) = f then true else t_hs Q deal parts f k (i + 1)
def t_has (S : tS) (deal parts f : Int32) : Bool := t_hs (S.1 2) deal parts f 7 0
def t_pt2 (S : tS) (part : Int32) : tS := if part < 6 then S else t_blame S 4
def t_pt3 (S : tS) (deal part f : Int32) : tS := if t_has S deal part f = true then t_blame S 5 else S
def t_pt6 (D : tK) (S : tS) : tS := if S.1 11 1 = 260 then t_acc D S 260 else t_exp D (t_acc D S 260) 261
def t_pt7 (S : tS) : tS := if S.2.2.2.toInt32 < 1 then t_blame S 5 else if S.2.2.2.toInt32 ≤ 20 then S else t_blame S 5
def t_pt9 (S : tS) (deal part f x : Int32) : tS := if 6 ≤ part then S else t_row (t_row S 2 (rs 36 (S.1 2) (deal * 6 + part) f)) 3 (rs 36 (S.1 3) (deal * 6 + part) x)
def t_pt4 (D : tK) (S : tS) (deal part : Int32) : tS := t_exp D (t_pt3 (t_pt2 (t_lk0 S) part) deal part (t_fd0 S)) 2
def t_pt5 (D : tK) (S : tS) (deal part : Int32) : tS := t_pt6 D (t_pt4 D S deal part)
def t_ptx (D : tK) (S : tS) (deal part : Int32) : Int32 := if (t_pt4 D S deal part).1 11 1 = 260 then -(t_pt5 D S deal part).2.2.2.toInt32 else (t_pt5 D S deal part).2.2.2.toInt32
def t_part (D : tK) (S : tS) (deal part : Int32) : tS := t_pt9 (t_exp D (t_pt7 (t_pt5 D S deal part)) 3) deal part (t_fd0 S) (t_ptx D S deal part)
/-- a deal's line -/
def t_dl1 (D : tK) (S : tS) : tS := t_exp D (t_new1 D S) 259
def t_dlp (D : tK) (deal : Int32) : Nat → Int32 → tS → tS × Int32
  | 0, p, S => (S, p)
  | k + 1, p, S => if S.1 11 1 = 44 then t_dlp D deal k (p + 1) (t_part D (t_acc D S 44) deal p) else (t_acc D S 44, p)
def t_dl3 (S : tS) (deal p : Int32) : tS := t_cnt (t_row S 1 (rs 6 (S.1 1) deal p)) 1 (S.1 11 7)
def t_dl2 (D : tK) (S : tS) : tS × Int32 := t_dlp D ((t_dl1 D S).1 11 7 - 1) 400 1 (t_part D (t_dl1 D S) ((t_dl1 D S).1 11 7 - 1) 0)
def t_deal (D : tK) (S : tS) : tS := t_dl3 (t_dl2 D S).1 ((t_dl1 D S).1 11 7 - 1) (t_dl2 D S).2
/-- values, sums, tests; fv, fs ..: what is done one deeper -/
def t_pair (D : tK) (d : Int32) (fs : tS → tS) (S : tS) (k : Int32) : tS := if (t_deep D S 40 d).1 11 3 = -1 then t_code (t_exp D (fs (t_exp D (fs (t_deep D S 40 d)) 44)) 41) k 0 else t_deep D S 40 d
def t_vn (D : tK) (S : tS) (k : Int32) : tS := if k = 257 then t_code (t_known0 D (t_exp D (t_adv D S) 271)) k (t_fd0 (t_exp D (t_adv D S) 271)) else t_code (t_known1 D (t_exp D (t_adv D S) 271)) k (t_fd1 (t_exp D (t_adv D S) 271))
def t_val (D : tK) (d : Int32) (fv fs : tS → tS) (S : tS) : tS :=
  if S.1 11 1 = 3 then t_adv D (t_code S 3 S.2.2.2.toInt32)
  else if S.1 11 1 = 267 then t_adv D (t_code S (S.1 11 1) 0)
  else if S.1 11 1 = 268 then t_adv D (t_code S (S.1 11 1) 0)
  else if S.1 11 1 = 269 then t_adv D (t_code S (S.1 11 1) 0)
  else if S.1 11 1 = 257 then t_vn D S (S.1 11 1)
  else if S.1 11 1 = 270 then t_vn D S (S.1 11 1)
  else if S.1 11 1 = 45 then (if (t_deep D S 45 d).1 11 3 = -1 then t_code (fv (t_deep D S 45 d)) 4 0 else t_deep D S 45 d)
  else if S.1 11 1 = 276 then t_pair D d fs (t_adv D S) (S.1 11 1)
  else if S.1 11 1 = 277 then t_pair D d fs (t_adv D S) (S.1 11 1)
  else if (t_deep D S 40 d).1 11 3 = -1 then t_exp D (fs (t_deep D S 40 d)) 41 else t_deep D S 40 d
def t_lpb (D : tK) (k1 k2 : Int32) (f : tS → tS) : Nat → tS → tS
  | 0, S => S
  | k + 1, S => if S.1 11 1 = k1 then t_lpb D k1 k2 f k (t_code (f (t_adv D S)) (S.1 11 1) 0) else if S.1 11 1 = k2 then t_lpb D k1 k2 f k (t_code (f (t_adv D S)) (S.1 11 1) 0) else S
def t_prod (D : tK) (fv : tS → tS) (S : tS) : tS := t_lpb D 42 47 fv 400 (fv S)
def t_sum (D : tK) (fv : tS → tS) (S : tS) : tS := t_lpb D 43 45 (t_prod D fv) 400 (t_prod D fv S)
def t_sign (D : tK) (S : tS) : tS := if S.1 11 1 = 60 then t_adv D S else if S.1 11 1 = 62 then t_adv D S else if S.1 11 1 = 61 then t_adv D S else if S.1 11 1 = 188 then t_adv D S else if S.1 11 1 = 190 then t_adv D S else t_brk S
def t_cmp (D : tK) (fs : tS → tS) (S : tS) : tS := t_code (fs (t_sign D (fs S))) ((fs S).1 11 1) 0
def t_single (D : tK) (d : Int32) (fo ft fc : tS → tS) (S : tS) : tS :=
  if S.1 11 1 = 273 then (if (t_deep D S 273 d).1 11 3 = -1 then t_code (fo (t_deep D S 273 d)) 273 0 else t_deep D S 273 d)
  else if S.1 11 1 = 91 then (if (t_deep D S 91 d).1 11 3 = -1 then t_exp D (ft (t_deep D S 91 d)) 93 else t_deep D S 91 d)
  else if S.1 11 1 = 272 then t_code (t_dq D (t_acc D S 272)) 272 (t_dqv D (t_acc D S 272))
  else fc (t_acc D S 272)
def t_lpa (D : tK) (k1 : Int32) (f : tS → tS) : Nat → tS → tS
  | 0, S => S
  | k + 1, S => if S.1 11 1 = k1 then t_lpa D k1 f k (t_code (f (t_acc D S k1)) k1 0) else t_acc D S k1
def t_both (D : tK) (fo : tS → tS) (S : tS) : tS := t_lpa D 274 fo 400 (fo S)
def t_test (D : tK) (fo : tS → tS) (S : tS) : tS := t_lpa D 275 (t_both D fo) 400 (t_both D fo S)
/-- an order's line -/
def t_or1 (S : tS) : tS := if S.1 10 2 < 16 then S else t_blame S 4
def t_or2 (D : tK) (S : tS) : tS := if S.1 11 1 = 262 then t_known1 D (t_acc D S 262) else if (t_acc D S 262).1 11 1 = 263 then t_dq D (t_acc D (t_acc D S 262) 263) else t_dq D (t_exp D (t_acc D (t_acc D S 262) 263) 264)
def t_orv (D : tK) (S : tS) : Int32 := if S.1 11 1 = 262 then t_fd1 (t_acc D S 262) else if (t_acc D S 262).1 11 1 = 263 then t_dqv D (t_acc D (t_acc D S 262) 263) else t_dqv D (t_exp D (t_acc D (t_acc D S 262) 263) 264)
def t_or3 (D : tK) (ft : tS → tS) (S : tS) : tS := if S.1 11 1 = 266 then ft (t_acc D S 266) else t_acc D S 266
def t_order (D : tK) (ft : tS → tS) (S : tS) : tS := t_ord (t_or3 D ft (t_or2 D (t_or1 S))) ((t_or1 S).1 11 1) (t_orv D (t_or1 S)) ((t_or2 D (t_or1 S)).1 10 3)
/-- a line, lines -/
def t_line (D : tK) (ft : tS → tS) (S : tS) : tS :=
  if S.1 11 1 = 256 then t_drone D (t_acc D S 256) else if (t_acc D S 256).1 11 1 = 258 then t_deal D (t_acc D (t_acc D S 256) 258) else t_order D ft (t_acc D (t_acc D S 256) 258)
def t_lines (D : tK) (ft : tS → tS) : Nat → tS → tS
  | 0, S => S
  | k + 1, S => if S.1 11 1 = 0 then S else if S.1 11 3 = -1 then t_lines D ft k (t_exp D (t_line D ft S) 59) else S

set_option maxHeartbeats 4000000 in
set_option maxRecDepth 100000 in
theorem c_X1_find {l : Launch} {Y0 : x_Y} (hO : x_Ok Y0) {M : x_M} {r n : Nat} {w : Nat → Int64} {c : Int32} (hn : n < 2 ^ 30) (hb : x_bk M r (nmT r n w c)) {x : Int64} : x_C l Y0 yX1_find cX1_find 4 (some .int) 1 0 0 [.ref r, .long x] M (fun u M1 => u = some (.int (n_find n w c x)) ∧ M1 = M) := by
  refine x_start hO (by decide +kernel) (Nat.le_of_ble_eq_true rfl) (fun K C E => ?_)
  have lp : ∀ (k i : Nat) (z : Int32), i + k = n + 1 → z = nI i → n_find n w c x = n_fd n w c x k i → x_X K 4 0 0 2 [(0, .ref r), (1, .long x), (3, .int z)] [] M := by
    intro k
    induction k with
    | zero =>
      intro i z hi hz hq
      subst hz
      refine x_iload_n C dX1_find_2 rfl rfl ?_
      refine x_aload_n C dX1_find_3 rfl rfl ?_
      refine x_getfield C dX1_find_4 fX1_15 (hb 0 _ rfl) rfl ?_
      refine x_icmp_ge (tgt := 38) C dX1_find_7 (by decide) (fun c7 => ?_) (fun c7 => ?_)
      · refine x_iconst (v := (-1)) C dX1_find_38 (by decide) ?_
        refine x_iret C E dX1_find_39 ?_
        exact ⟨by rw [hq]; first | rfl | (simp only [n_fd, if_pos c7]; done) | (simp only [n_fd, if_pos c7]; rfl) | fail, rfl⟩
      · refine x_iload_n C dX1_find_10 rfl rfl ?_
        refine x_aload_n C dX1_find_11 rfl rfl ?_
        refine x_getfield C dX1_find_12 fX1_9 (hb 0 _ rfl) rfl ?_
        refine x_alen C dX1_find_15 (hb 1 _ rfl) (by decide) ?_
        refine x_icmp_ge (tgt := 38) C dX1_find_16 (by decide) (fun c16 => ?_) (fun c16 => absurd (show nI n ≤ nI i from nI_le (by omega) (by omega)) c16)
        refine x_iconst (v := (-1)) C dX1_find_38 (by decide) ?_
        refine x_iret C E dX1_find_39 ?_
        exact ⟨by rw [hq]; first | rfl | (simp only [n_fd, if_neg c7]; done) | (simp only [n_fd, if_neg c7]; rfl) | fail, rfl⟩
    | succ k ih =>
      intro i z hi hz hq
      subst hz
      refine x_iload_n C dX1_find_2 rfl rfl ?_
      refine x_aload_n C dX1_find_3 rfl rfl ?_
      refine x_getfield C dX1_find_4 fX1_15 (hb 0 _ rfl) rfl ?_
      refine x_icmp_ge (tgt := 38) C dX1_find_7 (by decide) (fun c7 => ?_) (fun c7 => ?_)
      · refine x_iconst (v := (-1)) C dX1_find_38 (by decide) ?_
        refine x_iret C E dX1_find_39 ?_
        exact ⟨by rw [hq]; first | rfl | (simp only [n_fd, if_pos c7]; done) | (simp only [n_fd, if_pos c7]; rfl) | fail, rfl⟩
      · refine x_iload_n C dX1_find_10 rfl rfl ?_
        refine x_aload_n C dX1_find_11 rfl rfl ?_
        refine x_getfield C dX1_find_12 fX1_9 (hb 0 _ rfl) rfl ?_
        refine x_alen C dX1_find_15 (hb 1 _ rfl) (by decide) ?_
        refine x_icmp_ge (tgt := 38) C dX1_find_16 (by decide) (fun c16 => ?_) (fun c16 => ?_)
        · have c16 : nI n ≤ nI i := c16
          refine x_iconst (v := (-1)) C dX1_find_38 (by decide) ?_
          refine x_iret C E dX1_find_39 ?_
          exact ⟨by rw [hq]; first | rfl | (simp only [n_fd, if_neg c7, if_pos c16]; done) | (simp only [n_fd, if_neg c7, if_pos c16]; rfl) | fail, rfl⟩
        · have c16 : ¬ nI n ≤ nI i := c16
          refine x_aload_n C dX1_find_19 rfl rfl ?_
          refine x_getfield C dX1_find_20 fX1_9 (hb 0 _ rfl) rfl ?_
          refine x_iload_n C dX1_find_23 rfl rfl ?_
          refine x_laload C dX1_find_24 (hb 1 _ rfl) (rw_lt (by omega) (nI_pos (by omega)) c16) ?_
          rw [nI_clamp (show i < 2 ^ 31 by omega)]
          refine x_lload_n C dX1_find_25 rfl rfl ?_
          refine x_lcmp C dX1_find_26 ?_
          refine x_if_ne (tgt := 32) C dX1_find_27 (by decide) (fun c27 => ?_) (fun c27 => ?_)
          · have c27 : ¬ w i = x := fun q => c27 ((lg_cmp_eq _ _).mpr q)
            refine x_iinc (v := 1) C dX1_find_32 rfl (by decide) rfl (by decide) ?_
            refine x_goto (tgt := 2) C dX1_find_35 (by decide) ?_
            exact ih (i + 1) _ (by omega) (nI_1 i) (by rw [hq, n_fd, if_neg c7, if_neg c16, if_neg c27])
          · have c27 : w i = x := (lg_cmp_eq _ _).mp c27
            refine x_iload_n C dX1_find_30 rfl rfl ?_
            refine x_iret C E dX1_find_31 ?_
            exact ⟨by rw [hq]; first | rfl | (simp only [n_fd, if_neg c7, if_neg c16, if_pos c27]; done) | (simp only [n_fd, if_neg c7, if_neg c16, if_pos c27]; rfl) | fail, rfl⟩
  refine x_iconst (v := 0) C dX1_find_0 (by decide) ?_
  refine x_istore_n C dX1_find_1 rfl rfl (by decide) ?_
  exact lp (n + 1) 0 0 (by omega) rfl rfl
set_option maxHeartbeats 4000000 in
set_option maxRecDepth 100000 in
theorem c_X1_isFull {l : Launch} {Y0 : x_Y} (hO : x_Ok Y0) {M : x_M} {r n : Nat} {w : Nat → Int64} {c : Int32} (hn : n < 2 ^ 30) (hb : x_bk M r (nmT r n w c)) : x_C l Y0 yX1_isFull cX1_isFull 1 (some .boolean) 1 0 0 [.ref r] M (fun u M1 => u = some (.int (if nI n ≤ c then 1 else 0)) ∧ M1 = M) := by
  refine x_start hO (by decide +kernel) (Nat.le_of_ble_eq_true rfl) (fun K C E => ?_)
  refine x_aload_n C dX1_isFull_0 rfl rfl ?_
  refine x_getfield C dX1_isFull_1 fX1_15 (hb 0 _ rfl) rfl ?_
  refine x_aload_n C dX1_isFull_4 rfl rfl ?_
  refine x_getfield C dX1_isFull_5 fX1_9 (hb 0 _ rfl) rfl ?_
  refine x_alen C dX1_isFull_8 (hb 1 _ rfl) (by decide) ?_
  refine x_icmp_lt (tgt := 16) C dX1_isFull_9 (by decide) (fun c9 => ?_) (fun c9 => ?_)
  · have c9 : ¬ nI n ≤ c := Int32.not_le.mpr c9
    refine x_iconst (v := 0) C dX1_isFull_16 (by decide) ?_
    refine x_zret C E dX1_isFull_17 rfl ?_
    exact ⟨by first | rw [if_pos c9] | rw [if_neg c9] | fail, rfl⟩
  · have c9 : nI n ≤ c := Int32.not_lt.mp c9
    refine x_iconst (v := 1) C dX1_isFull_12 (by decide) ?_
    refine x_goto (tgt := 17) C dX1_isFull_13 (by decide) ?_
    refine x_zret C E dX1_isFull_17 rfl ?_
    exact ⟨by first | rw [if_pos c9] | rw [if_neg c9] | fail, rfl⟩
set_option maxHeartbeats 4000000 in
set_option maxRecDepth 100000 in
theorem c_X1_add {l : Launch} {Y0 : x_Y} (hO : x_Ok Y0) {M : x_M} {r n : Nat} {w : Nat → Int64} {c : Int32} (hn : n < 2 ^ 30) (hb : x_bk M r (nmT r n w c)) {x : Int64} : x_C l Y0 yX1_add cX1_add 3 none 1 0 0 [.ref r, .long x] M (fun u M1 => u = none ∧ M1 = x_ov M r (nmT r n (n_aw n w c x) (n_ac n c))) := by
  refine x_start hO (by decide +kernel) (Nat.le_of_ble_eq_true rfl) (fun K C E => ?_)
  refine x_to (x_ov_self hb).symm ?_
  refine x_aload_n C dX1_add_0 rfl rfl ?_
  refine x_getfield C dX1_add_1 fX1_15 (x_ovg 0 rfl) rfl ?_
  refine x_if_lt (tgt := 39) C dX1_add_4 (by decide) (fun c4 => ?_) (fun c4 => ?_)
  · refine x_vret C E dX1_add_39 ?_
    refine ⟨rfl, ?_⟩
    simp only [n_aw, n_ac, if_pos c4]
  · refine x_aload_n C dX1_add_7 rfl rfl ?_
    refine x_getfield C dX1_add_8 fX1_15 (x_ovg 0 rfl) rfl ?_
    refine x_aload_n C dX1_add_11 rfl rfl ?_
    refine x_getfield C dX1_add_12 fX1_9 (x_ovg 0 rfl) rfl ?_
    refine x_alen C dX1_add_15 (x_ovg 1 rfl) (by decide) ?_
    refine x_icmp_ge (tgt := 39) C dX1_add_16 (by decide) (fun c16 => ?_) (fun c16 => ?_)
    · have c16 : nI n ≤ c := c16
      refine x_vret C E dX1_add_39 ?_
      refine ⟨rfl, ?_⟩
      simp only [n_aw, n_ac, if_neg c4, if_pos c16]
    · have c16 : ¬ nI n ≤ c := c16
      refine x_aload_n C dX1_add_19 rfl rfl ?_
      refine x_getfield C dX1_add_20 fX1_9 (x_ovg 0 rfl) rfl ?_
      refine x_aload_n C dX1_add_23 rfl rfl ?_
      refine x_getfield C dX1_add_24 fX1_15 (x_ovg 0 rfl) rfl ?_
      refine x_lload_n C dX1_add_27 rfl rfl ?_
      refine x_lastore C dX1_add_28 (x_ovg 1 rfl) (rw_lt (by omega) c4 c16) ?_
      refine x_to (x_st_ov 1 (Nat.le_of_ble_eq_true rfl)) ?_
      refine x_aload_n C dX1_add_29 rfl rfl ?_
      refine x_dup C dX1_add_30 rfl ?_
      refine x_getfield C dX1_add_31 fX1_15 (x_ovg 0 rfl) rfl ?_
      refine x_iconst (v := 1) C dX1_add_34 (by decide) ?_
      refine x_iadd C dX1_add_35 ?_
      refine x_putfield C dX1_add_36 fX1_15 (x_ovg 0 rfl) rfl rfl (Nat.le_of_ble_eq_true rfl) ?_
      refine x_to (x_st_ov 0 (Nat.le_of_ble_eq_true rfl)) ?_
      refine x_vret C E dX1_add_39 ?_
      refine ⟨rfl, ?_⟩
      simp only [n_aw, n_ac, if_neg c4, if_neg c16]
      rfl
