/-! What a hive is and does, for both classes alike: a plan P, and how all stands, A: rows 0 honey, 1 asleep (8: the queen), 2 blocked, 3 log, 4 state, 5 since, 6 votes, 7 heard, 8: day, orders done. -/
abbrev HS : Type := Nat → Nat → Int32
def h_u (A : HS) (k j : Nat) (x : Int32) : HS := fun q => if q = k then upd (A k) j x else A q
abbrev PT : Type := List (Nat × Int32)
abbrev PL : Type := (Nat × Nat × Nat) × (Nat → Nat) × (Nat → Nat) × (Nat → Int32) × (Nat → Nat) × (Nat → Nat) × (Nat → PT) × (Nat → Int32)
def p_nd (P : PL) : Nat := P.1.1
def p_nk (P : PL) : Nat := P.1.2.1
def p_no (P : PL) : Nat := P.1.2.2
def p_np (P : PL) : Nat → Nat := P.2.1
def p_who (P : PL) : Nat → Nat := P.2.2.1
def p_mv (P : PL) : Nat → Int32 := P.2.2.2.1
def p_vb (P : PL) : Nat → Nat := P.2.2.2.2.1
def p_tg (P : PL) : Nat → Nat := P.2.2.2.2.2.1
def p_ts (P : PL) : Nat → PT := P.2.2.2.2.2.2.1
def p_hn (P : PL) : Nat → Int32 := P.2.2.2.2.2.2.2
def h_cnt (q : Nat → Bool) : Nat → Int32
  | 0 => 0
  | n + 1 => h_cnt q n + (if q n = true then 1 else 0)
def h_all (q : Nat → Bool) : Nat → Bool
  | 0 => true
  | n + 1 => h_all q n && q n
def h_any (q : Nat → Bool) : Nat → Bool
  | 0 => false
  | n + 1 => h_any q n || q n
def h_it {α : Type} (f : α → Nat → α) : Nat → α → α
  | 0, a => a
  | n + 1, a => f (h_it f n a) n
theorem h_all_no {q : Nat → Bool} {j : Nat} (hq : q j = false) : ∀ n, j < n → h_all q n = false := by
  intro n
  induction n with
  | zero => intro h; omega
  | succ n ih =>
    intro h
    unfold h_all
    rcases Nat.lt_or_ge j n with h1 | h1
    · rw [ih h1]; rfl
    · rw [show n = j by omega, hq]; simp
theorem h_any_yes {q : Nat → Bool} {j : Nat} (hq : q j = true) : ∀ n, j < n → h_any q n = true := by
  intro n
  induction n with
  | zero => intro h; omega
  | succ n ih =>
    intro h
    unfold h_any
    rcases Nat.lt_or_ge j n with h1 | h1
    · rw [ih h1]; rfl
    · rw [show n = j by omega, hq]; simp
def h_blocked (P : PL) (A : HS) : Int32 := h_cnt (fun d => A 2 d != -1) (p_nd P)
def h_begun (P : PL) (A : HS) : Int32 := h_cnt (fun k => A 4 k == 1) (p_nk P)
def h_votes (P : PL) (A : HS) (k : Nat) (v : Int32) : Int32 := h_cnt (fun j => A 6 (6 * k + j) == v) (p_np P k)
def h_waits (A : HS) (k : Nat) : Int32 := if A 4 k = 1 then A 8 0 - A 5 k else 0
def h_agr (P : PL) (A : HS) (s : Nat) : Bool := A 2 (p_who P s) == -1 && (!decide (A 0 (p_who P s) + p_mv P s < 0) && !decide (99 < A 0 (p_who P s) + p_mv P s))
def h_agrAll (P : PL) (A : HS) (k : Nat) : Bool := h_all (fun j => h_agr P A (6 * k + j)) (p_np P k)
def h_heardAll (P : PL) (A : HS) (k : Nat) : Bool := h_all (fun j => A 7 (6 * k + j) != 0) (p_np P k)
def h_over (P : PL) (A : HS) (k : Nat) : Bool := A 4 k == 0 || (A 4 k != 1 && h_heardAll P A k)
def h_can (P : PL) (A : HS) (k : Nat) : Bool := A 1 8 == 0 && h_over P A k
def h_clr (k : Nat) (B : HS) (j : Nat) : HS := h_u (h_u B 6 (6 * k + j) 0) 7 (6 * k + j) 0
def h_begin (P : PL) (A : HS) (k : Nat) : HS := h_it (h_clr k) (p_np P k) (h_u (h_u A 4 k 1) 5 k (A 8 0))
def h_ref1 (B : HS) (k : Nat) : HS := if B 4 k = 1 then h_u B 4 k 3 else B
def h_refuse (P : PL) (A : HS) : HS := h_it h_ref1 (p_nk P) A
def h_wake (P : PL) (A : HS) (d : Nat) : HS := if d = 8 then h_refuse P (h_u A 1 8 0) else h_u A 1 d 0
def h_obey (P : PL) (A : HS) (o : Nat) : HS × Bool :=
  if p_vb P o = 262 then (if h_can P A (p_tg P o) = true then (h_begin P A (p_tg P o), true) else (A, false))
  else if p_vb P o = 263 then (if A 1 (p_tg P o) = 0 then (h_u A 1 (p_tg P o) 1, true) else (A, false))
  else (if A 1 (p_tg P o) = 0 then (A, false) else (h_wake P A (p_tg P o), true))
def h_isval (k : Nat) : Bool := k == 3 || (k == 267 || (k == 268 || (k == 269 || (k == 257 || (k == 270 || k == 272)))))
def h_val (P : PL) (A : HS) (k : Nat) (x : Int32) : Int32 :=
  if k = 267 then A 8 0 else if k = 268 then A 8 1 else if k = 269 then h_blocked P A else if k = 257 then A 0 x.toNatClampNeg else if k = 270 then h_waits A x.toNatClampNeg else if k = 272 then (if A 1 x.toNatClampNeg = 0 then 1 else 0) else x
def h_b (c : Bool) : Int32 := if c = true then 1 else 0
def h_join (k : Nat) (a b : Int32) : Int32 :=
  if k = 275 then a ||| b else if k = 274 then a &&& b else if k = 60 then h_b (decide (a < b)) else if k = 62 then h_b (decide (b < a)) else if k = 61 then h_b (a == b) else if k = 188 then h_b (decide (a ≤ b)) else if k = 190 then h_b (decide (b ≤ a))
  else if k = 43 then a + b else if k = 45 then a - b else if k = 42 then a * b else if k = 47 then (if b = 0 then 0 else a / b) else if k = 276 then (if b < a then b else a) else (if a < b then b else a)
def h_op (P : PL) (A : HS) (k : Nat) (x : Int32) (st : List Int32) : List Int32 :=
  if k = 273 then (match st with
    | a :: r => (if a = 0 then 1 else 0) :: r
    | [] => [])
  else if k = 4 then (match st with
    | a :: r => (-a) :: r
    | [] => [])
  else if h_isval k = true then h_val P A k x :: st
  else match st with
    | b :: a :: r => h_join k a b :: r
    | _ => []
def h_ev (P : PL) (A : HS) : PT → List Int32 → List Int32
  | [], st => st
  | q :: t, st => h_ev P A t (h_op P A q.1 q.2 st)
def h_holds (P : PL) (A : HS) (o : Nat) : Bool := match p_ts P o with
  | [] => true
  | q :: t => (h_ev P A (q :: t) []).headD 0 != 0
def h_ord1 (P : PL) (B : HS) (o : Nat) : HS := if h_holds P B o = true then (if (h_obey P B o).2 = true then h_u (h_obey P B o).1 8 1 ((h_obey P B o).1 8 1 + 1) else (h_obey P B o).1) else B
def h_ord (P : PL) (A : HS) : HS := h_it (h_ord1 P) (p_no P) A
def h_ask (P : PL) (k : Nat) (A : HS) (j : Nat) : HS :=
  if A 6 (6 * k + j) = 0 then (if A 1 (p_who P (6 * k + j)) = 0 then (if h_agr P A (6 * k + j) = true then h_u (h_u (h_u A 6 (6 * k + j) 1) 2 (p_who P (6 * k + j)) (nI k)) 3 (p_who P (6 * k + j)) (A 3 (p_who P (6 * k + j)) + 1) else h_u A 6 (6 * k + j) 2) else A) else A
def h_col1 (P : PL) (B : HS) (k : Nat) : HS := if B 4 k = 1 then h_it (h_ask P k) (p_np P k) B else B
def h_col (P : PL) (A : HS) : HS := h_it (h_col1 P) (p_nk P) A
def h_dec1 (P : PL) (B : HS) (k : Nat) : HS :=
  if B 4 k = 1 then (if 0 < h_votes P B k 2 then h_u B 4 k 3 else if h_votes P B k 1 = nI (p_np P k) then h_u B 4 k 2 else if 3 ≤ h_waits B k then h_u B 4 k 3 else B) else B
def h_dec (P : PL) (A : HS) : HS := h_it (h_dec1 P) (p_nk P) A
def h_knows (P : PL) (A : HS) (k : Nat) : Bool := h_any (fun j => A 7 (6 * k + j) != 0 && A 1 (p_who P (6 * k + j)) == 0) (p_np P k)
def h_hear1 (P : PL) (A : HS) (s : Nat) : HS := h_u (h_u A 7 s 1) 3 (p_who P s) (A 3 (p_who P s) + 1)
def h_hear2 (P : PL) (k : Nat) (A : HS) (s : Nat) : HS := if A 4 k = 2 then h_u A 0 (p_who P s) (A 0 (p_who P s) + p_mv P s) else A
def h_hear3 (P : PL) (k : Nat) (A : HS) (s : Nat) : HS := if A 2 (p_who P s) = nI k then h_u A 2 (p_who P s) (-1) else A
def h_hear (P : PL) (k : Nat) (A : HS) (s : Nat) : HS := h_hear3 P k (h_hear2 P k (h_hear1 P A s) s) s
def h_lis (P : PL) (k : Nat) (A : HS) (s : Nat) : Bool := A 1 (p_who P s) == 0 && (A 7 s == 0 && (A 1 8 == 0 || h_knows P A k))
def h_tell (P : PL) (k : Nat) (B : HS × Int32) (j : Nat) : HS × Int32 := if h_lis P k B.1 (6 * k + j) = true then (h_hear P k B.1 (6 * k + j), B.2 + 1) else B
def h_spr1 (P : PL) (B : HS × Int32) (k : Nat) : HS × Int32 := if B.1 4 k = 2 ∨ B.1 4 k = 3 then ((h_it (h_tell P k) (p_np P k) (B.1, 0)).1, B.2 + (h_it (h_tell P k) (p_np P k) (B.1, 0)).2) else B
def h_spr (P : PL) (A : HS) : HS × Int32 := h_it (h_spr1 P) (p_nk P) (A, 0)
def h_mid (P : PL) (A : HS) : HS := if A 1 8 = 0 then h_dec P (h_col P A) else A
def h_day (P : PL) (A : HS) : HS × Int32 := (h_u (h_spr P (h_mid P (h_ord P A))).1 8 0 ((h_spr P (h_mid P (h_ord P A))).1 8 0 + 1), (h_spr P (h_mid P (h_ord P A))).2)
/-- plans that can be told -/
def p_op (k : Nat) (ty : List Bool) : Option (List Bool) :=
  if k = 273 then (match ty with
    | true :: r => some (true :: r)
    | _ => none)
  else if k = 4 then (match ty with
    | false :: r => some (false :: r)
    | _ => none)
  else if k = 272 then some (true :: ty)
  else if h_isval k = true then some (false :: ty)
  else if k = 274 ∨ k = 275 then (match ty with
    | true :: true :: r => some (true :: r)
    | _ => none)
  else if k = 60 ∨ k = 61 ∨ k = 62 ∨ k = 188 ∨ k = 190 then (match ty with
    | false :: false :: r => some (true :: r)
    | _ => none)
  else if k = 43 ∨ k = 45 ∨ k = 42 ∨ k = 47 ∨ k = 276 ∨ k = 277 then (match ty with
    | false :: false :: r => some (false :: r)
    | _ => none)
  else none
def p_ty : PT → List Bool → Option (List Bool)
  | [], ty => some ty
  | q :: t, ty => match p_op q.1 ty with
    | some ty' => p_ty t ty'
    | none => none
/-- the detail of a named value names a drone (or the queen, of awake), or a deal -/
def p_dt (P : PL) (q : Nat × Int32) : Prop := (q.1 = 257 → ∃ d, d < p_nd P ∧ q.2 = nI d) ∧ (q.1 = 270 → ∃ k, k < p_nk P ∧ q.2 = nI k) ∧ (q.1 = 272 → ∃ d, (d < p_nd P ∨ d = 8) ∧ q.2 = nI d)
def p_tst (P : PL) (t : PT) : Prop := t = [] ∨ (p_ty t [] = some [true] ∧ t.length ≤ 400 ∧ ∀ q ∈ t, p_dt P q)
def p_ok (P : PL) : Prop := p_nd P ≤ 8 ∧ p_nk P ≤ 6 ∧ p_no P ≤ 16 ∧ (∀ k, k < p_nk P → 1 ≤ p_np P k ∧ p_np P k ≤ 6) ∧ (∀ k j, k < p_nk P → j < p_np P k → p_who P (6 * k + j) < p_nd P) ∧ (∀ o, o < p_no P → (p_vb P o = 262 ∧ p_tg P o < p_nk P) ∨ ((p_vb P o = 263 ∨ p_vb P o = 264) ∧ (p_tg P o < p_nd P ∨ p_tg P o = 8))) ∧ ∀ o, o < p_no P → p_tst P (p_ts P o)
theorem slot_nI (k j : Nat) : nI k * 6 + nI j = nI (6 * k + j) := by
  show nI k * nI 6 + nI j = _
  rw [pk_mul, nI_add, Nat.mul_comm]
/-- what a Hive's cells are: at a, over the plan at p -/
def hvT (a p : Nat) (P : PL) (A : HS) (hx : Nat → Int32) (sk : Nat → Int32) (ht : Int32) : List x_E :=
  [.inr (0, [.ref p, .ref (a + 1), .ref (a + 4), .ref (a + 6), .ref (a + 8), .ref (a + 10), .ref (a + 12), .ref (a + 14), .ref (a + 16), .ref (a + 18), .int (A 8 0), .int (A 8 1), .int (1 - A 1 8)]),
   .inr (3, [.ref (a + 2), .int ht]), .inr (4, [.ref (a + 2 + 1)]), .inl (0, 400, .inl sk),
   .inr (4, [.ref (a + 4 + 1)]), .inl (0, 8, .inl (s_fill (p_nd P) hx (A 0))),
   .inr (4, [.ref (a + 6 + 1)]), .inl (0, 8, .inl (s_fill 8 (fun _ => 0) (A 1))),
   .inr (4, [.ref (a + 8 + 1)]), .inl (0, 8, .inl (A 2)),
   .inr (4, [.ref (a + 10 + 1)]), .inl (0, 8, .inl (A 3)),
   .inr (4, [.ref (a + 12 + 1)]), .inl (0, 6, .inl (A 4)),
   .inr (4, [.ref (a + 14 + 1)]), .inl (0, 6, .inl (A 5)),
   .inr (4, [.ref (a + 16 + 1)]), .inl (0, 36, .inl (A 6)),
   .inr (4, [.ref (a + 18 + 1)]), .inl (0, 36, .inl (A 7))]
/-- what a Plan's cells are: at p; Q: its rows, and (row 10) its counts -/
def plT (p : Nat) (Q : HS) : List x_E :=
  [.inr (2, [.int (Q 10 0), .int (Q 10 1), .int (Q 10 2), .int (Q 10 3), .ref (p + 1), .ref (p + 3), .ref (p + 5), .ref (p + 7), .ref (p + 9), .ref (p + 11), .ref (p + 13), .ref (p + 15), .ref (p + 17), .ref (p + 19)]),
   .inr (4, [.ref (p + 1 + 1)]), .inl (0, 8, .inl (Q 0)),
   .inr (4, [.ref (p + 3 + 1)]), .inl (0, 6, .inl (Q 1)),
   .inr (4, [.ref (p + 5 + 1)]), .inl (0, 36, .inl (Q 2)),
   .inr (4, [.ref (p + 7 + 1)]), .inl (0, 36, .inl (Q 3)),
   .inr (4, [.ref (p + 9 + 1)]), .inl (0, 16, .inl (Q 4)),
   .inr (4, [.ref (p + 11 + 1)]), .inl (0, 16, .inl (Q 5)),
   .inr (4, [.ref (p + 13 + 1)]), .inl (0, 16, .inl (Q 6)),
   .inr (4, [.ref (p + 15 + 1)]), .inl (0, 16, .inl (Q 7)),
   .inr (4, [.ref (p + 17 + 1)]), .inl (0, 400, .inl (Q 8)),
   .inr (4, [.ref (p + 19 + 1)]), .inl (0, 400, .inl (Q 9))]
/-- the test's code lies in the rows from place b on -/
def q_code (Q : HS) (b : Nat) (t : PT) : Prop := ∀ (i : Nat) (q : Nat × Int32), t[i]? = some q → Q 8 (b + i) = nI q.1 ∧ Q 9 (b + i) = q.2
/-- the rows of a Plan tell the plan P -/
def q_is (Q : HS) (P : PL) : Prop := Q 10 0 = nI (p_nd P) ∧ Q 10 1 = nI (p_nk P) ∧ Q 10 2 = nI (p_no P) ∧ (∀ k, k < p_nk P → Q 1 k = nI (p_np P k)) ∧ (∀ k j, k < p_nk P → j < p_np P k → Q 2 (6 * k + j) = nI (p_who P (6 * k + j)) ∧ Q 3 (6 * k + j) = p_mv P (6 * k + j)) ∧ (∀ o, o < p_no P → Q 4 o = nI (p_vb P o) ∧ Q 5 o = nI (p_tg P o) ∧ ∃ b, Q 6 o = nI b ∧ Q 7 o = nI (b + (p_ts P o).length) ∧ b + (p_ts P o).length ≤ 400 ∧ q_code Q b (p_ts P o)) ∧ ∀ d, d < p_nd P → Q 0 d = p_hn P d
theorem s_fill_in {n j : Nat} {f g : Nat → Int32} (h : j < n) : s_fill n f g j = g j := by
  unfold s_fill
  rw [if_pos h]
theorem s_fill_u {n j : Nat} {f g : Nat → Int32} {x : Int32} (h : j < n) : upd (s_fill n f g) j x = s_fill n f (upd g j x) := by
  funext i
  by_cases h1 : i = j
  · subst h1
    simp [upd, s_fill, h]
  · simp [upd, s_fill, h1]
theorem s_fill_b {n j : Nat} {f g : Nat → Int32} {x : Int32} (h : n ≤ j) : s_fill n f (upd g j x) = s_fill n f g := by
  funext i
  by_cases h1 : i < n
  · have h2 : i ≠ j := by omega
    simp [upd, s_fill, h1, h2]
  · simp [s_fill, h1]
theorem s_fill_f {n : Nat} {f g h : Nat → Int32} : s_fill n (s_fill n f g) (s_fill n f h) = s_fill n f h := by
  funext i
  by_cases h1 : i < n
  · simp [s_fill, h1]
  · simp [s_fill, h1]
def h_sleep (A : HS) (d : Nat) : HS := if A 1 d = 0 then h_u A 1 d 1 else A
def h_rouse (P : PL) (A : HS) (d : Nat) : HS := if A 1 d = 0 then A else h_wake P A d
def h_upI (A : HS) (d : Nat) : Int32 := if A 1 d = 0 then 1 else 0
/-- what always holds of how all stands -/
def h_ok (P : PL) (A : HS) : Prop := (∀ d, A 1 d = 0 ∨ A 1 d = 1) ∧ (∀ s, A 7 s = 0 ∨ A 7 s = 1) ∧ (∀ k, A 4 k = 0 ∨ A 4 k = 1 ∨ A 4 k = 2 ∨ A 4 k = 3) ∧ ∀ k j, k < 6 → p_np P k ≤ j → j < 6 → A 6 (6 * k + j) = 0 ∧ A 7 (6 * k + j) = 0
theorem h_u_eq {A : HS} {k j : Nat} {x : Int32} : h_u A k j x k j = x := by simp [h_u, upd]
theorem h_u_row {A : HS} {k k' j : Nat} {x : Int32} (h : k' ≠ k) : h_u A k j x k' = A k' := by simp [h_u, h]
theorem h_u_ne {A : HS} {k j j' : Nat} {x : Int32} (h : j' ≠ j) : h_u A k j x k j' = A k j' := by simp [h_u, upd, h]
theorem h_ok_o {P : PL} {A : HS} {k j : Nat} {x : Int32} (h : h_ok P A) (h1 : k ≠ 1) (h4 : k ≠ 4) (h6 : k ≠ 6) (h7 : k ≠ 7) : h_ok P (h_u A k j x) := by
  unfold h_ok
  rw [h_u_row (Ne.symm h1), h_u_row (Ne.symm h4), h_u_row (Ne.symm h6), h_u_row (Ne.symm h7)]
  exact h
theorem h_ok_1 {P : PL} {A : HS} {j : Nat} {x : Int32} (h : h_ok P A) (hx : x = 0 ∨ x = 1) : h_ok P (h_u A 1 j x) := by
  unfold h_ok
  rw [h_u_row (show 4 ≠ 1 by decide), h_u_row (show 6 ≠ 1 by decide), h_u_row (show 7 ≠ 1 by decide)]
  refine ⟨fun d => ?_, h.2⟩
  by_cases e : d = j
  · subst e; rw [h_u_eq]; exact hx
  · rw [h_u_ne e]; exact h.1 d
theorem h_ok_4 {P : PL} {A : HS} {j : Nat} {x : Int32} (h : h_ok P A) (hx : x = 0 ∨ x = 1 ∨ x = 2 ∨ x = 3) : h_ok P (h_u A 4 j x) := by
  unfold h_ok
  rw [h_u_row (show 1 ≠ 4 by decide), h_u_row (show 6 ≠ 4 by decide), h_u_row (show 7 ≠ 4 by decide)]
  refine ⟨h.1, h.2.1, fun d => ?_, h.2.2.2⟩
  by_cases e : d = j
  · subst e; rw [h_u_eq]; exact hx
  · rw [h_u_ne e]; exact h.2.2.1 d
theorem h_ok_6 {P : PL} {A : HS} {k j : Nat} {x : Int32} (h : h_ok P A) (hj : j < p_np P k) (hj6 : j < 6) : h_ok P (h_u A 6 (6 * k + j) x) := by
  unfold h_ok
  rw [h_u_row (show 1 ≠ 6 by decide), h_u_row (show 4 ≠ 6 by decide), h_u_row (show 7 ≠ 6 by decide)]
  refine ⟨h.1, h.2.1, h.2.2.1, fun k' j' h1 h2 h3 => ⟨?_, (h.2.2.2 k' j' h1 h2 h3).2⟩⟩
  by_cases e : 6 * k' + j' = 6 * k + j
  · have e1 : k' = k := by omega
    have e2 : j' = j := by omega
    subst e1; subst e2
    omega
  · rw [h_u_ne e]; exact (h.2.2.2 k' j' h1 h2 h3).1
theorem h_ok_7 {P : PL} {A : HS} {k j : Nat} {x : Int32} (h : h_ok P A) (hj : j < p_np P k) (hj6 : j < 6) (hx : x = 0 ∨ x = 1) : h_ok P (h_u A 7 (6 * k + j) x) := by
  unfold h_ok
  rw [h_u_row (show 1 ≠ 7 by decide), h_u_row (show 4 ≠ 7 by decide), h_u_row (show 6 ≠ 7 by decide)]
  refine ⟨h.1, fun s => ?_, h.2.2.1, fun k' j' h1 h2 h3 => ⟨(h.2.2.2 k' j' h1 h2 h3).1, ?_⟩⟩
  · by_cases e : s = 6 * k + j
    · subst e; rw [h_u_eq]; exact hx
    · rw [h_u_ne e]; exact h.2.1 s
  · by_cases e : 6 * k' + j' = 6 * k + j
    · have e1 : k' = k := by omega
      have e2 : j' = j := by omega
      subst e1; subst e2
      omega
    · rw [h_u_ne e]; exact (h.2.2.2 k' j' h1 h2 h3).2
theorem h_it_ok {P : PL} {f : HS → Nat → HS} {n : Nat} (hf : ∀ (B : HS) (i : Nat), i < n → h_ok P B → h_ok P (f B i)) : ∀ (m : Nat), m ≤ n → ∀ A : HS, h_ok P A → h_ok P (h_it f m A) := by
  intro m
  induction m with
  | zero => intro _ A h; exact h
  | succ m ih => intro hm A h; exact hf _ m (by omega) (ih (by omega) A h)
theorem h_ok_begin {P : PL} {A : HS} {k : Nat} (hn : p_np P k ≤ 6) (h : h_ok P A) : h_ok P (h_begin P A k) := by
  unfold h_begin
  refine h_it_ok (n := p_np P k) (fun B i hi hB => ?_) _ (Nat.le_refl _) _ (h_ok_o (h_ok_4 h (Or.inr (Or.inl rfl))) (by decide) (by decide) (by decide) (by decide))
  exact h_ok_7 (h_ok_6 hB hi (by omega)) hi (by omega) (Or.inl rfl)
theorem h_ok_refuse {P : PL} {A : HS} (h : h_ok P A) : h_ok P (h_refuse P A) := by
  unfold h_refuse
  refine h_it_ok (n := p_nk P) (fun B i hi hB => ?_) _ (Nat.le_refl _) _ h
  unfold h_ref1
  split
  · exact h_ok_4 hB (Or.inr (Or.inr (Or.inr rfl)))
  · exact hB
theorem h_ok_wake {P : PL} {A : HS} {d : Nat} (h : h_ok P A) : h_ok P (h_wake P A d) := by
  unfold h_wake
  split
  · exact h_ok_refuse (h_ok_1 h (Or.inl rfl))
  · exact h_ok_1 h (Or.inl rfl)
theorem h_ok_sleep {P : PL} {A : HS} {d : Nat} (h : h_ok P A) : h_ok P (h_sleep A d) := by
  unfold h_sleep
  split
  · exact h_ok_1 h (Or.inr rfl)
  · exact h
theorem h_ok_rouse {P : PL} {A : HS} {d : Nat} (h : h_ok P A) : h_ok P (h_rouse P A d) := by
  unfold h_rouse
  split
  · exact h
  · exact h_ok_wake h
theorem h_ok_obey {P : PL} {A : HS} {o : Nat} (hP : p_ok P) (ho : o < p_no P) (h : h_ok P A) : h_ok P (h_obey P A o).1 := by
  obtain ⟨h8, h6, h16, hnp, hwho, hvb, hts⟩ := hP
  unfold h_obey
  split
  · split
    · refine h_ok_begin ?_ h
      rcases hvb o ho with q | q
      · exact (hnp _ q.2).2
      · omega
    · exact h
  · split
    · split
      · exact h_ok_1 h (Or.inr rfl)
      · exact h
    · split
      · exact h
      · exact h_ok_wake h
theorem h_ok_ord1 {P : PL} {A : HS} {o : Nat} (hP : p_ok P) (ho : o < p_no P) (h : h_ok P A) : h_ok P (h_ord1 P A o) := by
  unfold h_ord1
  split
  · split
    · exact h_ok_o (h_ok_obey hP ho h) (by decide) (by decide) (by decide) (by decide)
    · exact h_ok_obey hP ho h
  · exact h
theorem h_ok_ord {P : PL} {A : HS} (hP : p_ok P) (h : h_ok P A) : h_ok P (h_ord P A) := h_it_ok (n := p_no P) (fun B i hi hB => h_ok_ord1 hP hi hB) _ (Nat.le_refl _) _ h
theorem h_ok_ask {P : PL} {A : HS} {k j : Nat} (hj : j < p_np P k) (hj6 : j < 6) (h : h_ok P A) : h_ok P (h_ask P k A j) := by
  unfold h_ask
  split
  · split
    · split
      · exact h_ok_o (h_ok_o (h_ok_6 h hj hj6) (by decide) (by decide) (by decide) (by decide)) (by decide) (by decide) (by decide) (by decide)
      · exact h_ok_6 h hj hj6
    · exact h
  · exact h
theorem h_ok_col1 {P : PL} {A : HS} {k : Nat} (hn : p_np P k ≤ 6) (h : h_ok P A) : h_ok P (h_col1 P A k) := by
  unfold h_col1
  split
  · exact h_it_ok (n := p_np P k) (fun B i hi hB => h_ok_ask hi (by omega) hB) _ (Nat.le_refl _) _ h
  · exact h
theorem h_ok_col {P : PL} {A : HS} (hP : p_ok P) (h : h_ok P A) : h_ok P (h_col P A) := h_it_ok (n := p_nk P) (fun B i hi hB => h_ok_col1 (hP.2.2.2.1 i hi).2 hB) _ (Nat.le_refl _) _ h
theorem h_ok_dec1 {P : PL} {A : HS} {k : Nat} (h : h_ok P A) : h_ok P (h_dec1 P A k) := by
  unfold h_dec1
  split
  · split
    · exact h_ok_4 h (Or.inr (Or.inr (Or.inr rfl)))
    · split
      · exact h_ok_4 h (Or.inr (Or.inr (Or.inl rfl)))
      · split
        · exact h_ok_4 h (Or.inr (Or.inr (Or.inr rfl)))
        · exact h
  · exact h
theorem h_ok_dec {P : PL} {A : HS} (h : h_ok P A) : h_ok P (h_dec P A) := h_it_ok (n := p_nk P) (fun B i hi hB => h_ok_dec1 hB) _ (Nat.le_refl _) _ h
theorem h_ok_mid {P : PL} {A : HS} (hP : p_ok P) (h : h_ok P A) : h_ok P (h_mid P A) := by
  unfold h_mid
  split
  · exact h_ok_dec (h_ok_col hP h)
  · exact h
theorem h_ok_hear {P : PL} {A : HS} {k j : Nat} (hj : j < p_np P k) (hj6 : j < 6) (h : h_ok P A) : h_ok P (h_hear P k A (6 * k + j)) := by
  have h1 : h_ok P (h_hear1 P A (6 * k + j)) := h_ok_o (h_ok_7 h hj hj6 (Or.inr rfl)) (by decide) (by decide) (by decide) (by decide)
  have h2 : h_ok P (h_hear2 P k (h_hear1 P A (6 * k + j)) (6 * k + j)) := by
    unfold h_hear2
    split
    · exact h_ok_o h1 (by decide) (by decide) (by decide) (by decide)
    · exact h1
  unfold h_hear h_hear3
  split
  · exact h_ok_o h2 (by decide) (by decide) (by decide) (by decide)
  · exact h2
theorem h_ok_tells {P : PL} {k : Nat} (hn : p_np P k ≤ 6) : ∀ (m : Nat), m ≤ p_np P k → ∀ B : HS × Int32, h_ok P B.1 → h_ok P (h_it (h_tell P k) m B).1 := by
  intro m
  induction m with
  | zero => intro _ B h; exact h
  | succ m ih =>
    intro hm B h
    show h_ok P (h_tell P k (h_it (h_tell P k) m B) m).1
    unfold h_tell
    split
    · exact h_ok_hear (by omega) (by omega) (ih (by omega) B h)
    · exact ih (by omega) B h
theorem h_ok_sprs {P : PL} (hP : p_ok P) : ∀ (m : Nat), m ≤ p_nk P → ∀ B : HS × Int32, h_ok P B.1 → h_ok P (h_it (h_spr1 P) m B).1 := by
  intro m
  induction m with
  | zero => intro _ B h; exact h
  | succ m ih =>
    intro hm B h
    show h_ok P (h_spr1 P (h_it (h_spr1 P) m B) m).1
    unfold h_spr1
    split
    · exact h_ok_tells (hP.2.2.2.1 m (by omega)).2 _ (Nat.le_refl _) _ (ih (by omega) B h)
    · exact ih (by omega) B h
theorem h_ok_spr {P : PL} {A : HS} (hP : p_ok P) (h : h_ok P A) : h_ok P (h_spr P A).1 := h_ok_sprs hP _ (Nat.le_refl _) (A, 0) h
theorem h_ok_day {P : PL} {A : HS} (hP : p_ok P) (h : h_ok P A) : h_ok P (h_day P A).1 := h_ok_o (h_ok_spr hP (h_ok_mid hP (h_ok_ord hP h))) (by decide) (by decide) (by decide) (by decide)
