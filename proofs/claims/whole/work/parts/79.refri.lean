/-- an entry with its kind alone; an entry as it is written, names by f -/
def g_ks (e : rI) : Nat × Int32 := (e.1, e.2.1)
def g_dt (e : rI) (f : Nat → Int32) : Int32 := match e.2.2 with
  | none => e.2.1
  | some j => f j
def g_rs (f : Nat → Int32) (e : rI) : Nat × Int32 := (e.1, g_dt e f)
def g_op : Nat → List rI → List Nat
  | _, [] => []
  | b, e :: t => (if e.2.2 = none then [] else [b + 1]) ++ g_op (b + (g_tr1 (g_rs nI e)).length) t
def rr_ok (N : Nat) (f : Nat → Int32) (i : Nat) : Prop := f i = 0 ∨ (f i = 1 ∧ i + 2 < N) ∨ f i = 2 ∨ f i = 3 ∨ (f i = 4 ∧ i + 2 < N ∧ ∃ j, j < i ∧ f j = 2) ∨ f i = 5 ∨ f i = 6 ∨ (f i = 7 ∧ 1 ≤ i ∧ ∃ j, j < i ∧ f j = 3) ∨ f i = 8 ∨ f i = 9
def g_ok (T : rT) (t : Nat) (f : Nat → Int32) (e : rI) : Prop := (e.2.2 = none → e.1 ≠ 257 ∧ e.1 ≠ 270 ∧ (e.1 = 272 → e.2.1 = 8)) ∧ ∀ j, e.2.2 = some j → j < t ∧ T.1 j = 40 ∧ (((e.1 = 257 ∨ e.1 = 272) ∧ f j = 5) ∨ (e.1 = 270 ∧ f j = 6))
/-- behind a prefix pre of entries stand such as leave the types ty -/
def RI (T : rT) (N : Nat) (pre : List rI) (ty : List Bool) (R : rS) : Prop := R.1.1 ≤ N ∧ R.2.1 = g_tr (R.2.2.2.2.map (g_rs nI)) ∧ R.2.2.1 = g_op 0 R.2.2.2.2 ∧ (∀ i, R.1.1 ≤ i → i ≤ N → R.2.2.2.1 i = 0) ∧ (∀ i, i < R.1.1 → rr_ok N R.2.2.2.1 i) ∧ (∃ L, R.2.2.2.2 = pre ++ L ∧ p_ty (L.map g_ks) [] = some ty) ∧ ∀ e, e ∈ R.2.2.2.2 → g_ok T R.1.1 R.2.2.2.1 e
def RO (T : rT) (N : Nat) (f : rF) (b : Bool) : Prop := ∀ (pre : List rI) (ty : List Bool) (R : rS), RI T N pre ty R → (f R).2 = true → RI T N pre (b :: ty) (f R).1
theorem g_tr_app (a b : PT) : g_tr (a ++ b) = g_tr a ++ g_tr b := by
  induction a with
  | nil => rfl
  | cons q t ih => show g_tr1 q ++ g_tr (t ++ b) = g_tr1 q ++ g_tr t ++ g_tr b; rw [ih, List.append_assoc]
theorem g_tr_one (q : Nat × Int32) : g_tr [q] = g_tr1 q := List.append_nil _
theorem p_ty_app (a b : PT) (st : List Bool) : p_ty (a ++ b) st = (p_ty a st).bind (p_ty b) := by
  induction a generalizing st with
  | nil => rfl
  | cons q t ih =>
    show (match p_op q.1 st with | some ty' => p_ty (t ++ b) ty' | none => none) = (match p_op q.1 st with | some ty' => p_ty t ty' | none => none).bind (p_ty b)
    cases p_op q.1 st with
    | none => rfl
    | some s => exact ih s
theorem p_ty_one {q : Nat × Int32} {st ty : List Bool} (h : p_op q.1 st = some ty) : p_ty [q] st = some ty := by
  show (match p_op q.1 st with | some ty' => p_ty [] ty' | none => none) = some ty
  rw [h]
  rfl
theorem g_op_app (a b : List rI) (n : Nat) : g_op n (a ++ b) = g_op n a ++ g_op (n + (g_tr (a.map (g_rs nI))).length) b := by
  induction a generalizing n with
  | nil => rfl
  | cons e t ih =>
    show (if e.2.2 = none then [] else [n + 1]) ++ g_op (n + (g_tr1 (g_rs nI e)).length) (t ++ b) = ((if e.2.2 = none then [] else [n + 1]) ++ g_op (n + (g_tr1 (g_rs nI e)).length) t) ++ g_op (n + (g_tr1 (g_rs nI e) ++ g_tr (t.map (g_rs nI))).length) b
    rw [ih, List.append_assoc, List.length_append, Nat.add_assoc]
theorem g_op_none {e : rI} {n : Nat} (h : e.2.2 = none) : g_op n [e] = [] := by
  show (if e.2.2 = none then [] else [n + 1]) ++ [] = []
  rw [if_pos h]; rfl
theorem g_op_some {e : rI} {n : Nat} (h : ¬ e.2.2 = none) : g_op n [e] = [n + 1] := by
  show (if e.2.2 = none then [] else [n + 1]) ++ [] = [n + 1]
  rw [if_neg h]; rfl
theorem rr_loc {N i : Nat} {f g : Nat → Int32} (h : ∀ j, j ≤ i → f j = g j) (k : rr_ok N f i) : rr_ok N g i := by
  unfold rr_ok at k ⊢
  rw [← h i (Nat.le_refl _)]
  rcases k with k | k | k | k | ⟨k1, k2, j, k3, k4⟩ | k | k | ⟨k1, k2, j, k3, k4⟩ | k | k
  · exact Or.inl k
  · exact Or.inr (Or.inl k)
  · exact Or.inr (Or.inr (Or.inl k))
  · exact Or.inr (Or.inr (Or.inr (Or.inl k)))
  · exact Or.inr (Or.inr (Or.inr (Or.inr (Or.inl ⟨k1, k2, j, k3, (h j (by omega)).symm.trans k4⟩))))
  · exact Or.inr (Or.inr (Or.inr (Or.inr (Or.inr (Or.inl k)))))
  · exact Or.inr (Or.inr (Or.inr (Or.inr (Or.inr (Or.inr (Or.inl k))))))
  · exact Or.inr (Or.inr (Or.inr (Or.inr (Or.inr (Or.inr (Or.inr (Or.inl ⟨k1, k2, j, k3, (h j (by omega)).symm.trans k4⟩)))))))
  · exact Or.inr (Or.inr (Or.inr (Or.inr (Or.inr (Or.inr (Or.inr (Or.inr (Or.inl k))))))))
  · exact Or.inr (Or.inr (Or.inr (Or.inr (Or.inr (Or.inr (Or.inr (Or.inr (Or.inr k))))))))
theorem g_ok_mono {T : rT} {t u : Nat} {f g : Nat → Int32} {e : rI} (h : t ≤ u) (hf : ∀ j, j < t → f j = g j) (k : g_ok T t f e) : g_ok T u g e := by
  refine ⟨k.1, fun j hj => ?_⟩
  obtain ⟨a, b, c⟩ := k.2 j hj
  rw [hf j a] at c
  exact ⟨by omega, b, c⟩
section XRI
variable {T : rT} {N : Nat} {pre : List rI} {ty ty' : List Bool} {R : rS}
theorem RI_adv (h : RI T N pre ty R) (hl : R.1.1 < N) : RI T N pre ty (r_adv R) := by
  obtain ⟨h1, h2, h3, h4, h5, h6, h7⟩ := h
  refine ⟨hl, h2, h3, fun i a b => h4 i (by have a : R.1.1 + 1 ≤ i := a; omega) b, fun i a => ?_, h6, fun e he => g_ok_mono (Nat.le_succ _) (fun _ _ => rfl) (h7 e he)⟩
  have a : i < R.1.1 + 1 := a
  by_cases q : i < R.1.1
  · exact h5 i q
  · exact Or.inl (h4 i (by omega) (by omega))
theorem RI_dp (d : Nat) (h : RI T N pre ty R) : RI T N pre ty ((R.1.1, d), R.2) := h
theorem RI_gh {k : Nat} {d : Int32} {c : List Int32} (h : RI T N pre ty R) (hop : p_op k ty = some ty') (hk : k ≠ 257 ∧ k ≠ 270 ∧ (k = 272 → d = 8)) (hc : g_tr1 (k, d) = c) : RI T N pre ty' (R.1, R.2.1 ++ c, R.2.2.1, R.2.2.2.1, R.2.2.2.2 ++ [(k, d, none)]) := by
  obtain ⟨h1, h2, h3, h4, h5, ⟨L, h6, h6'⟩, h7⟩ := h
  refine ⟨h1, ?_, ?_, h4, h5, ⟨L ++ [(k, d, none)], ?_, ?_⟩, fun e he => ?_⟩
  · show R.2.1 ++ c = g_tr ((R.2.2.2.2 ++ [(k, d, none)]).map (g_rs nI))
    rw [List.map_append, g_tr_app, ← h2, ← hc]
    exact congrArg (R.2.1 ++ ·) (g_tr_one (k, d)).symm
  · show R.2.2.1 = g_op 0 (R.2.2.2.2 ++ [(k, d, none)])
    rw [g_op_app, ← h3, g_op_none rfl, List.append_nil]
  · show R.2.2.2.2 ++ [(k, d, none)] = pre ++ (L ++ [(k, d, none)])
    rw [h6, List.append_assoc]
  · rw [List.map_append, p_ty_app, h6']
    exact p_ty_one hop
  · rcases List.mem_append.mp he with q | q
    · exact h7 e q
    · rw [List.mem_singleton.mp q]
      exact ⟨fun _ => hk, fun j hj => absurd hj (by simp)⟩
theorem RI_nm {k : Nat} {a c : Int32} (h : RI T N pre ty R) (hl : R.1.1 < N) (h40 : T.1 R.1.1 = 40) (hop : p_op k ty = some ty') (hk : ((k = 257 ∨ k = 272) ∧ a = 5) ∨ (k = 270 ∧ a = 6)) (hc : g_tr1 (k, nI R.1.1) = [c, nI R.1.1]) : RI T N pre ty' ((R.1.1 + 1, R.1.2), R.2.1 ++ [c] ++ [nI R.1.1], R.2.2.1 ++ [(R.2.1 ++ [c]).length], upd R.2.2.2.1 R.1.1 a, R.2.2.2.2 ++ [(k, 0, some R.1.1)]) := by
  obtain ⟨h1, h2, h3, h4, h5, ⟨L, h6, h6'⟩, h7⟩ := h
  have hu : ∀ j, j < R.1.1 → R.2.2.2.1 j = upd R.2.2.2.1 R.1.1 a j := fun j hj => by unfold upd; rw [if_neg (by omega)]
  have hua : upd R.2.2.2.1 R.1.1 a R.1.1 = a := by unfold upd; rw [if_pos rfl]
  refine ⟨hl, ?_, ?_, fun i p q => ?_, fun i p => ?_, ⟨L ++ [(k, 0, some R.1.1)], ?_, ?_⟩, fun e he => ?_⟩
  · show R.2.1 ++ [c] ++ [nI R.1.1] = g_tr ((R.2.2.2.2 ++ [(k, 0, some R.1.1)]).map (g_rs nI))
    rw [List.map_append, g_tr_app, ← h2, List.append_assoc]
    exact congrArg (R.2.1 ++ ·) ((g_tr_one (k, nI R.1.1)).trans hc).symm
  · show R.2.2.1 ++ [(R.2.1 ++ [c]).length] = g_op 0 (R.2.2.2.2 ++ [(k, 0, some R.1.1)])
    rw [g_op_app, ← h3, g_op_some (by simp), ← h2, List.length_append, Nat.zero_add]
    rfl
  · have p : R.1.1 + 1 ≤ i := p
    show upd R.2.2.2.1 R.1.1 a i = 0
    unfold upd
    rw [if_neg (by omega)]
    exact h4 i (by omega) q
  · have p : i < R.1.1 + 1 := p
    by_cases q : i < R.1.1
    · exact rr_loc (fun j hj => hu j (by omega)) (h5 i q)
    · have e : i = R.1.1 := by omega
      rw [e]
      unfold rr_ok
      rw [show (((R.1.1 + 1, R.1.2), R.2.1 ++ [c] ++ [nI R.1.1], R.2.2.1 ++ [(R.2.1 ++ [c]).length], upd R.2.2.2.1 R.1.1 a, R.2.2.2.2 ++ [(k, 0, some R.1.1)]) : rS).2.2.2.1 R.1.1 = a from hua]
      rcases hk with ⟨-, hk⟩ | ⟨-, hk⟩
      · exact Or.inr (Or.inr (Or.inr (Or.inr (Or.inr (Or.inl hk)))))
      · exact Or.inr (Or.inr (Or.inr (Or.inr (Or.inr (Or.inr (Or.inl hk))))))
  · show R.2.2.2.2 ++ [(k, 0, some R.1.1)] = pre ++ (L ++ [(k, 0, some R.1.1)])
    rw [h6, List.append_assoc]
  · rw [List.map_append, p_ty_app, h6']
    exact p_ty_one hop
  · rcases List.mem_append.mp he with q | q
    · exact g_ok_mono (Nat.le_succ _) hu (h7 e q)
    · rw [List.mem_singleton.mp q]
      refine ⟨fun z => absurd z (by simp), fun j hj => ?_⟩
      have e : R.1.1 = j := Option.some.inj hj
      rw [← e]
      refine ⟨Nat.lt_succ_self _, h40, ?_⟩
      show ((k = 257 ∨ k = 272) ∧ upd R.2.2.2.1 R.1.1 a R.1.1 = 5) ∨ (k = 270 ∧ upd R.2.2.2.1 R.1.1 a R.1.1 = 6)
      rw [hua]
      exact hk
theorem RI_lt {k : Int32} (hN : r_tok T N) (h : RI T N pre ty R) (hk : T.1 R.1.1 = k) (h9 : k < 900) : R.1.1 < N := r_ltn hN h.1 hk h9
theorem RI_deep {k : Int32} (hN : r_tok T N) (h : RI T N pre ty R) (hk : T.1 R.1.1 = k) (h9 : k < 900) (h8 : ¬ R.1.2 = 8) : RI T N pre ty (r_deep R) := by
  rw [r_deep_n h8]
  exact RI_dp (R.1.2 + 1) (RI_adv h (RI_lt hN h hk h9))
theorem RI_eat {k : Int32} (hN : r_tok T N) (h : RI T N pre ty R) (h9 : k < 900) : RI T N pre ty (r_eat T R k) := by
  by_cases q : T.1 R.1.1 = k
  · rw [r_eat_p q]; exact RI_adv h (RI_lt hN h q h9)
  · rw [r_eat_n q]; exact h
end XRI
theorem RO_dum {T : rT} {N : Nat} {b : Bool} : RO T N r_dum b := fun _ _ _ _ z => absurd z Bool.false_ne_true
