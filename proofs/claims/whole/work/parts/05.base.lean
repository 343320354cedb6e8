section XBASE
/-- a block of cells from address a on -/
def x_bk (M : x_M) (a : Nat) (L : List x_E) : Prop := ∀ (j : Nat) (c : x_E), L[j]? = some c → M.1 (a + j) = some c
/-- the heap with the block at a overwritten -/
def x_ov (M : x_M) (a : Nat) (L : List x_E) : x_M := (fun q => if a ≤ q ∧ q < a + L.length then L[q - a]? else M.1 q, M.2)
theorem x_ov_bk {M : x_M} {a : Nat} {L : List x_E} : x_bk (x_ov M a L) a L := by
  intro j c h
  have hj : j < L.length := (List.getElem?_eq_some_iff.mp h).1
  simp only [x_ov]
  rw [if_pos ⟨by omega, by omega⟩, show a + j - a = j by omega]
  exact h
theorem x_ovg {M : x_M} {a : Nat} {L : List x_E} {c : x_E} (j : Nat) (h : L[j]? = some c) : (x_ov M a L).1 (a + j) = some c := x_ov_bk j c h
theorem x_ov_far {M : x_M} {a p : Nat} {L LP : List x_E} (n : Nat) (h : x_bk M p LP) (hn : L.length = n) (hd : p + LP.length ≤ a ∨ a + n ≤ p) : x_bk (x_ov M a L) p LP := by
  intro j c hc
  have hj : j < LP.length := (List.getElem?_eq_some_iff.mp hc).1
  simp only [x_ov]
  rw [if_neg (by omega)]
  exact h j c hc
theorem x_ov_out {M : x_M} {a q : Nat} {L : List x_E} (h : q < a ∨ a + L.length ≤ q) : (x_ov M a L).1 q = M.1 q := by
  simp only [x_ov]
  rw [if_neg (by omega)]
theorem x_ov_ov {M : x_M} {a : Nat} {L L' : List x_E} (h : L.length = L'.length) : x_ov (x_ov M a L) a L' = x_ov M a L' := by
  refine Prod.ext (funext fun q => ?_) rfl
  simp only [x_ov]
  by_cases hq : a ≤ q ∧ q < a + L'.length
  · rw [if_pos hq, if_pos hq]
  · rw [if_neg hq, if_neg (by omega), if_neg hq]
theorem x_ov_self {M : x_M} {a : Nat} {L : List x_E} (h : x_bk M a L) : x_ov M a L = M := by
  refine Prod.ext (funext fun q => ?_) rfl
  simp only [x_ov]
  by_cases hq : a ≤ q ∧ q < a + L.length
  · rw [if_pos hq]
    obtain ⟨j, rfl⟩ : ∃ j, q = a + j := ⟨q - a, by omega⟩
    have hj : j < L.length := by omega
    rw [show a + j - a = j by omega, List.getElem?_eq_getElem hj]
    exact (h j _ (List.getElem?_eq_getElem hj)).symm
  · rw [if_neg hq]
theorem x_st_ov {M : x_M} {a : Nat} {L : List x_E} {c : x_E} (j : Nat) (h : j < L.length) : x_st (x_ov M a L) (a + j) c = x_ov M a (L.set j c) := by
  refine Prod.ext (funext fun q => ?_) rfl
  simp only [x_st, x_ov, List.length_set]
  by_cases e : q = a + j
  · subst e
    rw [if_pos rfl, if_pos ⟨by omega, by omega⟩, show a + j - a = j by omega, List.getElem?_set_self h]
  · rw [if_neg e]
    by_cases hq : a ≤ q ∧ q < a + L.length
    · rw [if_pos hq, if_pos hq, List.getElem?_set_ne (by omega)]
    · rw [if_neg hq, if_neg hq]
theorem x_bk_sub {M : x_M} {a : Nat} {L L' : List x_E} (h : x_bk M a L) (j : Nat) (hs : (L.drop j).take L'.length = L') : x_bk M (a + j) L' := by
  intro i c hc
  rw [← hs] at hc
  have hi : i < ((L.drop j).take L'.length).length := (List.getElem?_eq_some_iff.mp hc).1
  rw [List.getElem?_take] at hc
  split at hc
  · rw [List.getElem?_drop] at hc
    rw [Nat.add_assoc]
    exact h _ _ hc
  · cases hc
theorem x_ov_in {M : x_M} {a : Nat} {L L' : List x_E} (j : Nat) (h : j + L'.length ≤ L.length) : x_ov (x_ov M a L) (a + j) L' = x_ov M a (L.take j ++ (L' ++ L.drop (j + L'.length))) := by
  refine Prod.ext (funext fun q => ?_) rfl
  have hlen : (L.take j ++ (L' ++ L.drop (j + L'.length))).length = L.length := by simp; omega
  simp only [x_ov, hlen]
  by_cases hq : a ≤ q ∧ q < a + L.length
  · rw [if_pos hq]
    obtain ⟨i, rfl⟩ : ∃ i, q = a + i := ⟨q - a, by omega⟩
    rw [show a + i - a = i by omega]
    by_cases h1 : i < j
    · rw [if_neg (by omega), List.getElem?_append_left (by simp; omega), List.getElem?_take, if_pos h1, if_pos (by omega)]
    · by_cases h2 : i < j + L'.length
      · rw [if_pos (by omega), List.getElem?_append_right (by simp; omega), List.length_take, Nat.min_eq_left (by omega), List.getElem?_append_left (by omega), show a + i - (a + j) = i - j by omega, if_pos hq]
      · rw [if_neg (by omega), if_pos (by omega), List.getElem?_append_right (by simp; omega), List.length_take, Nat.min_eq_left (by omega), List.getElem?_append_right (by omega), List.getElem?_drop, show j + L'.length + (i - j - L'.length) = i by omega]
  · rw [if_neg hq, if_neg (by omega), if_neg (by omega)]
theorem x_st_self {M : x_M} {a : Nat} {c : x_E} (h : M.1 a = some c) : x_st M a c = M := by
  refine Prod.ext (funext fun q => ?_) rfl
  simp only [x_st]
  by_cases e : q = a
  · rw [if_pos e, e, h]
  · rw [if_neg e]
theorem x_st_st {M : x_M} {a : Nat} {c c' : x_E} : x_st (x_st M a c) a c' = x_st M a c' := by
  refine Prod.ext (funext fun q => ?_) rfl
  simp only [x_st]
  by_cases e : q = a
  · rw [if_pos e, if_pos e]
  · rw [if_neg e, if_neg e, if_neg e]
theorem x_st_eq {M : x_M} {a : Nat} {c : x_E} : (x_st M a c).1 a = some c := by simp [x_st]
theorem x_st_ne {M : x_M} {a b : Nat} {c : x_E} (h : b ≠ a) : (x_st M a c).1 b = M.1 b := by simp [x_st, h]
/-- a row's reading and writing, as its class does it -/
def rg (n : Nat) (f : Nat → Int32) (i : Int32) : Int32 := if i < 0 ∨ n ≤ i.toNatClampNeg then 0 else f i.toNatClampNeg
def rs (n : Nat) (f : Nat → Int32) (i x : Int32) : Nat → Int32 := if i < 0 ∨ n ≤ i.toNatClampNeg then f else upd f i.toNatClampNeg x
theorem rg_nI {n k : Nat} {f : Nat → Int32} (h : k < n) (hn : n < 2 ^ 31) : rg n f (nI k) = f k := by
  have h1 : (nI k).toNatClampNeg = k := nI_clamp (by omega)
  unfold rg
  rw [if_neg (nI_in h hn), h1]
theorem rs_nI {n k : Nat} {f : Nat → Int32} {x : Int32} (h : k < n) (hn : n < 2 ^ 31) : rs n f (nI k) x = upd f k x := by
  have h1 : (nI k).toNatClampNeg = k := nI_clamp (by omega)
  unfold rs
  rw [if_neg (nI_in h hn), h1]
theorem x_ge_len {i : Int32} {n : Nat} (hn : n < 2 ^ 31) (h0 : ¬ i < 0) : Int32.ofNat n ≤ i ↔ n ≤ i.toNatClampNeg := by
  obtain ⟨j, hj, rfl⟩ := nI_of h0
  rw [nI_clamp hj]
  exact nI_leI hn hj
section
variable {K : x_K} {l : Launch} {Y0 : x_Y} {y : MethodName} {cc : ByteArray} {nL d mc ms cells slots pc : Nat} {lv : List (Nat × Value)} {M : x_M}
theorem x_to {st : List Value} {M' : x_M} (h : M = M') (k : x_X K nL cells slots pc lv st M') : x_X K nL cells slots pc lv st M := h ▸ k
theorem x_topi {st : List Value} {x : Int32} (x' : Int32) (h : x = x') (k : x_X K nL cells slots pc lv (.int x' :: st) M) : x_X K nL cells slots pc lv (.int x :: st) M := h ▸ k
theorem x_take {st : List Value} (n : Nat) (k : x_X K nL cells slots pc (lv.take n) st M) : x_X K nL cells slots pc lv st M := by
  obtain ⟨p, l1, e, R, s, m, args, below, meth, c, Y, Q⟩ := K
  intro H locs ls hw hs hl
  exact k H locs ls hw hs ⟨hl.1, hl.2.1, fun q hq => hl.2.2 q (List.mem_of_mem_take hq)⟩
theorem x_lvs {st : List Value} {lv' : List (Nat × Value)} (h : lv' = lv) (k : x_X K nL cells slots pc lv st M) : x_X K nL cells slots pc lv' st M := h ▸ k
theorem x_callV0 (C : x_Ctx K l Y0 y cc nL d mc ms) {idx maxL dc : Nat} {z : MethodName} {bytes : ByteArray} {ret : Option FieldType} {Qc : Option Value → x_M → Prop} {a ci : Nat} {fs : List Value} {rest : List Value} (dd : decode cc pc = .ok (.invokevirtual idx, 3)) (hL : x_LV y.cls idx z bytes maxL 0 ret) (hM : x_C l Y0 z bytes maxL ret dc 0 0 [.ref a] M Qc) (ha : M.1 a = some (.inr (ci, fs))) (hci : (vwCl[ci]?).map (fun q => q.1) = some z.cls) (hd9 : dc + 1 ≤ d) (hf : cells ≤ mc ∧ slots ≤ ms) (hr9 : (rest.map fun v => v.category).sum ≤ 8) (kk : ∀ (v : Option Value) (M1 : x_M), Qc v M1 → x_X K nL cells slots (pc + 3) lv (v.toList ++ rest) M1) : x_X K nL cells slots pc lv (.ref a :: rest) M :=
  x_callV C dd hL hM ha hci rfl rfl hd9 hf hr9 kk
theorem x_callS0 (C : x_Ctx K l Y0 y cc nL d mc ms) {idx maxL dc : Nat} {z : MethodName} {bytes : ByteArray} {ret : Option FieldType} {Qc : Option Value → x_M → Prop} {rest : List Value} (dd : decode cc pc = .ok (.invokestatic idx, 3)) (hL : x_LS y.cls idx z bytes maxL 0 ret) (hM : x_C l Y0 z bytes maxL ret dc 0 0 [] M Qc) (hd9 : dc + 1 ≤ d) (hf : cells ≤ mc ∧ slots ≤ ms) (hr9 : (rest.map fun v => v.category).sum ≤ 8) (kk : ∀ (v : Option Value) (M1 : x_M), Qc v M1 → x_X K nL cells slots (pc + 3) lv (v.toList ++ rest) M1) : x_X K nL cells slots pc lv (rest) M :=
  x_callS C dd hL hM rfl rfl hd9 hf hr9 kk
theorem x_callV1 (C : x_Ctx K l Y0 y cc nL d mc ms) {idx maxL dc : Nat} {z : MethodName} {bytes : ByteArray} {ret : Option FieldType} {Qc : Option Value → x_M → Prop} {a ci : Nat} {fs : List Value} {rest : List Value} {u1 : Value} (dd : decode cc pc = .ok (.invokevirtual idx, 3)) (hL : x_LV y.cls idx z bytes maxL 1 ret) (hM : x_C l Y0 z bytes maxL ret dc 0 0 [.ref a, u1] M Qc) (ha : M.1 a = some (.inr (ci, fs))) (hci : (vwCl[ci]?).map (fun q => q.1) = some z.cls) (hd9 : dc + 1 ≤ d) (hf : cells ≤ mc ∧ slots ≤ ms) (hr9 : (rest.map fun v => v.category).sum ≤ 8) (kk : ∀ (v : Option Value) (M1 : x_M), Qc v M1 → x_X K nL cells slots (pc + 3) lv (v.toList ++ rest) M1) : x_X K nL cells slots pc lv (u1 :: .ref a :: rest) M :=
  x_callV C dd hL hM ha hci rfl rfl hd9 hf hr9 kk
theorem x_callS1 (C : x_Ctx K l Y0 y cc nL d mc ms) {idx maxL dc : Nat} {z : MethodName} {bytes : ByteArray} {ret : Option FieldType} {Qc : Option Value → x_M → Prop} {rest : List Value} {u1 : Value} (dd : decode cc pc = .ok (.invokestatic idx, 3)) (hL : x_LS y.cls idx z bytes maxL 1 ret) (hM : x_C l Y0 z bytes maxL ret dc 0 0 [u1] M Qc) (hd9 : dc + 1 ≤ d) (hf : cells ≤ mc ∧ slots ≤ ms) (hr9 : (rest.map fun v => v.category).sum ≤ 8) (kk : ∀ (v : Option Value) (M1 : x_M), Qc v M1 → x_X K nL cells slots (pc + 3) lv (v.toList ++ rest) M1) : x_X K nL cells slots pc lv (u1 :: rest) M :=
  x_callS C dd hL hM rfl rfl hd9 hf hr9 kk
theorem x_callV2 (C : x_Ctx K l Y0 y cc nL d mc ms) {idx maxL dc : Nat} {z : MethodName} {bytes : ByteArray} {ret : Option FieldType} {Qc : Option Value → x_M → Prop} {a ci : Nat} {fs : List Value} {rest : List Value} {u1 u2 : Value} (dd : decode cc pc = .ok (.invokevirtual idx, 3)) (hL : x_LV y.cls idx z bytes maxL 2 ret) (hM : x_C l Y0 z bytes maxL ret dc 0 0 [.ref a, u1, u2] M Qc) (ha : M.1 a = some (.inr (ci, fs))) (hci : (vwCl[ci]?).map (fun q => q.1) = some z.cls) (hd9 : dc + 1 ≤ d) (hf : cells ≤ mc ∧ slots ≤ ms) (hr9 : (rest.map fun v => v.category).sum ≤ 8) (kk : ∀ (v : Option Value) (M1 : x_M), Qc v M1 → x_X K nL cells slots (pc + 3) lv (v.toList ++ rest) M1) : x_X K nL cells slots pc lv (u2 :: u1 :: .ref a :: rest) M :=
  x_callV C dd hL hM ha hci rfl rfl hd9 hf hr9 kk
theorem x_callS2 (C : x_Ctx K l Y0 y cc nL d mc ms) {idx maxL dc : Nat} {z : MethodName} {bytes : ByteArray} {ret : Option FieldType} {Qc : Option Value → x_M → Prop} {rest : List Value} {u1 u2 : Value} (dd : decode cc pc = .ok (.invokestatic idx, 3)) (hL : x_LS y.cls idx z bytes maxL 2 ret) (hM : x_C l Y0 z bytes maxL ret dc 0 0 [u1, u2] M Qc) (hd9 : dc + 1 ≤ d) (hf : cells ≤ mc ∧ slots ≤ ms) (hr9 : (rest.map fun v => v.category).sum ≤ 8) (kk : ∀ (v : Option Value) (M1 : x_M), Qc v M1 → x_X K nL cells slots (pc + 3) lv (v.toList ++ rest) M1) : x_X K nL cells slots pc lv (u2 :: u1 :: rest) M :=
  x_callS C dd hL hM rfl rfl hd9 hf hr9 kk
theorem x_callV3 (C : x_Ctx K l Y0 y cc nL d mc ms) {idx maxL dc : Nat} {z : MethodName} {bytes : ByteArray} {ret : Option FieldType} {Qc : Option Value → x_M → Prop} {a ci : Nat} {fs : List Value} {rest : List Value} {u1 u2 u3 : Value} (dd : decode cc pc = .ok (.invokevirtual idx, 3)) (hL : x_LV y.cls idx z bytes maxL 3 ret) (hM : x_C l Y0 z bytes maxL ret dc 0 0 [.ref a, u1, u2, u3] M Qc) (ha : M.1 a = some (.inr (ci, fs))) (hci : (vwCl[ci]?).map (fun q => q.1) = some z.cls) (hd9 : dc + 1 ≤ d) (hf : cells ≤ mc ∧ slots ≤ ms) (hr9 : (rest.map fun v => v.category).sum ≤ 8) (kk : ∀ (v : Option Value) (M1 : x_M), Qc v M1 → x_X K nL cells slots (pc + 3) lv (v.toList ++ rest) M1) : x_X K nL cells slots pc lv (u3 :: u2 :: u1 :: .ref a :: rest) M :=
  x_callV C dd hL hM ha hci rfl rfl hd9 hf hr9 kk
theorem x_callS3 (C : x_Ctx K l Y0 y cc nL d mc ms) {idx maxL dc : Nat} {z : MethodName} {bytes : ByteArray} {ret : Option FieldType} {Qc : Option Value → x_M → Prop} {rest : List Value} {u1 u2 u3 : Value} (dd : decode cc pc = .ok (.invokestatic idx, 3)) (hL : x_LS y.cls idx z bytes maxL 3 ret) (hM : x_C l Y0 z bytes maxL ret dc 0 0 [u1, u2, u3] M Qc) (hd9 : dc + 1 ≤ d) (hf : cells ≤ mc ∧ slots ≤ ms) (hr9 : (rest.map fun v => v.category).sum ≤ 8) (kk : ∀ (v : Option Value) (M1 : x_M), Qc v M1 → x_X K nL cells slots (pc + 3) lv (v.toList ++ rest) M1) : x_X K nL cells slots pc lv (u3 :: u2 :: u1 :: rest) M :=
  x_callS C dd hL hM rfl rfl hd9 hf hr9 kk
theorem x_callV4 (C : x_Ctx K l Y0 y cc nL d mc ms) {idx maxL dc : Nat} {z : MethodName} {bytes : ByteArray} {ret : Option FieldType} {Qc : Option Value → x_M → Prop} {a ci : Nat} {fs : List Value} {rest : List Value} {u1 u2 u3 u4 : Value} (dd : decode cc pc = .ok (.invokevirtual idx, 3)) (hL : x_LV y.cls idx z bytes maxL 4 ret) (hM : x_C l Y0 z bytes maxL ret dc 0 0 [.ref a, u1, u2, u3, u4] M Qc) (ha : M.1 a = some (.inr (ci, fs))) (hci : (vwCl[ci]?).map (fun q => q.1) = some z.cls) (hd9 : dc + 1 ≤ d) (hf : cells ≤ mc ∧ slots ≤ ms) (hr9 : (rest.map fun v => v.category).sum ≤ 8) (kk : ∀ (v : Option Value) (M1 : x_M), Qc v M1 → x_X K nL cells slots (pc + 3) lv (v.toList ++ rest) M1) : x_X K nL cells slots pc lv (u4 :: u3 :: u2 :: u1 :: .ref a :: rest) M :=
  x_callV C dd hL hM ha hci rfl rfl hd9 hf hr9 kk
theorem x_callS4 (C : x_Ctx K l Y0 y cc nL d mc ms) {idx maxL dc : Nat} {z : MethodName} {bytes : ByteArray} {ret : Option FieldType} {Qc : Option Value → x_M → Prop} {rest : List Value} {u1 u2 u3 u4 : Value} (dd : decode cc pc = .ok (.invokestatic idx, 3)) (hL : x_LS y.cls idx z bytes maxL 4 ret) (hM : x_C l Y0 z bytes maxL ret dc 0 0 [u1, u2, u3, u4] M Qc) (hd9 : dc + 1 ≤ d) (hf : cells ≤ mc ∧ slots ≤ ms) (hr9 : (rest.map fun v => v.category).sum ≤ 8) (kk : ∀ (v : Option Value) (M1 : x_M), Qc v M1 → x_X K nL cells slots (pc + 3) lv (v.toList ++ rest) M1) : x_X K nL cells slots pc lv (u4 :: u3 :: u2 :: u1 :: rest) M :=
  x_callS C dd hL hM rfl rfl hd9 hf hr9 kk
theorem x_callV5 (C : x_Ctx K l Y0 y cc nL d mc ms) {idx maxL dc : Nat} {z : MethodName} {bytes : ByteArray} {ret : Option FieldType} {Qc : Option Value → x_M → Prop} {a ci : Nat} {fs : List Value} {rest : List Value} {u1 u2 u3 u4 u5 : Value} (dd : decode cc pc = .ok (.invokevirtual idx, 3)) (hL : x_LV y.cls idx z bytes maxL 5 ret) (hM : x_C l Y0 z bytes maxL ret dc 0 0 [.ref a, u1, u2, u3, u4, u5] M Qc) (ha : M.1 a = some (.inr (ci, fs))) (hci : (vwCl[ci]?).map (fun q => q.1) = some z.cls) (hd9 : dc + 1 ≤ d) (hf : cells ≤ mc ∧ slots ≤ ms) (hr9 : (rest.map fun v => v.category).sum ≤ 8) (kk : ∀ (v : Option Value) (M1 : x_M), Qc v M1 → x_X K nL cells slots (pc + 3) lv (v.toList ++ rest) M1) : x_X K nL cells slots pc lv (u5 :: u4 :: u3 :: u2 :: u1 :: .ref a :: rest) M :=
  x_callV C dd hL hM ha hci rfl rfl hd9 hf hr9 kk
theorem x_callS5 (C : x_Ctx K l Y0 y cc nL d mc ms) {idx maxL dc : Nat} {z : MethodName} {bytes : ByteArray} {ret : Option FieldType} {Qc : Option Value → x_M → Prop} {rest : List Value} {u1 u2 u3 u4 u5 : Value} (dd : decode cc pc = .ok (.invokestatic idx, 3)) (hL : x_LS y.cls idx z bytes maxL 5 ret) (hM : x_C l Y0 z bytes maxL ret dc 0 0 [u1, u2, u3, u4, u5] M Qc) (hd9 : dc + 1 ≤ d) (hf : cells ≤ mc ∧ slots ≤ ms) (hr9 : (rest.map fun v => v.category).sum ≤ 8) (kk : ∀ (v : Option Value) (M1 : x_M), Qc v M1 → x_X K nL cells slots (pc + 3) lv (v.toList ++ rest) M1) : x_X K nL cells slots pc lv (u5 :: u4 :: u3 :: u2 :: u1 :: rest) M :=
  x_callS C dd hL hM rfl rfl hd9 hf hr9 kk
end
end XBASE
