/-- a string of 7-bit signs at a, its bytes at t -/
def x_Str (Y : x_Y) (a t : Nat) (bs : List Nat) : Prop := va_O "java/lang/String" a (x_fr Y) Y.1 Y.1.heap ∧ va_OF "java/lang/String" "coder" "B" (.int 0) a (x_fr Y) Y.1 Y.1.heap ∧ va_OF "java/lang/String" "value" "[B" (.ref t) a (x_fr Y) Y.1 Y.1.heap ∧ va_T .byte t bs.length (fun j => .int (nI (bs.getD j 0))) (x_fr Y) Y.1 Y.1.heap
def s_as (bs : List Nat) : Prop := bs.length ≤ 200 ∧ ∀ b ∈ bs, b < 128
/-- what the JDK's text members read of statics -/
def x_Stc (Y : x_Y) : Prop := va_Z "java/lang/String" "COMPACT_STRINGS" "Z" (.int 1) (x_fr Y) Y.1 Y.1.heap ∧ va_Zq "jdk/internal/util/Preconditions" "SIOOBE_FORMATTER" "Ljava/util/function/BiFunction;" (x_fr Y) Y.1 Y.1.heap
section XSTR
variable {K : x_K} {l : Launch} {Y0 : x_Y} {y : MethodName} {cc : ByteArray} {nL d mc ms cells slots pc : Nat} {lv : List (Nat × Value)} {st : List Value} {M : x_M}
theorem x_callT (C : x_Ctx K l Y0 y cc nL d mc ms) {idx maxL n dc mc1 ms1 : Nat} {z : MethodName} {bytes : ByteArray} {ret : Option FieldType} {As : List Value} {Qc : Option Value → x_M → Prop} {a : Nat} {rest : List Value} (dd : decode cc pc = .ok (.invokevirtual idx, 3)) (hL : x_LV y.cls idx z bytes maxL n ret) (hM : x_C l Y0 z bytes maxL ret dc mc1 ms1 (.ref a :: As) M Qc) (hR : va_O "java/lang/String" a (x_fr Y0) Y0.1 Y0.1.heap) (hz : z.cls = "java/lang/String") (hn : As.length = n) (hst : st = As.reverse ++ .ref a :: rest) (hd9 : dc + 1 ≤ d) (hf : cells + mc1 ≤ mc ∧ slots + ms1 ≤ ms) (hr9 : (rest.map fun v => v.category).sum ≤ 8) (kk : ∀ (v : Option Value) (M1 : x_M), Qc v M1 → x_X K nL (cells + mc1) (slots + ms1) (pc + 3) lv (v.toList ++ rest) M1) : x_X K nL cells slots pc lv st M := by
  obtain ⟨⟨hlk9, hcode, hini, hne, hpar, hmL⟩, hkind9⟩ := hL
  obtain ⟨p, l1, e, R, s, m, args, below, meth, c, Y, Q⟩ := K
  have hKs := x_va_K C
  have hw0 := fun {w : Cond} (h : w ∈ lw_tbl) (hg : x_gd w) => x_word C h hg
  obtain ⟨hx, hb, hml, hown, hlk, hnm, hW, hok, hB, hfz, rfl, rfl, rfl⟩ := C
  intro H locs ls hw hs hl
  subst hst
  have hrec : ∃ cellB : Cell, H[a]? = some cellB ∧ cellB.vm.isStatics = false ∧ s.vm.findClass z.cls = some cellB.cls := by
    obtain ⟨cell, g1, g2, g3, -⟩ := ((va_O.moved hW.alike hR).kept (fun q _ h => hfz q (Nat.not_le.mp h))).kept hs.2.1
    exact ⟨cell, g1, g2, by rw [hz]; exact g3⟩
  have hrun : va_Run p l1 e (x_rm d mc ms) s m args below meth c H locs cells slots mc1 ms1 (F0 m pc ls (As.reverse ++ .ref a :: rest)) rest (x_Post Y Qc (Value.ref a :: As).toArray) (x_fr Y) := by
    rcases hlk9 with h9 | ⟨host, h9⟩
    · exact va_runV (Ts := []) ⟨hx, hb, hml, hown, fun _ h => nomatch h⟩ hM ⟨⟨rfl, rfl, hd9, by show 8 + (maxL + 11) + 40 * dc ≤ 40 * d; omega, fun w hw9 a' U hU => by cases List.mem_singleton.mp hw9; exact word_at hU (Or.inl rfl) (hw0 hcode (Or.inl rfl)), List.mem_singleton_self _, hw0 hcode (Or.inl rfl), hw0 hini (Or.inl rfl), hne, fun sig h => by rw [h] at hpar; exact (Option.some.inj hpar).symm, hw0 h9 (Or.inl rfl)⟩, hw0 hkind9.1 (Or.inl rfl), hw0 hkind9.2 (Or.inl rfl)⟩ ⟨x_blind _ _ _, hrec, fun U hU hWU => ⟨rfl, State.WarmedH.trans hW hWU, fun q h => by rw [hU, hs.2.1 q (Nat.lt_of_lt_of_le h hB) (fun h2 => Nat.not_le.mpr h h2)]; exact hfz q h, by rw [hU]; exact hw, by rw [hU]; exact Nat.le_trans hB hs.1⟩⟩ rfl hn hl.1 rfl (lv_room hr9) dd hf
    · exact va_runVN (Ts := []) ⟨hx, hb, hml, hown, fun _ h => nomatch h⟩ hM ⟨⟨⟨rfl, rfl, hd9, by show 8 + (maxL + 11) + 40 * dc ≤ 40 * d; omega, fun w hw9 a' U hU => by cases List.mem_singleton.mp hw9; exact word_at hU (Or.inl rfl) (hw0 hcode (Or.inl rfl)), List.mem_singleton_self _⟩, hw0 hcode (Or.inl rfl), hw0 hini (Or.inl rfl), hne, fun sig h => by rw [h] at hpar; exact (Option.some.inj hpar).symm, hw0 h9 (Or.inr (Or.inr (Or.inr ⟨_, _, _, _, rfl⟩)))⟩, hw0 hkind9.1 (Or.inl rfl), hw0 hkind9.2 (Or.inl rfl)⟩ ⟨x_blind _ _ _, hrec, fun U hU hWU => ⟨rfl, State.WarmedH.trans hW hWU, fun q h => by rw [hU, hs.2.1 q (Nat.lt_of_lt_of_le h hB) (fun h2 => Nat.not_le.mpr h h2)]; exact hfz q h, by rw [hU]; exact hw, by rw [hU]; exact Nat.le_trans hB hs.1⟩⟩ rfl hn hl.1 rfl (lv_room hr9) dd hf
  intro T hT X
  obtain ⟨v, st₀, t, T', L, h0, X', hL', e1, e2, ⟨v', M', ho, hq, hw', hz, hk⟩, stp⟩ := hrun T hT X
  cases ho
  rw [h0] at hz hk
  obtain ⟨t2, a1, b1⟩ := kk v M' hq T'.heap (locs ++ L) ls (by rw [e1]; exact hw') ⟨Nat.le_trans hs.1 (by rw [e1]; exact hz), fun q h1 h2 => by rw [e1, hk q (Nat.not_le.mp h2)]; exact hs.2.1 q h1 h2, fun q hq => by
      rcases List.mem_append.mp hq with h | h
      · exact hs.2.2 q h
      · exact hL' q h⟩ hl T' rfl X'
  exact ⟨t2, stp t2 a1, b1⟩
theorem x_nret {Qc : Option Value → x_M → Prop} {v : Int32} {ft : FieldType} (C : x_Ctx K l Y0 y cc nL d mc ms) (E : x_Ret K (some ft) cells slots Qc) (dd : decode cc pc = .ok (.ireturn, 1)) (hv : narrow ft (.int v) = .int v) (hq : Qc (some (.int v)) M) : x_X K nL cells slots pc lv [.int v] M := by
  obtain ⟨p, l1, e, R, s, m, args, below, meth, c, Y, Q⟩ := K
  obtain ⟨hx, hb, hml, hown, hlk, hnm, hW, hok, hB, hfz, rfl, rfl, rfl⟩ := C
  obtain ⟨hr, rfl⟩ := E
  intro H locs ls hw hs hl
  exact W.zret hx hb hr hv (fun t ht hW => ⟨_, M, rfl, hq, by rw [ht]; exact hw, by rw [ht]; exact hs.1, fun q h => by rw [ht]; exact hs.2.1 q (Nat.lt_of_lt_of_le h hB) (fun h2 => Nat.not_le.mpr h h2)⟩) hs.2.2 dd
theorem x_ldcS (C : x_Ctx K l Y0 y cc nL d mc ms) {idx q : Nat} {tx : String} (dd : decode cc pc = .ok (.ldc idx, 2)) (hZ : vk_R y.cls idx tx q Y0.1) (k : x_X K nL cells slots (pc + 2) lv (.ref q :: st) M) : x_X K nL cells slots pc lv st M := by
  obtain ⟨p, l1, e, R, s, m, args, below, meth, c, Y, Q⟩ := K
  have hw0 := fun {w : Cond} (h : w ∈ lw_tbl) (hg : x_gd w) => x_word C h hg
  obtain ⟨hx, hb, hml, hown, hlk, hnm, hW, hok, hB, hfz, rfl, rfl, rfl⟩ := C
  intro H locs ls hw hs hl
  exact va_ldcS hx hb hown (vk_R.warm hW hZ) dd (k H locs ls hw hs hl)
theorem x_getfS (C : x_Ctx K l Y0 y cc nL d mc ms) {idx q : Nat} {o n ds : String} {v : Value} (dd : decode cc pc = .ok (.getfield idx, 3)) (hlk9 : Cond.fieldLink y.cls idx o n ds ∈ lw_tbl) (hE : va_OF o n ds v q (x_fr Y0) Y0.1 Y0.1.heap) (k : x_X K nL cells slots (pc + 3) lv (v :: st) M) : x_X K nL cells slots pc lv (.ref q :: st) M := by
  obtain ⟨p, l1, e, R, s, m, args, below, meth, c, Y, Q⟩ := K
  have hw0 := fun {w : Cond} (h : w ∈ lw_tbl) (hg : x_gd w) => x_word C h hg
  obtain ⟨hx, hb, hml, hown, hlk, hnm, hW, hok, hB, hfz, rfl, rfl, rfl⟩ := C
  intro H locs ls hw hs hl
  exact vk_getf hx hb ((va_OF.moved hW.alike hE).kept (fun q _ h => hfz q (Nat.not_le.mp h))) hs hown (hw0 hlk9 (Or.inl rfl)) (fun x h => h) dd (k H locs ls hw hs hl)
theorem x_getsS (C : x_Ctx K l Y0 y cc nL d mc ms) {idx : Nat} {o n ds : String} {v : Value} (dd : decode cc pc = .ok (.getstatic idx, 3)) (hlk9 : Cond.fieldLink y.cls idx o n ds ∈ lw_tbl) (hE : va_Z o n ds v (x_fr Y0) Y0.1 Y0.1.heap) (k : x_X K nL cells slots (pc + 3) lv (v :: st) M) : x_X K nL cells slots pc lv st M := by
  obtain ⟨p, l1, e, R, s, m, args, below, meth, c, Y, Q⟩ := K
  have hw0 := fun {w : Cond} (h : w ∈ lw_tbl) (hg : x_gd w) => x_word C h hg
  obtain ⟨hx, hb, hml, hown, hlk, hnm, hW, hok, hB, hfz, rfl, rfl, rfl⟩ := C
  intro H locs ls hw hs hl
  exact va_gets hx hb ((va_Z.moved hW.alike hE).kept (fun q _ h => hfz q (Nat.not_le.mp h))) hs hown (hw0 hlk9 (Or.inl rfl)) (fun x h => h) dd (k H locs ls hw hs hl)
theorem x_alenT (C : x_Ctx K l Y0 y cc nL d mc ms) {t N : Nat} {ty : FieldType} {f : Nat → Value} (dd : decode cc pc = .ok (.arraylength, 1)) (hT : va_T ty t N f (x_fr Y0) Y0.1 Y0.1.heap) (k : x_X K nL cells slots (pc + 1) lv (.int (nI N) :: st) M) : x_X K nL cells slots pc lv (.ref t :: st) M := by
  obtain ⟨p, l1, e, R, s, m, args, below, meth, c, Y, Q⟩ := K
  have hw0 := fun {w : Cond} (h : w ∈ lw_tbl) (hg : x_gd w) => x_word C h hg
  obtain ⟨hx, hb, hml, hown, hlk, hnm, hW, hok, hB, hfz, rfl, rfl, rfl⟩ := C
  intro H locs ls hw hs hl
  exact va_tlen hx hb ((va_T.moved hW.alike hT).kept (fun q _ h => hfz q (Nat.not_le.mp h))) hs rfl dd (k H locs ls hw hs hl)
theorem x_balT (C : x_Ctx K l Y0 y cc nL d mc ms) {t N : Nat} {f : Nat → Value} {i : Int32} {v : Value} (dd : decode cc pc = .ok (.baload, 1)) (hT : va_T .byte t N f (x_fr Y0) Y0.1 Y0.1.heap) (hin : vp_in i N) (hv : f i.toNatClampNeg = v) (k : x_X K nL cells slots (pc + 1) lv (v :: st) M) : x_X K nL cells slots pc lv (.int i :: .ref t :: st) M := by
  obtain ⟨p, l1, e, R, s, m, args, below, meth, c, Y, Q⟩ := K
  have hw0 := fun {w : Cond} (h : w ∈ lw_tbl) (hg : x_gd w) => x_word C h hg
  obtain ⟨hx, hb, hml, hown, hlk, hnm, hW, hok, hB, hfz, rfl, rfl, rfl⟩ := C
  intro H locs ls hw hs hl
  exact va_tb hx hb ((va_T.moved hW.alike hT).kept (fun q _ h => hfz q (Nat.not_le.mp h))) hs hin hv dd (k H locs ls hw hs hl)
theorem x_aalT (C : x_Ctx K l Y0 y cc nL d mc ms) {t N : Nat} {cn : String} {f : Nat → Value} {i : Int32} {v : Value} (dd : decode cc pc = .ok (.aaload, 1)) (hT : va_T (.object cn) t N f (x_fr Y0) Y0.1 Y0.1.heap) (hin : vp_in i N) (hv : f i.toNatClampNeg = v) (k : x_X K nL cells slots (pc + 1) lv (v :: st) M) : x_X K nL cells slots pc lv (.int i :: .ref t :: st) M := by
  obtain ⟨p, l1, e, R, s, m, args, below, meth, c, Y, Q⟩ := K
  have hw0 := fun {w : Cond} (h : w ∈ lw_tbl) (hg : x_gd w) => x_word C h hg
  obtain ⟨hx, hb, hml, hown, hlk, hnm, hW, hok, hB, hfz, rfl, rfl, rfl⟩ := C
  intro H locs ls hw hs hl
  exact vb_tq hx hb ((va_T.moved hW.alike hT).kept (fun q _ h => hfz q (Nat.not_le.mp h))) hs hin hv dd (k H locs ls hw hs hl)
theorem x_i2b (C : x_Ctx K l Y0 y cc nL d mc ms) {x : Int32} (dd : decode cc pc = .ok (.i2b, 1)) (k : x_X K nL cells slots (pc + 1) lv (.int x.toInt8.toInt32 :: st) M) : x_X K nL cells slots pc lv (.int x :: st) M := by
  obtain ⟨p, l1, e, R, s, m, args, below, meth, c, Y, Q⟩ := K
  have hw0 := fun {w : Cond} (h : w ∈ lw_tbl) (hg : x_gd w) => x_word C h hg
  obtain ⟨hx, hb, hml, hown, hlk, hnm, hW, hok, hB, hfz, rfl, rfl, rfl⟩ := C
  intro H locs ls hw hs hl
  exact lv_i2b hx hb dd rfl (k H locs ls hw hs hl)
theorem x_popv (C : x_Ctx K l Y0 y cc nL d mc ms) {u : Value} (dd : decode cc pc = .ok (.pop, 1)) (hu : u.category = 1) (k : x_X K nL cells slots (pc + 1) lv st M) : x_X K nL cells slots pc lv (u :: st) M := x_pop C dd hu k
end XSTR
theorem s_shr0 : ∀ n, n ≤ 200 → nI n >>> ((0 : Int32) &&& 31) = nI n := by decide +kernel
theorem s_chr : ∀ n, n < 128 → ((nI n &&& 255).toUInt32 % 65536).toInt32 = nI n := by decide +kernel
theorem s_nar : ∀ n, n < 128 → narrow .char (.int (nI n)) = .int (nI n) := by decide +kernel
theorem s_b1 : ∀ n, n < 128 → (nI n).toInt8.toInt32 = nI n := by decide +kernel
theorem s_b2 : ∀ n, n < 256 → 128 ≤ n → (nI n).toInt8.toInt32 < 0 := by decide +kernel
theorem s_c16 : ∀ n, n < 256 → ((nI n).toUInt32 % 65536).toInt32 = nI n := by decide +kernel
def s_ix (c : Nat) : List Nat → Nat → Int32
  | [], _ => -1
  | b :: l, k => if b = c then nI k else s_ix c l (k + 1)
theorem s_ixc {c k : Nat} {bs : List Nat} (h : k < bs.length) : s_ix c (bs.drop k) k = if bs.getD k 0 = c then nI k else s_ix c (bs.drop (k + 1)) (k + 1) := by
  rw [List.drop_eq_getElem_cons h, s_ix]
  simp [List.getD, h]
theorem s_as_k {bs : List Nat} (h : s_as bs) {k : Nat} : bs.getD k 0 < 128 := by
  by_cases hk : k < bs.length
  · have e : bs.getD k 0 = bs[k] := by simp [List.getD, hk]
    rw [e]
    exact h.2 _ (List.getElem_mem hk)
  · have e : bs.getD k 0 = 0 := by simp [List.getD, hk]
    omega
theorem s_eqb {n c : Nat} (hn : n < 128) (hc : c < 256) : nI n = (nI c).toInt8.toInt32 ↔ n = c := by
  by_cases h : c < 128
  · rw [s_b1 c h]
    exact nI_eq (by omega) (by omega)
  · have h1 := s_b2 c hc (by omega)
    constructor
    · intro q
      rw [← q] at h1
      exact absurd h1 (nI_pos (by omega))
    · intro q
      omega
theorem kJ0_335 : x_LV RJ0 335 yJ0_coder_7d493 cJ0_coder_7d493 1 0 (some .byte) := ⟨⟨Or.inl (x_t1 _ (List.mem_of_getElem? (i := 169) (by decide +kernel))), (x_t1 _ (List.mem_of_getElem? (i := 172) (by decide +kernel))), (x_t1 _ (List.mem_of_getElem? (i := 8) (by decide +kernel))), ⟨by decide +kernel, by decide +kernel⟩, by decide +kernel, by decide⟩, (x_t1 _ (List.mem_of_getElem? (i := 170) (by decide +kernel))), (x_t1 _ (List.mem_of_getElem? (i := 171) (by decide +kernel)))⟩
theorem kJ0_492 : x_LV RJ0 492 yJ0_isLatin1_aae02 cJ0_isLatin1_aae02 1 0 (some .boolean) := ⟨⟨Or.inl (x_t1 _ (List.mem_of_getElem? (i := 179) (by decide +kernel))), (x_t1 _ (List.mem_of_getElem? (i := 182) (by decide +kernel))), (x_t1 _ (List.mem_of_getElem? (i := 8) (by decide +kernel))), ⟨by decide +kernel, by decide +kernel⟩, by decide +kernel, by decide⟩, (x_t1 _ (List.mem_of_getElem? (i := 180) (by decide +kernel))), (x_t1 _ (List.mem_of_getElem? (i := 181) (by decide +kernel)))⟩
theorem kJ0_495 : x_LS RJ0 495 yJ1_charAt_3b067 cJ1_charAt_3b067 2 2 (some .char) := ⟨⟨Or.inl (x_t1 _ (List.mem_of_getElem? (i := 183) (by decide +kernel))), (x_t1 _ (List.mem_of_getElem? (i := 185) (by decide +kernel))), (x_t1 _ (List.mem_of_getElem? (i := 9) (by decide +kernel))), ⟨by decide +kernel, by decide +kernel⟩, by decide +kernel, by decide⟩, (x_t1 _ (List.mem_of_getElem? (i := 184) (by decide +kernel)))⟩
theorem kJ1_9 : x_LS RJ1 9 yJ0_checkIndex_df160 cJ0_checkIndex_df160 2 2 .none := ⟨⟨Or.inl (x_t1 _ (List.mem_of_getElem? (i := 186) (by decide +kernel))), (x_t1 _ (List.mem_of_getElem? (i := 188) (by decide +kernel))), (x_t1 _ (List.mem_of_getElem? (i := 8) (by decide +kernel))), ⟨by decide +kernel, by decide +kernel⟩, by decide +kernel, by decide⟩, (x_t1 _ (List.mem_of_getElem? (i := 187) (by decide +kernel)))⟩
theorem kJ0_1059 : x_LS RJ0 1059 yJ3_checkIndex_8e157 cJ3_checkIndex_8e157 3 3 (some .int) := ⟨⟨Or.inl (x_t1 _ (List.mem_of_getElem? (i := 191) (by decide +kernel))), (x_t1 _ (List.mem_of_getElem? (i := 193) (by decide +kernel))), (x_t1 _ (List.mem_of_getElem? (i := 10) (by decide +kernel))), ⟨by decide +kernel, by decide +kernel⟩, by decide +kernel, by decide⟩, (x_t1 _ (List.mem_of_getElem? (i := 192) (by decide +kernel)))⟩
theorem kJ0_633 : x_LV RJ0 633 yJ0_indexOf_7cf53 cJ0_indexOf_7cf53 3 2 (some .int) := ⟨⟨Or.inl (x_t2 _ (List.mem_of_getElem? (i := 211) (by decide +kernel))), (x_t2 _ (List.mem_of_getElem? (i := 214) (by decide +kernel))), (x_t1 _ (List.mem_of_getElem? (i := 8) (by decide +kernel))), ⟨by decide +kernel, by decide +kernel⟩, by decide +kernel, by decide⟩, (x_t2 _ (List.mem_of_getElem? (i := 212) (by decide +kernel))), (x_t2 _ (List.mem_of_getElem? (i := 213) (by decide +kernel)))⟩
theorem kJ0_505 : x_LV RJ0 505 yJ0_length_8abf5 cJ0_length_8abf5 1 0 (some .int) := ⟨⟨Or.inl (x_t2 _ (List.mem_of_getElem? (i := 215) (by decide +kernel))), (x_t1 _ (List.mem_of_getElem? (i := 168) (by decide +kernel))), (x_t1 _ (List.mem_of_getElem? (i := 8) (by decide +kernel))), ⟨by decide +kernel, by decide +kernel⟩, by decide +kernel, by decide⟩, (x_t1 _ (List.mem_of_getElem? (i := 166) (by decide +kernel))), (x_t1 _ (List.mem_of_getElem? (i := 167) (by decide +kernel)))⟩
theorem kJ0_637 : x_LS RJ0 637 yJ1_indexOf_4cfef cJ1_indexOf_4cfef 4 4 (some .int) := ⟨⟨Or.inl (x_t2 _ (List.mem_of_getElem? (i := 216) (by decide +kernel))), (x_t2 _ (List.mem_of_getElem? (i := 218) (by decide +kernel))), (x_t1 _ (List.mem_of_getElem? (i := 9) (by decide +kernel))), ⟨by decide +kernel, by decide +kernel⟩, by decide +kernel, by decide⟩, (x_t2 _ (List.mem_of_getElem? (i := 217) (by decide +kernel)))⟩
theorem kJ1_88 : x_LS RJ1 88 yJ1_canEncode_9a6ad cJ1_canEncode_9a6ad 1 1 (some .boolean) := ⟨⟨Or.inl (x_t2 _ (List.mem_of_getElem? (i := 219) (by decide +kernel))), (x_t2 _ (List.mem_of_getElem? (i := 221) (by decide +kernel))), (x_t1 _ (List.mem_of_getElem? (i := 9) (by decide +kernel))), ⟨by decide +kernel, by decide +kernel⟩, by decide +kernel, by decide⟩, (x_t2 _ (List.mem_of_getElem? (i := 220) (by decide +kernel)))⟩
theorem kJ1_95 : x_LS RJ1 95 yJ1_indexOfChar_4cfef cJ1_indexOfChar_4cfef 6 4 (some .int) := ⟨⟨Or.inl (x_t2 _ (List.mem_of_getElem? (i := 226) (by decide +kernel))), (x_t2 _ (List.mem_of_getElem? (i := 228) (by decide +kernel))), (x_t1 _ (List.mem_of_getElem? (i := 9) (by decide +kernel))), ⟨by decide +kernel, by decide +kernel⟩, by decide +kernel, by decide⟩, (x_t2 _ (List.mem_of_getElem? (i := 227) (by decide +kernel)))⟩
theorem sJ0_9 : Cond.fieldLink RJ0 9 "java/lang/String" "value" "[B" ∈ lw_tbl := (x_t8 _ (List.mem_of_getElem? (i := 127) (by decide +kernel)))
theorem sJ0_15 : Cond.fieldLink RJ0 15 "java/lang/String" "coder" "B" ∈ lw_tbl := (x_t8 _ (List.mem_of_getElem? (i := 128) (by decide +kernel)))
theorem sJ0_38 : Cond.fieldLink RJ0 38 "java/lang/String" "COMPACT_STRINGS" "Z" ∈ lw_tbl := (x_t1 _ (List.mem_of_getElem? (i := 173) (by decide +kernel)))
theorem sJ0_1053 : Cond.fieldLink RJ0 1053 "jdk/internal/util/Preconditions" "SIOOBE_FORMATTER" "Ljava/util/function/BiFunction;" ∈ lw_tbl := (x_t1 _ (List.mem_of_getElem? (i := 189) (by decide +kernel)))
theorem sX11_116 : Cond.fieldLink RX11 116 "HoneyAccordModel" "WORDS" "[Ljava/lang/String;" ∈ lw_tbl := (x_t6 _ (List.mem_of_getElem? (i := 206) (by decide +kernel)))
theorem mJ1_92 : Cond.methodLink RJ1 92 Lib.Math.max.name ∈ lw_tbl := (x_t2 _ (List.mem_of_getElem? (i := 222) (by decide +kernel)))
theorem mJ1_38 : Cond.methodLink RJ1 38 Lib.Math.min.name ∈ lw_tbl := (x_t2 _ (List.mem_of_getElem? (i := 225) (by decide +kernel)))
set_option maxHeartbeats 4000000 in
set_option maxRecDepth 100000 in
theorem c_J0_coder_7d493 {l : Launch} {Y0 : x_Y} (hO : x_Ok Y0) {M : x_M} (hc : x_Stc Y0) {a t : Nat} {bs : List Nat} (hs : x_Str Y0 a t bs) : x_C l Y0 yJ0_coder_7d493 cJ0_coder_7d493 1 (some .byte) 1 0 0 [.ref a] M (fun u M1 => u = some (.int 0) ∧ M1 = M) := by
  refine x_start hO (by decide +kernel) (Nat.le_of_ble_eq_true rfl) (fun K C E => ?_)
  refine x_getsS C dJ0_coder_7d493_0 sJ0_38 hc.1 ?_
  refine x_if_eq (tgt := 13) C dJ0_coder_7d493_3 (by decide) (fun c3 => absurd c3 (by decide)) (fun c3 => ?_)
  refine x_aload_n C dJ0_coder_7d493_6 rfl rfl ?_
  refine x_getfS C dJ0_coder_7d493_7 sJ0_15 hs.2.1 ?_
  refine x_goto (tgt := 14) C dJ0_coder_7d493_10 (by decide) ?_
  refine x_nret C E dJ0_coder_7d493_14 rfl ?_
  exact ⟨rfl, rfl⟩
set_option maxHeartbeats 4000000 in
set_option maxRecDepth 100000 in
theorem c_J0_isLatin1_aae02 {l : Launch} {Y0 : x_Y} (hO : x_Ok Y0) {M : x_M} (hc : x_Stc Y0) {a t : Nat} {bs : List Nat} (hs : x_Str Y0 a t bs) : x_C l Y0 yJ0_isLatin1_aae02 cJ0_isLatin1_aae02 1 (some .boolean) 1 0 0 [.ref a] M (fun u M1 => u = some (.int 1) ∧ M1 = M) := by
  refine x_start hO (by decide +kernel) (Nat.le_of_ble_eq_true rfl) (fun K C E => ?_)
  refine x_getsS C dJ0_isLatin1_aae02_0 sJ0_38 hc.1 ?_
  refine x_if_eq (tgt := 17) C dJ0_isLatin1_aae02_3 (by decide) (fun c3 => absurd c3 (by decide)) (fun c3 => ?_)
  refine x_aload_n C dJ0_isLatin1_aae02_6 rfl rfl ?_
  refine x_getfS C dJ0_isLatin1_aae02_7 sJ0_15 hs.2.1 ?_
  refine x_if_ne (tgt := 17) C dJ0_isLatin1_aae02_10 (by decide) (fun c10 => absurd c10 (by decide)) (fun c10 => ?_)
  refine x_iconst (v := 1) C dJ0_isLatin1_aae02_13 (by decide) ?_
  refine x_goto (tgt := 18) C dJ0_isLatin1_aae02_14 (by decide) ?_
  refine x_zret C E dJ0_isLatin1_aae02_18 rfl ?_
  exact ⟨rfl, rfl⟩
set_option maxHeartbeats 4000000 in
set_option maxRecDepth 100000 in
theorem c_J0_length_8abf5 {l : Launch} {Y0 : x_Y} (hO : x_Ok Y0) {M : x_M} (hc : x_Stc Y0) {a t : Nat} {bs : List Nat} (hs : x_Str Y0 a t bs) (ha : s_as bs) : x_C l Y0 yJ0_length_8abf5 cJ0_length_8abf5 1 (some .int) 2 0 0 [.ref a] M (fun u M1 => u = some (.int (nI bs.length)) ∧ M1 = M) := by
  refine x_start hO (by decide +kernel) (Nat.le_of_ble_eq_true rfl) (fun K C E => ?_)
  refine x_aload_n C dJ0_length_8abf5_0 rfl rfl ?_
  refine x_getfS C dJ0_length_8abf5_1 sJ0_9 hs.2.2.1 ?_
  refine x_alenT C dJ0_length_8abf5_4 hs.2.2.2 ?_
  refine x_aload_n C dJ0_length_8abf5_5 rfl rfl ?_
  refine x_callT (As := []) C dJ0_length_8abf5_6 kJ0_335 (c_J0_coder_7d493 hO hc hs) hs.1 rfl rfl rfl (by decide) ⟨Nat.zero_le _, Nat.zero_le _⟩ (Nat.le_of_ble_eq_true rfl) ?_
  rintro _ _ ⟨rfl, rfl⟩
  refine x_ishr C dJ0_length_8abf5_9 ?_
  rw [s_shr0 _ ha.1]
  refine x_iret C E dJ0_length_8abf5_10 ?_
  exact ⟨rfl, rfl⟩
set_option maxHeartbeats 4000000 in
set_option maxRecDepth 100000 in
theorem c_J3_checkIndex_n {l : Launch} {Y0 : x_Y} (hO : x_Ok Y0) {M : x_M} {k n : Nat} (hk : k < n) (hn : n < 2 ^ 31) : x_C l Y0 yJ3_checkIndex_8e157 cJ3_checkIndex_8e157 3 (some .int) 1 0 0 [.int (nI k), .int (nI n), .null] M (fun u M1 => u = some (.int (nI k)) ∧ M1 = M) := by
  refine x_start hO (by decide +kernel) (Nat.le_of_ble_eq_true rfl) (fun K C E => ?_)
  refine x_iload_n C dJ3_checkIndex_8e157_0 rfl rfl ?_
  refine x_if_lt (tgt := 9) C dJ3_checkIndex_8e157_1 (by decide) (fun c1 => absurd c1 (nI_pos (by omega))) (fun c1 => ?_)
  refine x_iload_n C dJ3_checkIndex_8e157_4 rfl rfl ?_
  refine x_iload_n C dJ3_checkIndex_8e157_5 rfl rfl ?_
  refine x_icmp_lt (tgt := 16) C dJ3_checkIndex_8e157_6 (by decide) (fun c6 => ?_) (fun c6 => absurd (nI_lt hk hn) c6)
  refine x_iload_n C dJ3_checkIndex_8e157_16 rfl rfl ?_
  refine x_iret C E dJ3_checkIndex_8e157_17 ?_
  exact ⟨rfl, rfl⟩
set_option maxHeartbeats 4000000 in
set_option maxRecDepth 100000 in
theorem c_J3_checkIndex_r {l : Launch} {Y0 : x_Y} (hO : x_Ok Y0) {M : x_M} {k n q : Nat} (hk : k < n) (hn : n < 2 ^ 31) : x_C l Y0 yJ3_checkIndex_8e157 cJ3_checkIndex_8e157 3 (some .int) 1 0 0 [.int (nI k), .int (nI n), .ref q] M (fun u M1 => u = some (.int (nI k)) ∧ M1 = M) := by
  refine x_start hO (by decide +kernel) (Nat.le_of_ble_eq_true rfl) (fun K C E => ?_)
  refine x_iload_n C dJ3_checkIndex_8e157_0 rfl rfl ?_
  refine x_if_lt (tgt := 9) C dJ3_checkIndex_8e157_1 (by decide) (fun c1 => absurd c1 (nI_pos (by omega))) (fun c1 => ?_)
  refine x_iload_n C dJ3_checkIndex_8e157_4 rfl rfl ?_
  refine x_iload_n C dJ3_checkIndex_8e157_5 rfl rfl ?_
  refine x_icmp_lt (tgt := 16) C dJ3_checkIndex_8e157_6 (by decide) (fun c6 => ?_) (fun c6 => absurd (nI_lt hk hn) c6)
  refine x_iload_n C dJ3_checkIndex_8e157_16 rfl rfl ?_
  refine x_iret C E dJ3_checkIndex_8e157_17 ?_
  exact ⟨rfl, rfl⟩
set_option maxHeartbeats 4000000 in
theorem c_J0_checkIndex {l : Launch} {Y0 : x_Y} (hO : x_Ok Y0) {M : x_M} (hc : x_Stc Y0) {k n : Nat} (hk : k < n) (hn : n < 2 ^ 31) : x_C l Y0 yJ0_checkIndex_df160 cJ0_checkIndex_df160 2 none 2 0 0 [.int (nI k), .int (nI n)] M (fun u M1 => u = none ∧ M1 = M) := by
  refine x_start hO (by decide +kernel) (Nat.le_of_ble_eq_true rfl) (fun K C E => ?_)
  rcases hc.2 with hz | ⟨q, hz⟩
  · refine x_iload_n C dJ0_checkIndex_df160_0 rfl rfl ?_
    refine x_iload_n C dJ0_checkIndex_df160_1 rfl rfl ?_
    refine x_getsS C dJ0_checkIndex_df160_2 sJ0_1053 hz ?_
    refine x_callS3 C dJ0_checkIndex_df160_5 kJ0_1059 (c_J3_checkIndex_n hO hk hn) (by decide) ⟨Nat.zero_le _, Nat.zero_le _⟩ (Nat.le_of_ble_eq_true rfl) ?_
    rintro _ _ ⟨rfl, rfl⟩
    refine x_pop C dJ0_checkIndex_df160_8 rfl ?_
    refine x_vret C E dJ0_checkIndex_df160_9 ?_
    exact ⟨rfl, rfl⟩
  · refine x_iload_n C dJ0_checkIndex_df160_0 rfl rfl ?_
    refine x_iload_n C dJ0_checkIndex_df160_1 rfl rfl ?_
    refine x_getsS C dJ0_checkIndex_df160_2 sJ0_1053 hz ?_
    refine x_callS3 C dJ0_checkIndex_df160_5 kJ0_1059 (c_J3_checkIndex_r hO hk hn) (by decide) ⟨Nat.zero_le _, Nat.zero_le _⟩ (Nat.le_of_ble_eq_true rfl) ?_
    rintro _ _ ⟨rfl, rfl⟩
    refine x_pop C dJ0_checkIndex_df160_8 rfl ?_
    refine x_vret C E dJ0_checkIndex_df160_9 ?_
    exact ⟨rfl, rfl⟩
set_option maxHeartbeats 4000000 in
set_option maxRecDepth 100000 in
theorem c_J1_charAt {l : Launch} {Y0 : x_Y} (hO : x_Ok Y0) {M : x_M} (hc : x_Stc Y0) {a t : Nat} {bs : List Nat} (hs : x_Str Y0 a t bs) (ha : s_as bs) {k : Nat} (hk : k < bs.length) : x_C l Y0 yJ1_charAt_3b067 cJ1_charAt_3b067 2 (some .char) 3 0 0 [.ref t, .int (nI k)] M (fun u M1 => u = some (.int (nI (bs.getD k 0))) ∧ M1 = M) := by
  refine x_start hO (by decide +kernel) (Nat.le_of_ble_eq_true rfl) (fun K C E => ?_)
  refine x_iload_n C dJ1_charAt_3b067_0 rfl rfl ?_
  refine x_aload_n C dJ1_charAt_3b067_1 rfl rfl ?_
  refine x_alenT C dJ1_charAt_3b067_2 hs.2.2.2 ?_
  refine x_callS2 C dJ1_charAt_3b067_3 kJ1_9 (c_J0_checkIndex hO hc hk (show bs.length < 2 ^ 31 from Nat.lt_of_le_of_lt ha.1 (by decide))) (by decide) ⟨Nat.zero_le _, Nat.zero_le _⟩ (Nat.le_of_ble_eq_true rfl) ?_
  rintro _ _ ⟨rfl, rfl⟩
  refine x_aload_n C dJ1_charAt_3b067_6 rfl rfl ?_
  refine x_iload_n C dJ1_charAt_3b067_7 rfl rfl ?_
  refine x_balT C dJ1_charAt_3b067_8 hs.2.2.2 (nI_in hk (show bs.length < 2 ^ 31 from Nat.lt_of_le_of_lt ha.1 (by decide))) rfl ?_
  have hk31 : k < 2 ^ 31 := by have := ha.1; omega
  rw [nI_clamp hk31]
  refine x_sipush (v := 255) C dJ1_charAt_3b067_9 (by decide) ?_
  refine x_iand C dJ1_charAt_3b067_12 ?_
  refine x_i2c C dJ1_charAt_3b067_13 ?_
  rw [s_chr _ (s_as_k ha)]
  refine x_nret C E dJ1_charAt_3b067_14 (s_nar _ (s_as_k ha)) ?_
  exact ⟨rfl, rfl⟩
set_option maxHeartbeats 4000000 in
set_option maxRecDepth 100000 in
theorem c_J0_charAt {l : Launch} {Y0 : x_Y} (hO : x_Ok Y0) {M : x_M} (hc : x_Stc Y0) {a t : Nat} {bs : List Nat} (hs : x_Str Y0 a t bs) (ha : s_as bs) {k : Nat} (hk : k < bs.length) : x_C l Y0 yJ0_charAt_5068e cJ0_charAt_5068e 2 (some .char) 4 0 0 [.ref a, .int (nI k)] M (fun u M1 => u = some (.int (nI (bs.getD k 0))) ∧ M1 = M) := by
  refine x_start hO (by decide +kernel) (Nat.le_of_ble_eq_true rfl) (fun K C E => ?_)
  refine x_aload_n C dJ0_charAt_5068e_0 rfl rfl ?_
  refine x_callT (As := []) C dJ0_charAt_5068e_1 kJ0_492 (c_J0_isLatin1_aae02 hO hc hs) hs.1 rfl rfl rfl (by decide) ⟨Nat.zero_le _, Nat.zero_le _⟩ (Nat.le_of_ble_eq_true rfl) ?_
  rintro _ _ ⟨rfl, rfl⟩
  refine x_if_eq (tgt := 16) C dJ0_charAt_5068e_4 (by decide) (fun c4 => absurd c4 (by decide)) (fun c4 => ?_)
  refine x_aload_n C dJ0_charAt_5068e_7 rfl rfl ?_
  refine x_getfS C dJ0_charAt_5068e_8 sJ0_9 hs.2.2.1 ?_
  refine x_iload_n C dJ0_charAt_5068e_11 rfl rfl ?_
  refine x_callS2 C dJ0_charAt_5068e_12 kJ0_495 (c_J1_charAt hO hc hs ha hk) (by decide) ⟨Nat.zero_le _, Nat.zero_le _⟩ (Nat.le_of_ble_eq_true rfl) ?_
  rintro _ _ ⟨rfl, rfl⟩
  refine x_nret C E dJ0_charAt_5068e_15 (s_nar _ (s_as_k ha)) ?_
  exact ⟨rfl, rfl⟩
set_option maxHeartbeats 4000000 in
set_option maxRecDepth 100000 in
theorem c_J1_canEncode {l : Launch} {Y0 : x_Y} (hO : x_Ok Y0) {M : x_M} {ch : Nat} (hch : ch < 256) : x_C l Y0 yJ1_canEncode_9a6ad cJ1_canEncode_9a6ad 1 (some .boolean) 1 0 0 [.int (nI ch)] M (fun u M1 => u = some (.int 1) ∧ M1 = M) := by
  refine x_start hO (by decide +kernel) (Nat.le_of_ble_eq_true rfl) (fun K C E => ?_)
  refine x_iload_n C dJ1_canEncode_9a6ad_0 rfl rfl ?_
  refine x_if_lt (tgt := 15) C dJ1_canEncode_9a6ad_1 (by decide) (fun c1 => absurd c1 (nI_pos (by omega))) (fun c1 => ?_)
  refine x_iload_n C dJ1_canEncode_9a6ad_4 rfl rfl ?_
  refine x_sipush (v := 255) C dJ1_canEncode_9a6ad_5 (by decide) ?_
  refine x_icmp_gt (tgt := 15) C dJ1_canEncode_9a6ad_8 (by decide) (fun c8 => absurd c8 (show ¬ nI 255 < nI ch from nI_nlt (by omega) (by decide))) (fun c8 => ?_)
  refine x_iconst (v := 1) C dJ1_canEncode_9a6ad_11 (by decide) ?_
  refine x_goto (tgt := 16) C dJ1_canEncode_9a6ad_12 (by decide) ?_
  refine x_zret C E dJ1_canEncode_9a6ad_16 rfl ?_
  exact ⟨rfl, rfl⟩
set_option maxHeartbeats 4000000 in
set_option maxRecDepth 100000 in
theorem c_J1_indexOfChar {l : Launch} {Y0 : x_Y} (hO : x_Ok Y0) {M : x_M} (hc : x_Stc Y0) {a t : Nat} {bs : List Nat} (hs : x_Str Y0 a t bs) (ha : s_as bs) {ch : Nat} (hch : ch < 256) : x_C l Y0 yJ1_indexOfChar_4cfef cJ1_indexOfChar_4cfef 6 (some .int) 1 0 0 [.ref t, .int (nI ch), .int 0, .int (nI bs.length)] M (fun u M1 => u = some (.int (s_ix ch bs 0)) ∧ M1 = M) := by
  refine x_start hO (by decide +kernel) (Nat.le_of_ble_eq_true rfl) (fun K C E => ?_)
  have hl0 := ha.1
  have lp : ∀ (w k : Nat) (z : Int32), k + w = bs.length → z = nI k → s_ix ch bs 0 = s_ix ch (bs.drop k) k → x_X K 6 0 0 7 [(0, .ref t), (1, .int (nI ch)), (2, .int 0), (3, .int (nI bs.length)), (4, .int (nI ch).toInt8.toInt32), (5, .int z)] [] M := by
    intro w
    induction w with
    | zero =>
      intro k z hk hz hq
      subst hz
      have e : k = bs.length := by omega
      subst e
      refine x_iload C dJ1_indexOfChar_4cfef_7 rfl ?_
      refine x_iload_n C dJ1_indexOfChar_4cfef_9 rfl rfl ?_
      refine x_icmp_ge (tgt := 31) C dJ1_indexOfChar_4cfef_10 (by decide) (fun c10 => ?_) (fun c10 => absurd (nI_le (Nat.le_refl _) (by omega)) c10)
      refine x_iconst (v := (-1)) C dJ1_indexOfChar_4cfef_31 (by decide) ?_
      refine x_iret C E dJ1_indexOfChar_4cfef_32 ?_
      exact ⟨by rw [hq, List.drop_length]; rfl, rfl⟩
    | succ w ih =>
      intro k z hk hz hq
      subst hz
      refine x_iload C dJ1_indexOfChar_4cfef_7 rfl ?_
      refine x_iload_n C dJ1_indexOfChar_4cfef_9 rfl rfl ?_
      refine x_icmp_ge (tgt := 31) C dJ1_indexOfChar_4cfef_10 (by decide) (fun c10 => absurd c10 (nI_ge (by omega) (by omega))) (fun c10 => ?_)
      refine x_aload_n C dJ1_indexOfChar_4cfef_13 rfl rfl ?_
      refine x_iload C dJ1_indexOfChar_4cfef_14 rfl ?_
      refine x_balT C dJ1_indexOfChar_4cfef_16 hs.2.2.2 (nI_in (show k < bs.length by omega) (by omega)) rfl ?_
      rw [nI_clamp (show k < 2 ^ 31 by omega)]
      refine x_iload C dJ1_indexOfChar_4cfef_17 rfl ?_
      refine x_icmp_ne (tgt := 25) C dJ1_indexOfChar_4cfef_19 (by decide) (fun c19 => ?_) (fun c19 => ?_)
      · refine x_iinc (v := 1) C dJ1_indexOfChar_4cfef_25 rfl (by decide) rfl (by decide) ?_
        refine x_goto (tgt := 7) C dJ1_indexOfChar_4cfef_28 (by decide) ?_
        exact ih (k + 1) _ (by omega) (nI_1 k) (by rw [hq, s_ixc (by omega), if_neg (fun q => c19 ((s_eqb (s_as_k ha) hch).mpr q))])
      · refine x_iload C dJ1_indexOfChar_4cfef_22 rfl ?_
        refine x_iret C E dJ1_indexOfChar_4cfef_24 ?_
        exact ⟨by rw [hq, s_ixc (by omega), if_pos ((s_eqb (s_as_k ha) hch).mp c19)], rfl⟩
  refine x_iload_n C dJ1_indexOfChar_4cfef_0 rfl rfl ?_
  refine x_i2b C dJ1_indexOfChar_4cfef_1 ?_
  refine x_istore C dJ1_indexOfChar_4cfef_2 rfl (by decide) ?_
  refine x_iload_n C dJ1_indexOfChar_4cfef_4 rfl rfl ?_
  refine x_istore C dJ1_indexOfChar_4cfef_5 rfl (by decide) ?_
  exact lp bs.length 0 0 (by omega) rfl rfl
set_option maxHeartbeats 4000000 in
set_option maxRecDepth 100000 in
theorem c_J1_indexOf {l : Launch} {Y0 : x_Y} (hO : x_Ok Y0) {M : x_M} (hc : x_Stc Y0) {a t : Nat} {bs : List Nat} (hs : x_Str Y0 a t bs) (ha : s_as bs) {ch : Nat} (hch : ch < 256) (h0 : 0 < bs.length) : x_C l Y0 yJ1_indexOf_4cfef cJ1_indexOf_4cfef 4 (some .int) 2 0 0 [.ref t, .int (nI ch), .int 0, .int (nI bs.length)] M (fun u M1 => u = some (.int (s_ix ch bs 0)) ∧ M1 = M) := by
  refine x_start hO (by decide +kernel) (Nat.le_of_ble_eq_true rfl) (fun K C E => ?_)
  refine x_iload_n C dJ1_indexOf_4cfef_0 rfl rfl ?_
  refine x_callS1 C dJ1_indexOf_4cfef_1 kJ1_88 (c_J1_canEncode hO hch) (by decide) ⟨Nat.zero_le _, Nat.zero_le _⟩ (Nat.le_of_ble_eq_true rfl) ?_
  rintro _ _ ⟨rfl, rfl⟩
  refine x_if_ne (tgt := 9) C dJ1_indexOf_4cfef_4 (by decide) (fun c4 => ?_) (fun c4 => absurd c4 (show ¬ (1 : Int32) = 0 by decide))
  refine x_iload_n C dJ1_indexOf_4cfef_9 rfl rfl ?_
  refine x_iconst (v := 0) C dJ1_indexOf_4cfef_10 (by decide) ?_
  refine x_mmax C dJ1_indexOf_4cfef_11 mJ1_92 (by decide) ⟨Nat.zero_le _, Nat.zero_le _⟩ (Nat.le_of_ble_eq_true rfl) ?_
  refine x_topi 0 (by decide) ?_
  refine x_istore_n C dJ1_indexOf_4cfef_14 rfl rfl (by decide) ?_
  refine x_iload_n C dJ1_indexOf_4cfef_15 rfl rfl ?_
  refine x_aload_n C dJ1_indexOf_4cfef_16 rfl rfl ?_
  refine x_alenT C dJ1_indexOf_4cfef_17 hs.2.2.2 ?_
  refine x_mmin C dJ1_indexOf_4cfef_18 mJ1_38 (by decide) ⟨Nat.zero_le _, Nat.zero_le _⟩ (Nat.le_of_ble_eq_true rfl) ?_
  refine x_topi (nI bs.length) (ite_self _) ?_
  refine x_istore_n C dJ1_indexOf_4cfef_21 rfl rfl (by decide) ?_
  refine x_iload_n C dJ1_indexOf_4cfef_22 rfl rfl ?_
  refine x_iload_n C dJ1_indexOf_4cfef_23 rfl rfl ?_
  refine x_icmp_lt (tgt := 29) C dJ1_indexOf_4cfef_24 (by decide) (fun c24 => ?_) (fun c24 => absurd (nI_lt h0 (Nat.lt_of_le_of_lt ha.1 (by decide))) c24)
  refine x_aload_n C dJ1_indexOf_4cfef_29 rfl rfl ?_
  refine x_iload_n C dJ1_indexOf_4cfef_30 rfl rfl ?_
  refine x_iload_n C dJ1_indexOf_4cfef_31 rfl rfl ?_
  refine x_iload_n C dJ1_indexOf_4cfef_32 rfl rfl ?_
  refine x_callS4 C dJ1_indexOf_4cfef_33 kJ1_95 (c_J1_indexOfChar hO hc hs ha hch) (by decide) ⟨Nat.zero_le _, Nat.zero_le _⟩ (Nat.le_of_ble_eq_true rfl) ?_
  rintro _ _ ⟨rfl, rfl⟩
  refine x_iret C E dJ1_indexOf_4cfef_36 ?_
  exact ⟨rfl, rfl⟩
set_option maxHeartbeats 4000000 in
set_option maxRecDepth 100000 in
theorem c_J0_indexOf2 {l : Launch} {Y0 : x_Y} (hO : x_Ok Y0) {M : x_M} (hc : x_Stc Y0) {a t : Nat} {bs : List Nat} (hs : x_Str Y0 a t bs) (ha : s_as bs) {ch : Nat} (hch : ch < 256) (h0 : 0 < bs.length) : x_C l Y0 yJ0_indexOf_7cf53 cJ0_indexOf_7cf53 3 (some .int) 3 0 0 [.ref a, .int (nI ch), .int 0] M (fun u M1 => u = some (.int (s_ix ch bs 0)) ∧ M1 = M) := by
  refine x_start hO (by decide +kernel) (Nat.le_of_ble_eq_true rfl) (fun K C E => ?_)
  refine x_aload_n C dJ0_indexOf_7cf53_0 rfl rfl ?_
  refine x_callT (As := []) C dJ0_indexOf_7cf53_1 kJ0_492 (c_J0_isLatin1_aae02 hO hc hs) hs.1 rfl rfl rfl (by decide) ⟨Nat.zero_le _, Nat.zero_le _⟩ (Nat.le_of_ble_eq_true rfl) ?_
  rintro _ _ ⟨rfl, rfl⟩
  refine x_if_eq (tgt := 23) C dJ0_indexOf_7cf53_4 (by decide) (fun c4 => absurd c4 (by decide)) (fun c4 => ?_)
  refine x_aload_n C dJ0_indexOf_7cf53_7 rfl rfl ?_
  refine x_getfS C dJ0_indexOf_7cf53_8 sJ0_9 hs.2.2.1 ?_
  refine x_iload_n C dJ0_indexOf_7cf53_11 rfl rfl ?_
  refine x_iload_n C dJ0_indexOf_7cf53_12 rfl rfl ?_
  refine x_aload_n C dJ0_indexOf_7cf53_13 rfl rfl ?_
  refine x_callT (As := []) C dJ0_indexOf_7cf53_14 kJ0_505 (c_J0_length_8abf5 hO hc hs ha) hs.1 rfl rfl rfl (by decide) ⟨Nat.zero_le _, Nat.zero_le _⟩ (Nat.le_of_ble_eq_true rfl) ?_
  rintro _ _ ⟨rfl, rfl⟩
  refine x_callS4 C dJ0_indexOf_7cf53_17 kJ0_637 (c_J1_indexOf hO hc hs ha hch h0) (by decide) ⟨Nat.zero_le _, Nat.zero_le _⟩ (Nat.le_of_ble_eq_true rfl) ?_
  rintro _ _ ⟨rfl, rfl⟩
  refine x_goto (tgt := 36) C dJ0_indexOf_7cf53_20 (by decide) ?_
  refine x_iret C E dJ0_indexOf_7cf53_36 ?_
  exact ⟨rfl, rfl⟩
set_option maxHeartbeats 4000000 in
set_option maxRecDepth 100000 in
theorem c_J0_indexOf {l : Launch} {Y0 : x_Y} (hO : x_Ok Y0) {M : x_M} (hc : x_Stc Y0) {a t : Nat} {bs : List Nat} (hs : x_Str Y0 a t bs) (ha : s_as bs) {ch : Nat} (hch : ch < 256) (h0 : 0 < bs.length) : x_C l Y0 yJ0_indexOf_0f7a4 cJ0_indexOf_0f7a4 2 (some .int) 4 0 0 [.ref a, .int (nI ch)] M (fun u M1 => u = some (.int (s_ix ch bs 0)) ∧ M1 = M) := by
  refine x_start hO (by decide +kernel) (Nat.le_of_ble_eq_true rfl) (fun K C E => ?_)
  refine x_aload_n C dJ0_indexOf_0f7a4_0 rfl rfl ?_
  refine x_iload_n C dJ0_indexOf_0f7a4_1 rfl rfl ?_
  refine x_iconst (v := 0) C dJ0_indexOf_0f7a4_2 (by decide) ?_
  refine x_callT (As := [_, _]) C dJ0_indexOf_0f7a4_3 kJ0_633 (c_J0_indexOf2 hO hc hs ha hch h0) hs.1 rfl rfl rfl (by decide) ⟨Nat.zero_le _, Nat.zero_le _⟩ (Nat.le_of_ble_eq_true rfl) ?_
  rintro _ _ ⟨rfl, rfl⟩
  refine x_iret C E dJ0_indexOf_0f7a4_6 ?_
  exact ⟨rfl, rfl⟩
