section
variable {K : x_K} {l : Launch} {Y0 : x_Y} {y : MethodName} {cc : ByteArray} {nL d mc ms cells slots pc : Nat} {lv : List (Nat × Value)} {st : List Value} {M : x_M}
theorem x_mmin (C : x_Ctx K l Y0 y cc nL d mc ms) {idx : Nat} {x z : Int32} (dd : decode cc pc = .ok (.invokestatic idx, 3)) (hL : Cond.methodLink y.cls idx Lib.Math.min.name ∈ lw_tbl) (hd9 : 1 ≤ d) (hf : cells ≤ mc ∧ slots ≤ ms) (hr9 : (st.map fun v => v.category).sum ≤ 8) (k : x_X K nL cells slots (pc + 3) lv (.int (if z < x then z else x) :: st) M) : x_X K nL cells slots pc lv (.int z :: .int x :: st) M := by
  obtain ⟨p, l1, e, R, s, m, args, below, meth, c, Y, Q⟩ := K
  have hw0 := fun {w : Cond} (h : w ∈ lw_tbl) (hg : x_gd w) => x_word C h hg
  obtain ⟨hx, hb, hml, hown, hlk, hnm, hW, hok, hB, hfz, rfl, rfl, rfl⟩ := C
  intro H locs ls hw hs hl
  exact va_mmin hx hb (hml.trans hl.1.symm) hown (hw0 hL (Or.inl rfl)) (hw0 (x_t2 _ (List.mem_of_getElem? (i := 170) (by decide +kernel))) (Or.inl rfl)) (hw0 (x_t1 _ (List.mem_of_getElem? (i := 23) (by decide +kernel))) (Or.inl rfl)) (hw0 (x_t2 _ (List.mem_of_getElem? (i := 171) (by decide +kernel))) (Or.inl rfl)) hd9 (by show _ + 13 ≤ 40 * d; omega) hf.1 hf.2 dd (k H locs ls hw hs hl)
theorem x_mmax (C : x_Ctx K l Y0 y cc nL d mc ms) {idx : Nat} {x z : Int32} (dd : decode cc pc = .ok (.invokestatic idx, 3)) (hL : Cond.methodLink y.cls idx Lib.Math.max.name ∈ lw_tbl) (hd9 : 1 ≤ d) (hf : cells ≤ mc ∧ slots ≤ ms) (hr9 : (st.map fun v => v.category).sum ≤ 8) (k : x_X K nL cells slots (pc + 3) lv (.int (if x < z then z else x) :: st) M) : x_X K nL cells slots pc lv (.int z :: .int x :: st) M := by
  obtain ⟨p, l1, e, R, s, m, args, below, meth, c, Y, Q⟩ := K
  have hw0 := fun {w : Cond} (h : w ∈ lw_tbl) (hg : x_gd w) => x_word C h hg
  obtain ⟨hx, hb, hml, hown, hlk, hnm, hW, hok, hB, hfz, rfl, rfl, rfl⟩ := C
  intro H locs ls hw hs hl
  exact va_mmax hx hb (hml.trans hl.1.symm) hown (hw0 hL (Or.inl rfl)) (hw0 (x_t2 _ (List.mem_of_getElem? (i := 223) (by decide +kernel))) (Or.inl rfl)) (hw0 (x_t1 _ (List.mem_of_getElem? (i := 23) (by decide +kernel))) (Or.inl rfl)) (hw0 (x_t2 _ (List.mem_of_getElem? (i := 224) (by decide +kernel))) (Or.inl rfl)) hd9 (by show _ + 13 ≤ 40 * d; omega) hf.1 hf.2 dd (k H locs ls hw hs hl)
end
theorem mX3_89 : Cond.methodLink RX3 89 Lib.Math.min.name ∈ lw_tbl := (x_t4 _ (List.mem_of_getElem? (i := 20) (by decide +kernel)))
theorem mX3_95 : Cond.methodLink RX3 95 Lib.Math.max.name ∈ lw_tbl := (x_t4 _ (List.mem_of_getElem? (i := 21) (by decide +kernel)))
theorem mX11_84 : Cond.methodLink RX11 84 Lib.Math.min.name ∈ lw_tbl := (x_t6 _ (List.mem_of_getElem? (i := 236) (by decide +kernel)))
theorem mX11_90 : Cond.methodLink RX11 90 Lib.Math.max.name ∈ lw_tbl := (x_t8 _ (List.mem_of_getElem? (i := 62) (by decide +kernel)))
def h_bin (k : Nat) : Prop := k = 275 ∨ k = 274 ∨ k = 60 ∨ k = 62 ∨ k = 61 ∨ k = 188 ∨ k = 190 ∨ k = 43 ∨ k = 45 ∨ k = 42 ∨ k = 47 ∨ k = 276 ∨ k = 277
set_option maxHeartbeats 4000000 in
set_option maxRecDepth 100000 in
theorem c_X3_joined {l : Launch} {Y0 : x_Y} (hO : x_Ok Y0) {M : x_M} {k : Nat} {x z : Int32} (hk : h_bin k) : x_C l Y0 yX3_joined cX3_joined 3 (some .int) 2 0 0 [.int (nI k), .int x, .int z] M (fun u M1 => u = some (.int (h_join k x z)) ∧ M1 = M) := by
  refine x_start hO (by decide +kernel) (Nat.le_of_ble_eq_true rfl) (fun K C E => ?_)
  rcases hk with rfl | rfl | rfl | rfl | rfl | rfl | rfl | rfl | rfl | rfl | rfl | rfl | rfl
  · refine x_iload_n C dX3_joined_0 rfl rfl ?_
    refine x_lookup (tgt := 108) (off := 107) C dX3_joined_1 (by decide) (by decide) (by decide) ?_
    refine x_iload_n C dX3_joined_108 rfl rfl ?_
    refine x_iload_n C dX3_joined_109 rfl rfl ?_
    refine x_ior C dX3_joined_110 ?_
    refine x_iret C E dX3_joined_111 ?_
    refine ⟨?_, rfl⟩
    first | rfl | (simp [h_join, h_b, Int32.not_lt.mpr c118]; done) | (simp [h_join, h_b, Int32.not_le.mp c118]; done) | (simp [h_join, h_b, Int32.not_le.mpr c118]; done) | (simp [h_join, h_b, Int32.not_lt.mp c118]; done) | (simp [h_join, h_b, Int32.not_lt.mpr c132]; done) | (simp [h_join, h_b, Int32.not_le.mp c132]; done) | (simp [h_join, h_b, Int32.not_le.mpr c132]; done) | (simp [h_join, h_b, Int32.not_lt.mp c132]; done) | (simp [h_join, h_b, Int32.not_lt.mpr c160]; done) | (simp [h_join, h_b, Int32.not_le.mp c160]; done) | (simp [h_join, h_b, Int32.not_le.mpr c160]; done) | (simp [h_join, h_b, Int32.not_lt.mp c160]; done) | (simp [h_join, h_b, Int32.not_lt.mpr c174]; done) | (simp [h_join, h_b, Int32.not_le.mp c174]; done) | (simp [h_join, h_b, Int32.not_le.mpr c174]; done) | (simp [h_join, h_b, Int32.not_lt.mp c174]; done) | (simp [h_join, h_b, c146]; done) | (simp [h_join, c199]; done) | fail
  · refine x_iload_n C dX3_joined_0 rfl rfl ?_
    refine x_lookup (tgt := 112) (off := 111) C dX3_joined_1 (by decide) (by decide) (by decide) ?_
    refine x_iload_n C dX3_joined_112 rfl rfl ?_
    refine x_iload_n C dX3_joined_113 rfl rfl ?_
    refine x_iand C dX3_joined_114 ?_
    refine x_iret C E dX3_joined_115 ?_
    refine ⟨?_, rfl⟩
    first | rfl | (simp [h_join, h_b, Int32.not_lt.mpr c118]; done) | (simp [h_join, h_b, Int32.not_le.mp c118]; done) | (simp [h_join, h_b, Int32.not_le.mpr c118]; done) | (simp [h_join, h_b, Int32.not_lt.mp c118]; done) | (simp [h_join, h_b, Int32.not_lt.mpr c132]; done) | (simp [h_join, h_b, Int32.not_le.mp c132]; done) | (simp [h_join, h_b, Int32.not_le.mpr c132]; done) | (simp [h_join, h_b, Int32.not_lt.mp c132]; done) | (simp [h_join, h_b, Int32.not_lt.mpr c160]; done) | (simp [h_join, h_b, Int32.not_le.mp c160]; done) | (simp [h_join, h_b, Int32.not_le.mpr c160]; done) | (simp [h_join, h_b, Int32.not_lt.mp c160]; done) | (simp [h_join, h_b, Int32.not_lt.mpr c174]; done) | (simp [h_join, h_b, Int32.not_le.mp c174]; done) | (simp [h_join, h_b, Int32.not_le.mpr c174]; done) | (simp [h_join, h_b, Int32.not_lt.mp c174]; done) | (simp [h_join, h_b, c146]; done) | (simp [h_join, c199]; done) | fail
  · refine x_iload_n C dX3_joined_0 rfl rfl ?_
    refine x_lookup (tgt := 116) (off := 115) C dX3_joined_1 (by decide) (by decide) (by decide) ?_
    refine x_iload_n C dX3_joined_116 rfl rfl ?_
    refine x_iload_n C dX3_joined_117 rfl rfl ?_
    refine x_icmp_ge (tgt := 125) C dX3_joined_118 (by decide) (fun c118 => ?_) (fun c118 => ?_)
    · refine x_iconst (v := 0) C dX3_joined_125 (by decide) ?_
      refine x_callS1 C dX3_joined_126 kX3_43 (c_X8_bit hO) (by decide) ⟨Nat.zero_le _, Nat.zero_le _⟩ (Nat.le_of_ble_eq_true rfl) ?_
      rintro _ _ ⟨rfl, rfl⟩
      refine x_iret C E dX3_joined_129 ?_
      refine ⟨?_, rfl⟩
      first | rfl | (simp [h_join, h_b, Int32.not_lt.mpr c118]; done) | (simp [h_join, h_b, Int32.not_le.mp c118]; done) | (simp [h_join, h_b, Int32.not_le.mpr c118]; done) | (simp [h_join, h_b, Int32.not_lt.mp c118]; done) | (simp [h_join, h_b, Int32.not_lt.mpr c132]; done) | (simp [h_join, h_b, Int32.not_le.mp c132]; done) | (simp [h_join, h_b, Int32.not_le.mpr c132]; done) | (simp [h_join, h_b, Int32.not_lt.mp c132]; done) | (simp [h_join, h_b, Int32.not_lt.mpr c160]; done) | (simp [h_join, h_b, Int32.not_le.mp c160]; done) | (simp [h_join, h_b, Int32.not_le.mpr c160]; done) | (simp [h_join, h_b, Int32.not_lt.mp c160]; done) | (simp [h_join, h_b, Int32.not_lt.mpr c174]; done) | (simp [h_join, h_b, Int32.not_le.mp c174]; done) | (simp [h_join, h_b, Int32.not_le.mpr c174]; done) | (simp [h_join, h_b, Int32.not_lt.mp c174]; done) | (simp [h_join, h_b, c146]; done) | (simp [h_join, c199]; done) | fail
    · refine x_iconst (v := 1) C dX3_joined_121 (by decide) ?_
      refine x_goto (tgt := 126) C dX3_joined_122 (by decide) ?_
      refine x_callS1 C dX3_joined_126 kX3_43 (c_X8_bit hO) (by decide) ⟨Nat.zero_le _, Nat.zero_le _⟩ (Nat.le_of_ble_eq_true rfl) ?_
      rintro _ _ ⟨rfl, rfl⟩
      refine x_iret C E dX3_joined_129 ?_
      refine ⟨?_, rfl⟩
      first | rfl | (simp [h_join, h_b, Int32.not_lt.mpr c118]; done) | (simp [h_join, h_b, Int32.not_le.mp c118]; done) | (simp [h_join, h_b, Int32.not_le.mpr c118]; done) | (simp [h_join, h_b, Int32.not_lt.mp c118]; done) | (simp [h_join, h_b, Int32.not_lt.mpr c132]; done) | (simp [h_join, h_b, Int32.not_le.mp c132]; done) | (simp [h_join, h_b, Int32.not_le.mpr c132]; done) | (simp [h_join, h_b, Int32.not_lt.mp c132]; done) | (simp [h_join, h_b, Int32.not_lt.mpr c160]; done) | (simp [h_join, h_b, Int32.not_le.mp c160]; done) | (simp [h_join, h_b, Int32.not_le.mpr c160]; done) | (simp [h_join, h_b, Int32.not_lt.mp c160]; done) | (simp [h_join, h_b, Int32.not_lt.mpr c174]; done) | (simp [h_join, h_b, Int32.not_le.mp c174]; done) | (simp [h_join, h_b, Int32.not_le.mpr c174]; done) | (simp [h_join, h_b, Int32.not_lt.mp c174]; done) | (simp [h_join, h_b, c146]; done) | (simp [h_join, c199]; done) | fail
  · refine x_iload_n C dX3_joined_0 rfl rfl ?_
    refine x_lookup (tgt := 130) (off := 129) C dX3_joined_1 (by decide) (by decide) (by decide) ?_
    refine x_iload_n C dX3_joined_130 rfl rfl ?_
    refine x_iload_n C dX3_joined_131 rfl rfl ?_
    refine x_icmp_le (tgt := 139) C dX3_joined_132 (by decide) (fun c132 => ?_) (fun c132 => ?_)
    · refine x_iconst (v := 0) C dX3_joined_139 (by decide) ?_
      refine x_callS1 C dX3_joined_140 kX3_43 (c_X8_bit hO) (by decide) ⟨Nat.zero_le _, Nat.zero_le _⟩ (Nat.le_of_ble_eq_true rfl) ?_
      rintro _ _ ⟨rfl, rfl⟩
      refine x_iret C E dX3_joined_143 ?_
      refine ⟨?_, rfl⟩
      first | rfl | (simp [h_join, h_b, Int32.not_lt.mpr c118]; done) | (simp [h_join, h_b, Int32.not_le.mp c118]; done) | (simp [h_join, h_b, Int32.not_le.mpr c118]; done) | (simp [h_join, h_b, Int32.not_lt.mp c118]; done) | (simp [h_join, h_b, Int32.not_lt.mpr c132]; done) | (simp [h_join, h_b, Int32.not_le.mp c132]; done) | (simp [h_join, h_b, Int32.not_le.mpr c132]; done) | (simp [h_join, h_b, Int32.not_lt.mp c132]; done) | (simp [h_join, h_b, Int32.not_lt.mpr c160]; done) | (simp [h_join, h_b, Int32.not_le.mp c160]; done) | (simp [h_join, h_b, Int32.not_le.mpr c160]; done) | (simp [h_join, h_b, Int32.not_lt.mp c160]; done) | (simp [h_join, h_b, Int32.not_lt.mpr c174]; done) | (simp [h_join, h_b, Int32.not_le.mp c174]; done) | (simp [h_join, h_b, Int32.not_le.mpr c174]; done) | (simp [h_join, h_b, Int32.not_lt.mp c174]; done) | (simp [h_join, h_b, c146]; done) | (simp [h_join, c199]; done) | fail
    · refine x_iconst (v := 1) C dX3_joined_135 (by decide) ?_
      refine x_goto (tgt := 140) C dX3_joined_136 (by decide) ?_
      refine x_callS1 C dX3_joined_140 kX3_43 (c_X8_bit hO) (by decide) ⟨Nat.zero_le _, Nat.zero_le _⟩ (Nat.le_of_ble_eq_true rfl) ?_
      rintro _ _ ⟨rfl, rfl⟩
      refine x_iret C E dX3_joined_143 ?_
      refine ⟨?_, rfl⟩
      first | rfl | (simp [h_join, h_b, Int32.not_lt.mpr c118]; done) | (simp [h_join, h_b, Int32.not_le.mp c118]; done) | (simp [h_join, h_b, Int32.not_le.mpr c118]; done) | (simp [h_join, h_b, Int32.not_lt.mp c118]; done) | (simp [h_join, h_b, Int32.not_lt.mpr c132]; done) | (simp [h_join, h_b, Int32.not_le.mp c132]; done) | (simp [h_join, h_b, Int32.not_le.mpr c132]; done) | (simp [h_join, h_b, Int32.not_lt.mp c132]; done) | (simp [h_join, h_b, Int32.not_lt.mpr c160]; done) | (simp [h_join, h_b, Int32.not_le.mp c160]; done) | (simp [h_join, h_b, Int32.not_le.mpr c160]; done) | (simp [h_join, h_b, Int32.not_lt.mp c160]; done) | (simp [h_join, h_b, Int32.not_lt.mpr c174]; done) | (simp [h_join, h_b, Int32.not_le.mp c174]; done) | (simp [h_join, h_b, Int32.not_le.mpr c174]; done) | (simp [h_join, h_b, Int32.not_lt.mp c174]; done) | (simp [h_join, h_b, c146]; done) | (simp [h_join, c199]; done) | fail
  · refine x_iload_n C dX3_joined_0 rfl rfl ?_
    refine x_lookup (tgt := 144) (off := 143) C dX3_joined_1 (by decide) (by decide) (by decide) ?_
    refine x_iload_n C dX3_joined_144 rfl rfl ?_
    refine x_iload_n C dX3_joined_145 rfl rfl ?_
    refine x_icmp_ne (tgt := 153) C dX3_joined_146 (by decide) (fun c146 => ?_) (fun c146 => ?_)
    · refine x_iconst (v := 0) C dX3_joined_153 (by decide) ?_
      refine x_callS1 C dX3_joined_154 kX3_43 (c_X8_bit hO) (by decide) ⟨Nat.zero_le _, Nat.zero_le _⟩ (Nat.le_of_ble_eq_true rfl) ?_
      rintro _ _ ⟨rfl, rfl⟩
      refine x_iret C E dX3_joined_157 ?_
      refine ⟨?_, rfl⟩
      first | rfl | (simp [h_join, h_b, Int32.not_lt.mpr c118]; done) | (simp [h_join, h_b, Int32.not_le.mp c118]; done) | (simp [h_join, h_b, Int32.not_le.mpr c118]; done) | (simp [h_join, h_b, Int32.not_lt.mp c118]; done) | (simp [h_join, h_b, Int32.not_lt.mpr c132]; done) | (simp [h_join, h_b, Int32.not_le.mp c132]; done) | (simp [h_join, h_b, Int32.not_le.mpr c132]; done) | (simp [h_join, h_b, Int32.not_lt.mp c132]; done) | (simp [h_join, h_b, Int32.not_lt.mpr c160]; done) | (simp [h_join, h_b, Int32.not_le.mp c160]; done) | (simp [h_join, h_b, Int32.not_le.mpr c160]; done) | (simp [h_join, h_b, Int32.not_lt.mp c160]; done) | (simp [h_join, h_b, Int32.not_lt.mpr c174]; done) | (simp [h_join, h_b, Int32.not_le.mp c174]; done) | (simp [h_join, h_b, Int32.not_le.mpr c174]; done) | (simp [h_join, h_b, Int32.not_lt.mp c174]; done) | (simp [h_join, h_b, c146]; done) | (simp [h_join, c199]; done) | fail
    · refine x_iconst (v := 1) C dX3_joined_149 (by decide) ?_
      refine x_goto (tgt := 154) C dX3_joined_150 (by decide) ?_
      refine x_callS1 C dX3_joined_154 kX3_43 (c_X8_bit hO) (by decide) ⟨Nat.zero_le _, Nat.zero_le _⟩ (Nat.le_of_ble_eq_true rfl) ?_
      rintro _ _ ⟨rfl, rfl⟩
      refine x_iret C E dX3_joined_157 ?_
      refine ⟨?_, rfl⟩
      first | rfl | (simp [h_join, h_b, Int32.not_lt.mpr c118]; done) | (simp [h_join, h_b, Int32.not_le.mp c118]; done) | (simp [h_join, h_b, Int32.not_le.mpr c118]; done) | (simp [h_join, h_b, Int32.not_lt.mp c118]; done) | (simp [h_join, h_b, Int32.not_lt.mpr c132]; done) | (simp [h_join, h_b, Int32.not_le.mp c132]; done) | (simp [h_join, h_b, Int32.not_le.mpr c132]; done) | (simp [h_join, h_b, Int32.not_lt.mp c132]; done) | (simp [h_join, h_b, Int32.not_lt.mpr c160]; done) | (simp [h_join, h_b, Int32.not_le.mp c160]; done) | (simp [h_join, h_b, Int32.not_le.mpr c160]; done) | (simp [h_join, h_b, Int32.not_lt.mp c160]; done) | (simp [h_join, h_b, Int32.not_lt.mpr c174]; done) | (simp [h_join, h_b, Int32.not_le.mp c174]; done) | (simp [h_join, h_b, Int32.not_le.mpr c174]; done) | (simp [h_join, h_b, Int32.not_lt.mp c174]; done) | (simp [h_join, h_b, c146]; done) | (simp [h_join, c199]; done) | fail
  · refine x_iload_n C dX3_joined_0 rfl rfl ?_
    refine x_lookup (tgt := 158) (off := 157) C dX3_joined_1 (by decide) (by decide) (by decide) ?_
    refine x_iload_n C dX3_joined_158 rfl rfl ?_
    refine x_iload_n C dX3_joined_159 rfl rfl ?_
    refine x_icmp_gt (tgt := 167) C dX3_joined_160 (by decide) (fun c160 => ?_) (fun c160 => ?_)
    · refine x_iconst (v := 0) C dX3_joined_167 (by decide) ?_
      refine x_callS1 C dX3_joined_168 kX3_43 (c_X8_bit hO) (by decide) ⟨Nat.zero_le _, Nat.zero_le _⟩ (Nat.le_of_ble_eq_true rfl) ?_
      rintro _ _ ⟨rfl, rfl⟩
      refine x_iret C E dX3_joined_171 ?_
      refine ⟨?_, rfl⟩
      first | rfl | (simp [h_join, h_b, Int32.not_lt.mpr c118]; done) | (simp [h_join, h_b, Int32.not_le.mp c118]; done) | (simp [h_join, h_b, Int32.not_le.mpr c118]; done) | (simp [h_join, h_b, Int32.not_lt.mp c118]; done) | (simp [h_join, h_b, Int32.not_lt.mpr c132]; done) | (simp [h_join, h_b, Int32.not_le.mp c132]; done) | (simp [h_join, h_b, Int32.not_le.mpr c132]; done) | (simp [h_join, h_b, Int32.not_lt.mp c132]; done) | (simp [h_join, h_b, Int32.not_lt.mpr c160]; done) | (simp [h_join, h_b, Int32.not_le.mp c160]; done) | (simp [h_join, h_b, Int32.not_le.mpr c160]; done) | (simp [h_join, h_b, Int32.not_lt.mp c160]; done) | (simp [h_join, h_b, Int32.not_lt.mpr c174]; done) | (simp [h_join, h_b, Int32.not_le.mp c174]; done) | (simp [h_join, h_b, Int32.not_le.mpr c174]; done) | (simp [h_join, h_b, Int32.not_lt.mp c174]; done) | (simp [h_join, h_b, c146]; done) | (simp [h_join, c199]; done) | fail
    · refine x_iconst (v := 1) C dX3_joined_163 (by decide) ?_
      refine x_goto (tgt := 168) C dX3_joined_164 (by decide) ?_
      refine x_callS1 C dX3_joined_168 kX3_43 (c_X8_bit hO) (by decide) ⟨Nat.zero_le _, Nat.zero_le _⟩ (Nat.le_of_ble_eq_true rfl) ?_
      rintro _ _ ⟨rfl, rfl⟩
      refine x_iret C E dX3_joined_171 ?_
      refine ⟨?_, rfl⟩
      first | rfl | (simp [h_join, h_b, Int32.not_lt.mpr c118]; done) | (simp [h_join, h_b, Int32.not_le.mp c118]; done) | (simp [h_join, h_b, Int32.not_le.mpr c118]; done) | (simp [h_join, h_b, Int32.not_lt.mp c118]; done) | (simp [h_join, h_b, Int32.not_lt.mpr c132]; done) | (simp [h_join, h_b, Int32.not_le.mp c132]; done) | (simp [h_join, h_b, Int32.not_le.mpr c132]; done) | (simp [h_join, h_b, Int32.not_lt.mp c132]; done) | (simp [h_join, h_b, Int32.not_lt.mpr c160]; done) | (simp [h_join, h_b, Int32.not_le.mp c160]; done) | (simp [h_join, h_b, Int32.not_le.mpr c160]; done) | (simp [h_join, h_b, Int32.not_lt.mp c160]; done) | (simp [h_join, h_b, Int32.not_lt.mpr c174]; done) | (simp [h_join, h_b, Int32.not_le.mp c174]; done) | (simp [h_join, h_b, Int32.not_le.mpr c174]; done) | (simp [h_join, h_b, Int32.not_lt.mp c174]; done) | (simp [h_join, h_b, c146]; done) | (simp [h_join, c199]; done) | fail
  · refine x_iload_n C dX3_joined_0 rfl rfl ?_
    refine x_lookup (tgt := 172) (off := 171) C dX3_joined_1 (by decide) (by decide) (by decide) ?_
    refine x_iload_n C dX3_joined_172 rfl rfl ?_
    refine x_iload_n C dX3_joined_173 rfl rfl ?_
    refine x_icmp_lt (tgt := 181) C dX3_joined_174 (by decide) (fun c174 => ?_) (fun c174 => ?_)
    · refine x_iconst (v := 0) C dX3_joined_181 (by decide) ?_
      refine x_callS1 C dX3_joined_182 kX3_43 (c_X8_bit hO) (by decide) ⟨Nat.zero_le _, Nat.zero_le _⟩ (Nat.le_of_ble_eq_true rfl) ?_
      rintro _ _ ⟨rfl, rfl⟩
      refine x_iret C E dX3_joined_185 ?_
      refine ⟨?_, rfl⟩
      first | rfl | (simp [h_join, h_b, Int32.not_lt.mpr c118]; done) | (simp [h_join, h_b, Int32.not_le.mp c118]; done) | (simp [h_join, h_b, Int32.not_le.mpr c118]; done) | (simp [h_join, h_b, Int32.not_lt.mp c118]; done) | (simp [h_join, h_b, Int32.not_lt.mpr c132]; done) | (simp [h_join, h_b, Int32.not_le.mp c132]; done) | (simp [h_join, h_b, Int32.not_le.mpr c132]; done) | (simp [h_join, h_b, Int32.not_lt.mp c132]; done) | (simp [h_join, h_b, Int32.not_lt.mpr c160]; done) | (simp [h_join, h_b, Int32.not_le.mp c160]; done) | (simp [h_join, h_b, Int32.not_le.mpr c160]; done) | (simp [h_join, h_b, Int32.not_lt.mp c160]; done) | (simp [h_join, h_b, Int32.not_lt.mpr c174]; done) | (simp [h_join, h_b, Int32.not_le.mp c174]; done) | (simp [h_join, h_b, Int32.not_le.mpr c174]; done) | (simp [h_join, h_b, Int32.not_lt.mp c174]; done) | (simp [h_join, h_b, c146]; done) | (simp [h_join, c199]; done) | fail
    · refine x_iconst (v := 1) C dX3_joined_177 (by decide) ?_
      refine x_goto (tgt := 182) C dX3_joined_178 (by decide) ?_
      refine x_callS1 C dX3_joined_182 kX3_43 (c_X8_bit hO) (by decide) ⟨Nat.zero_le _, Nat.zero_le _⟩ (Nat.le_of_ble_eq_true rfl) ?_
      rintro _ _ ⟨rfl, rfl⟩
      refine x_iret C E dX3_joined_185 ?_
      refine ⟨?_, rfl⟩
      first | rfl | (simp [h_join, h_b, Int32.not_lt.mpr c118]; done) | (simp [h_join, h_b, Int32.not_le.mp c118]; done) | (simp [h_join, h_b, Int32.not_le.mpr c118]; done) | (simp [h_join, h_b, Int32.not_lt.mp c118]; done) | (simp [h_join, h_b, Int32.not_lt.mpr c132]; done) | (simp [h_join, h_b, Int32.not_le.mp c132]; done) | (simp [h_join, h_b, Int32.not_le.mpr c132]; done) | (simp [h_join, h_b, Int32.not_lt.mp c132]; done) | (simp [h_join, h_b, Int32.not_lt.mpr c160]; done) | (simp [h_join, h_b, Int32.not_le.mp c160]; done) | (simp [h_join, h_b, Int32.not_le.mpr c160]; done) | (simp [h_join, h_b, Int32.not_lt.mp c160]; done) | (simp [h_join, h_b, Int32.not_lt.mpr c174]; done) | (simp [h_join, h_b, Int32.not_le.mp c174]; done) | (simp [h_join, h_b, Int32.not_le.mpr c174]; done) | (simp [h_join, h_b, Int32.not_lt.mp c174]; done) | (simp [h_join, h_b, c146]; done) | (simp [h_join, c199]; done) | fail
  · refine x_iload_n C dX3_joined_0 rfl rfl ?_
    refine x_lookup (tgt := 186) (off := 185) C dX3_joined_1 (by decide) (by decide) (by decide) ?_
    refine x_iload_n C dX3_joined_186 rfl rfl ?_
    refine x_iload_n C dX3_joined_187 rfl rfl ?_
    refine x_iadd C dX3_joined_188 ?_
    refine x_iret C E dX3_joined_189 ?_
    refine ⟨?_, rfl⟩
    first | rfl | (simp [h_join, h_b, Int32.not_lt.mpr c118]; done) | (simp [h_join, h_b, Int32.not_le.mp c118]; done) | (simp [h_join, h_b, Int32.not_le.mpr c118]; done) | (simp [h_join, h_b, Int32.not_lt.mp c118]; done) | (simp [h_join, h_b, Int32.not_lt.mpr c132]; done) | (simp [h_join, h_b, Int32.not_le.mp c132]; done) | (simp [h_join, h_b, Int32.not_le.mpr c132]; done) | (simp [h_join, h_b, Int32.not_lt.mp c132]; done) | (simp [h_join, h_b, Int32.not_lt.mpr c160]; done) | (simp [h_join, h_b, Int32.not_le.mp c160]; done) | (simp [h_join, h_b, Int32.not_le.mpr c160]; done) | (simp [h_join, h_b, Int32.not_lt.mp c160]; done) | (simp [h_join, h_b, Int32.not_lt.mpr c174]; done) | (simp [h_join, h_b, Int32.not_le.mp c174]; done) | (simp [h_join, h_b, Int32.not_le.mpr c174]; done) | (simp [h_join, h_b, Int32.not_lt.mp c174]; done) | (simp [h_join, h_b, c146]; done) | (simp [h_join, c199]; done) | fail
  · refine x_iload_n C dX3_joined_0 rfl rfl ?_
    refine x_lookup (tgt := 190) (off := 189) C dX3_joined_1 (by decide) (by decide) (by decide) ?_
    refine x_iload_n C dX3_joined_190 rfl rfl ?_
    refine x_iload_n C dX3_joined_191 rfl rfl ?_
    refine x_isub C dX3_joined_192 ?_
    refine x_iret C E dX3_joined_193 ?_
    refine ⟨?_, rfl⟩
    first | rfl | (simp [h_join, h_b, Int32.not_lt.mpr c118]; done) | (simp [h_join, h_b, Int32.not_le.mp c118]; done) | (simp [h_join, h_b, Int32.not_le.mpr c118]; done) | (simp [h_join, h_b, Int32.not_lt.mp c118]; done) | (simp [h_join, h_b, Int32.not_lt.mpr c132]; done) | (simp [h_join, h_b, Int32.not_le.mp c132]; done) | (simp [h_join, h_b, Int32.not_le.mpr c132]; done) | (simp [h_join, h_b, Int32.not_lt.mp c132]; done) | (simp [h_join, h_b, Int32.not_lt.mpr c160]; done) | (simp [h_join, h_b, Int32.not_le.mp c160]; done) | (simp [h_join, h_b, Int32.not_le.mpr c160]; done) | (simp [h_join, h_b, Int32.not_lt.mp c160]; done) | (simp [h_join, h_b, Int32.not_lt.mpr c174]; done) | (simp [h_join, h_b, Int32.not_le.mp c174]; done) | (simp [h_join, h_b, Int32.not_le.mpr c174]; done) | (simp [h_join, h_b, Int32.not_lt.mp c174]; done) | (simp [h_join, h_b, c146]; done) | (simp [h_join, c199]; done) | fail
  · refine x_iload_n C dX3_joined_0 rfl rfl ?_
    refine x_lookup (tgt := 194) (off := 193) C dX3_joined_1 (by decide) (by decide) (by decide) ?_
    refine x_iload_n C dX3_joined_194 rfl rfl ?_
    refine x_iload_n C dX3_joined_195 rfl rfl ?_
    refine x_imul C dX3_joined_196 ?_
    refine x_iret C E dX3_joined_197 ?_
    refine ⟨?_, rfl⟩
    first | rfl | (simp [h_join, h_b, Int32.not_lt.mpr c118]; done) | (simp [h_join, h_b, Int32.not_le.mp c118]; done) | (simp [h_join, h_b, Int32.not_le.mpr c118]; done) | (simp [h_join, h_b, Int32.not_lt.mp c118]; done) | (simp [h_join, h_b, Int32.not_lt.mpr c132]; done) | (simp [h_join, h_b, Int32.not_le.mp c132]; done) | (simp [h_join, h_b, Int32.not_le.mpr c132]; done) | (simp [h_join, h_b, Int32.not_lt.mp c132]; done) | (simp [h_join, h_b, Int32.not_lt.mpr c160]; done) | (simp [h_join, h_b, Int32.not_le.mp c160]; done) | (simp [h_join, h_b, Int32.not_le.mpr c160]; done) | (simp [h_join, h_b, Int32.not_lt.mp c160]; done) | (simp [h_join, h_b, Int32.not_lt.mpr c174]; done) | (simp [h_join, h_b, Int32.not_le.mp c174]; done) | (simp [h_join, h_b, Int32.not_le.mpr c174]; done) | (simp [h_join, h_b, Int32.not_lt.mp c174]; done) | (simp [h_join, h_b, c146]; done) | (simp [h_join, c199]; done) | fail
  · refine x_iload_n C dX3_joined_0 rfl rfl ?_
    refine x_lookup (tgt := 198) (off := 197) C dX3_joined_1 (by decide) (by decide) (by decide) ?_
    refine x_iload_n C dX3_joined_198 rfl rfl ?_
    refine x_if_ne (tgt := 206) C dX3_joined_199 (by decide) (fun c199 => ?_) (fun c199 => ?_)
    · refine x_iload_n C dX3_joined_206 rfl rfl ?_
      refine x_iload_n C dX3_joined_207 rfl rfl ?_
      refine x_idiv C dX3_joined_208 c199 ?_
      refine x_iret C E dX3_joined_209 ?_
      refine ⟨?_, rfl⟩
      first | rfl | (simp [h_join, h_b, Int32.not_lt.mpr c118]; done) | (simp [h_join, h_b, Int32.not_le.mp c118]; done) | (simp [h_join, h_b, Int32.not_le.mpr c118]; done) | (simp [h_join, h_b, Int32.not_lt.mp c118]; done) | (simp [h_join, h_b, Int32.not_lt.mpr c132]; done) | (simp [h_join, h_b, Int32.not_le.mp c132]; done) | (simp [h_join, h_b, Int32.not_le.mpr c132]; done) | (simp [h_join, h_b, Int32.not_lt.mp c132]; done) | (simp [h_join, h_b, Int32.not_lt.mpr c160]; done) | (simp [h_join, h_b, Int32.not_le.mp c160]; done) | (simp [h_join, h_b, Int32.not_le.mpr c160]; done) | (simp [h_join, h_b, Int32.not_lt.mp c160]; done) | (simp [h_join, h_b, Int32.not_lt.mpr c174]; done) | (simp [h_join, h_b, Int32.not_le.mp c174]; done) | (simp [h_join, h_b, Int32.not_le.mpr c174]; done) | (simp [h_join, h_b, Int32.not_lt.mp c174]; done) | (simp [h_join, h_b, c146]; done) | (simp [h_join, c199]; done) | fail
    · refine x_iconst (v := 0) C dX3_joined_202 (by decide) ?_
      refine x_goto (tgt := 209) C dX3_joined_203 (by decide) ?_
      refine x_iret C E dX3_joined_209 ?_
      refine ⟨?_, rfl⟩
      first | rfl | (simp [h_join, h_b, Int32.not_lt.mpr c118]; done) | (simp [h_join, h_b, Int32.not_le.mp c118]; done) | (simp [h_join, h_b, Int32.not_le.mpr c118]; done) | (simp [h_join, h_b, Int32.not_lt.mp c118]; done) | (simp [h_join, h_b, Int32.not_lt.mpr c132]; done) | (simp [h_join, h_b, Int32.not_le.mp c132]; done) | (simp [h_join, h_b, Int32.not_le.mpr c132]; done) | (simp [h_join, h_b, Int32.not_lt.mp c132]; done) | (simp [h_join, h_b, Int32.not_lt.mpr c160]; done) | (simp [h_join, h_b, Int32.not_le.mp c160]; done) | (simp [h_join, h_b, Int32.not_le.mpr c160]; done) | (simp [h_join, h_b, Int32.not_lt.mp c160]; done) | (simp [h_join, h_b, Int32.not_lt.mpr c174]; done) | (simp [h_join, h_b, Int32.not_le.mp c174]; done) | (simp [h_join, h_b, Int32.not_le.mpr c174]; done) | (simp [h_join, h_b, Int32.not_lt.mp c174]; done) | (simp [h_join, h_b, c146]; done) | (simp [h_join, c199]; done) | fail
  · refine x_iload_n C dX3_joined_0 rfl rfl ?_
    refine x_lookup (tgt := 210) (off := 209) C dX3_joined_1 (by decide) (by decide) (by decide) ?_
    refine x_iload_n C dX3_joined_210 rfl rfl ?_
    refine x_iload_n C dX3_joined_211 rfl rfl ?_
    refine x_mmin C dX3_joined_212 mX3_89 (by decide) ⟨Nat.zero_le _, Nat.zero_le _⟩ (Nat.le_of_ble_eq_true rfl) ?_
    refine x_iret C E dX3_joined_215 ?_
    refine ⟨?_, rfl⟩
    first | rfl | (simp [h_join, h_b, Int32.not_lt.mpr c118]; done) | (simp [h_join, h_b, Int32.not_le.mp c118]; done) | (simp [h_join, h_b, Int32.not_le.mpr c118]; done) | (simp [h_join, h_b, Int32.not_lt.mp c118]; done) | (simp [h_join, h_b, Int32.not_lt.mpr c132]; done) | (simp [h_join, h_b, Int32.not_le.mp c132]; done) | (simp [h_join, h_b, Int32.not_le.mpr c132]; done) | (simp [h_join, h_b, Int32.not_lt.mp c132]; done) | (simp [h_join, h_b, Int32.not_lt.mpr c160]; done) | (simp [h_join, h_b, Int32.not_le.mp c160]; done) | (simp [h_join, h_b, Int32.not_le.mpr c160]; done) | (simp [h_join, h_b, Int32.not_lt.mp c160]; done) | (simp [h_join, h_b, Int32.not_lt.mpr c174]; done) | (simp [h_join, h_b, Int32.not_le.mp c174]; done) | (simp [h_join, h_b, Int32.not_le.mpr c174]; done) | (simp [h_join, h_b, Int32.not_lt.mp c174]; done) | (simp [h_join, h_b, c146]; done) | (simp [h_join, c199]; done) | fail
  · refine x_iload_n C dX3_joined_0 rfl rfl ?_
    refine x_lookup (tgt := 216) (off := 215) C dX3_joined_1 (by decide) (by decide) (by decide) ?_
    refine x_iload_n C dX3_joined_216 rfl rfl ?_
    refine x_iload_n C dX3_joined_217 rfl rfl ?_
    refine x_mmax C dX3_joined_218 mX3_95 (by decide) ⟨Nat.zero_le _, Nat.zero_le _⟩ (Nat.le_of_ble_eq_true rfl) ?_
    refine x_iret C E dX3_joined_221 ?_
    refine ⟨?_, rfl⟩
    first | rfl | (simp [h_join, h_b, Int32.not_lt.mpr c118]; done) | (simp [h_join, h_b, Int32.not_le.mp c118]; done) | (simp [h_join, h_b, Int32.not_le.mpr c118]; done) | (simp [h_join, h_b, Int32.not_lt.mp c118]; done) | (simp [h_join, h_b, Int32.not_lt.mpr c132]; done) | (simp [h_join, h_b, Int32.not_le.mp c132]; done) | (simp [h_join, h_b, Int32.not_le.mpr c132]; done) | (simp [h_join, h_b, Int32.not_lt.mp c132]; done) | (simp [h_join, h_b, Int32.not_lt.mpr c160]; done) | (simp [h_join, h_b, Int32.not_le.mp c160]; done) | (simp [h_join, h_b, Int32.not_le.mpr c160]; done) | (simp [h_join, h_b, Int32.not_lt.mp c160]; done) | (simp [h_join, h_b, Int32.not_lt.mpr c174]; done) | (simp [h_join, h_b, Int32.not_le.mp c174]; done) | (simp [h_join, h_b, Int32.not_le.mpr c174]; done) | (simp [h_join, h_b, Int32.not_lt.mp c174]; done) | (simp [h_join, h_b, c146]; done) | (simp [h_join, c199]; done) | fail
theorem h_isval_no {k : Nat} (h1 : ¬ nI k = 3) (h2 : ¬ nI k = 267) (h3 : ¬ nI k = 268) (h4 : ¬ nI k = 269) (h5 : ¬ nI k = 257) (h6 : ¬ nI k = 270) (h7 : ¬ nI k = 272) : h_isval k = false := by
  have f : ∀ v : Nat, ¬ nI k = nI v → (k == v) = false := fun v h => by
    cases e : (k == v) with
    | false => rfl
    | true => exact absurd (congrArg nI (eq_of_beq e)) h
  unfold h_isval
  rw [f 3 h1, f 267 h2, f 268 h3, f 269 h4, f 257 h5, f 270 h6, f 272 h7]
  rfl
set_option maxHeartbeats 4000000 in
set_option maxRecDepth 100000 in
theorem c_X3_isValue {l : Launch} {Y0 : x_Y} (hO : x_Ok Y0) {M : x_M} {k : Nat} (hk : k < 2 ^ 31) : x_C l Y0 yX3_isValue cX3_isValue 1 (some .boolean) 1 0 0 [.int (nI k)] M (fun u M1 => u = some (.int (h_b (h_isval k))) ∧ M1 = M) := by
  refine x_start hO (by decide +kernel) (Nat.le_of_ble_eq_true rfl) (fun K C E => ?_)
  refine x_iload_n C dX3_isValue_0 rfl rfl ?_
  refine x_iconst (v := 3) C dX3_isValue_1 (by decide) ?_
  refine x_icmp_eq (tgt := 47) C dX3_isValue_2 (by decide) (fun c2 => ?_) (fun c2 => ?_)
  · have e : k = 3 := (nI_eq hk (by omega)).mp (show nI k = nI 3 from c2)
    subst e
    refine x_iconst (v := 1) C dX3_isValue_47 (by decide) ?_
    refine x_goto (tgt := 52) C dX3_isValue_48 (by decide) ?_
    refine x_zret C E dX3_isValue_52 rfl ?_
    refine ⟨?_, rfl⟩
    first
      | rfl
      | (simp [h_isval_no c2 c9 c16 c23 c30 c37 c44, h_b]; done)
      | fail
  · refine x_iload_n C dX3_isValue_5 rfl rfl ?_
    refine x_sipush (v := 267) C dX3_isValue_6 (by decide) ?_
    refine x_icmp_eq (tgt := 47) C dX3_isValue_9 (by decide) (fun c9 => ?_) (fun c9 => ?_)
    · have e : k = 267 := (nI_eq hk (by omega)).mp (show nI k = nI 267 from c9)
      subst e
      refine x_iconst (v := 1) C dX3_isValue_47 (by decide) ?_
      refine x_goto (tgt := 52) C dX3_isValue_48 (by decide) ?_
      refine x_zret C E dX3_isValue_52 rfl ?_
      refine ⟨?_, rfl⟩
      first
        | rfl
        | (simp [h_isval_no c2 c9 c16 c23 c30 c37 c44, h_b]; done)
        | fail
    · refine x_iload_n C dX3_isValue_12 rfl rfl ?_
      refine x_sipush (v := 268) C dX3_isValue_13 (by decide) ?_
      refine x_icmp_eq (tgt := 47) C dX3_isValue_16 (by decide) (fun c16 => ?_) (fun c16 => ?_)
      · have e : k = 268 := (nI_eq hk (by omega)).mp (show nI k = nI 268 from c16)
        subst e
        refine x_iconst (v := 1) C dX3_isValue_47 (by decide) ?_
        refine x_goto (tgt := 52) C dX3_isValue_48 (by decide) ?_
        refine x_zret C E dX3_isValue_52 rfl ?_
        refine ⟨?_, rfl⟩
        first
          | rfl
          | (simp [h_isval_no c2 c9 c16 c23 c30 c37 c44, h_b]; done)
          | fail
      · refine x_iload_n C dX3_isValue_19 rfl rfl ?_
        refine x_sipush (v := 269) C dX3_isValue_20 (by decide) ?_
        refine x_icmp_eq (tgt := 47) C dX3_isValue_23 (by decide) (fun c23 => ?_) (fun c23 => ?_)
        · have e : k = 269 := (nI_eq hk (by omega)).mp (show nI k = nI 269 from c23)
          subst e
          refine x_iconst (v := 1) C dX3_isValue_47 (by decide) ?_
          refine x_goto (tgt := 52) C dX3_isValue_48 (by decide) ?_
          refine x_zret C E dX3_isValue_52 rfl ?_
          refine ⟨?_, rfl⟩
          first
            | rfl
            | (simp [h_isval_no c2 c9 c16 c23 c30 c37 c44, h_b]; done)
            | fail
        · refine x_iload_n C dX3_isValue_26 rfl rfl ?_
          refine x_sipush (v := 257) C dX3_isValue_27 (by decide) ?_
          refine x_icmp_eq (tgt := 47) C dX3_isValue_30 (by decide) (fun c30 => ?_) (fun c30 => ?_)
          · have e : k = 257 := (nI_eq hk (by omega)).mp (show nI k = nI 257 from c30)
            subst e
            refine x_iconst (v := 1) C dX3_isValue_47 (by decide) ?_
            refine x_goto (tgt := 52) C dX3_isValue_48 (by decide) ?_
            refine x_zret C E dX3_isValue_52 rfl ?_
            refine ⟨?_, rfl⟩
            first
              | rfl
              | (simp [h_isval_no c2 c9 c16 c23 c30 c37 c44, h_b]; done)
              | fail
          · refine x_iload_n C dX3_isValue_33 rfl rfl ?_
            refine x_sipush (v := 270) C dX3_isValue_34 (by decide) ?_
            refine x_icmp_eq (tgt := 47) C dX3_isValue_37 (by decide) (fun c37 => ?_) (fun c37 => ?_)
            · have e : k = 270 := (nI_eq hk (by omega)).mp (show nI k = nI 270 from c37)
              subst e
              refine x_iconst (v := 1) C dX3_isValue_47 (by decide) ?_
              refine x_goto (tgt := 52) C dX3_isValue_48 (by decide) ?_
              refine x_zret C E dX3_isValue_52 rfl ?_
              refine ⟨?_, rfl⟩
              first
                | rfl
                | (simp [h_isval_no c2 c9 c16 c23 c30 c37 c44, h_b]; done)
                | fail
            · refine x_iload_n C dX3_isValue_40 rfl rfl ?_
              refine x_sipush (v := 272) C dX3_isValue_41 (by decide) ?_
              refine x_icmp_ne (tgt := 51) C dX3_isValue_44 (by decide) (fun c44 => ?_) (fun c44 => ?_)
              · refine x_iconst (v := 0) C dX3_isValue_51 (by decide) ?_
                refine x_zret C E dX3_isValue_52 rfl ?_
                refine ⟨?_, rfl⟩
                first
                  | rfl
                  | (simp [h_isval_no c2 c9 c16 c23 c30 c37 c44, h_b]; done)
                  | fail
              · have e : k = 272 := (nI_eq hk (by omega)).mp (show nI k = nI 272 from c44)
                subst e
                refine x_iconst (v := 1) C dX3_isValue_47 (by decide) ?_
                refine x_goto (tgt := 52) C dX3_isValue_48 (by decide) ?_
                refine x_zret C E dX3_isValue_52 rfl ?_
                refine ⟨?_, rfl⟩
                first
                  | rfl
                  | (simp [h_isval_no c2 c9 c16 c23 c30 c37 c44, h_b]; done)
                  | fail
/-- the reckoner's cells -/
def rkL (r : Nat) (sk : Nat → Int32) (ht : Int32) : List x_E := [.inr (3, [.ref (r + 1), .int ht]), .inr (4, [.ref (r + 1 + 1)]), .inl (0, 400, .inl sk)]
set_option maxHeartbeats 4000000 in
set_option maxRecDepth 100000 in
theorem c_X3_push {l : Launch} {Y0 : x_Y} (hO : x_Ok Y0) {M : x_M} {r : Nat} {sk : Nat → Int32} {ht : Int32} (hb : x_bk M r (rkL r sk ht)) {x : Int32} : x_C l Y0 yX3_push cX3_push 2 none 2 0 0 [.ref r, .int x] M (fun u M1 => u = none ∧ M1 = x_ov M r (rkL r (rs 400 sk ht x) (ht + 1))) := by
  refine x_start hO (by decide +kernel) (Nat.le_of_ble_eq_true rfl) (fun K C E => ?_)
  refine x_to (x_ov_self hb).symm ?_
  refine x_aload_n C dX3_push_0 rfl rfl ?_
  refine x_getfield C dX3_push_1 fX3_14 (x_ovg 0 rfl) rfl ?_
  refine x_aload_n C dX3_push_4 rfl rfl ?_
  refine x_getfield C dX3_push_5 fX3_32 (x_ovg 0 rfl) rfl ?_
  refine x_iload_n C dX3_push_8 rfl rfl ?_
  refine x_callV2 C dX3_push_9 kX3_65 (c_X4_set hO (by decide) (x_bk_sub x_ov_bk 1 rfl)) (x_ovg 1 rfl) rfl (by decide) ⟨Nat.zero_le _, Nat.zero_le _⟩ (Nat.le_of_ble_eq_true rfl) ?_
  rintro _ _ ⟨rfl, rfl⟩
  refine x_to (x_st_ov 2 (Nat.le_of_ble_eq_true rfl)) ?_
  refine x_aload_n C dX3_push_12 rfl rfl ?_
  refine x_dup C dX3_push_13 rfl ?_
  refine x_getfield C dX3_push_14 fX3_32 (x_ovg 0 rfl) rfl ?_
  refine x_iconst (v := 1) C dX3_push_17 (by decide) ?_
  refine x_iadd C dX3_push_18 ?_
  refine x_putfield C dX3_push_19 fX3_32 (x_ovg 0 rfl) rfl rfl (Nat.le_of_ble_eq_true rfl) ?_
  refine x_to (x_st_ov 0 (Nat.le_of_ble_eq_true rfl)) ?_
  refine x_vret C E dX3_push_22 ?_
  exact ⟨rfl, rfl⟩
set_option maxHeartbeats 4000000 in
set_option maxRecDepth 100000 in
theorem c_X3_pop {l : Launch} {Y0 : x_Y} (hO : x_Ok Y0) {M : x_M} {r : Nat} {sk : Nat → Int32} {ht : Int32} (hb : x_bk M r (rkL r sk ht)) : x_C l Y0 yX3_pop cX3_pop 1 (some .int) 2 0 0 [.ref r] M (fun u M1 => u = some (.int (rg 400 sk (ht - 1))) ∧ M1 = x_ov M r (rkL r sk (ht - 1))) := by
  refine x_start hO (by decide +kernel) (Nat.le_of_ble_eq_true rfl) (fun K C E => ?_)
  refine x_to (x_ov_self hb).symm ?_
  refine x_aload_n C dX3_pop_0 rfl rfl ?_
  refine x_dup C dX3_pop_1 rfl ?_
  refine x_getfield C dX3_pop_2 fX3_32 (x_ovg 0 rfl) rfl ?_
  refine x_iconst (v := 1) C dX3_pop_5 (by decide) ?_
  refine x_isub C dX3_pop_6 ?_
  refine x_putfield C dX3_pop_7 fX3_32 (x_ovg 0 rfl) rfl rfl (Nat.le_of_ble_eq_true rfl) ?_
  refine x_to (x_st_ov 0 (Nat.le_of_ble_eq_true rfl)) ?_
  refine x_aload_n C dX3_pop_10 rfl rfl ?_
  refine x_getfield C dX3_pop_11 fX3_14 (x_ovg 0 rfl) rfl ?_
  refine x_aload_n C dX3_pop_14 rfl rfl ?_
  refine x_getfield C dX3_pop_15 fX3_32 (x_ovg 0 rfl) rfl ?_
  refine x_callV1 C dX3_pop_18 kX3_25 (c_X4_get hO (by decide) (x_bk_sub x_ov_bk 1 rfl)) (x_ovg 1 rfl) rfl (by decide) ⟨Nat.zero_le _, Nat.zero_le _⟩ (Nat.le_of_ble_eq_true rfl) ?_
  rintro _ _ ⟨rfl, rfl⟩
  refine x_iret C E dX3_pop_21 ?_
  exact ⟨rfl, rfl⟩
set_option maxHeartbeats 4000000 in
set_option maxRecDepth 100000 in
theorem c_X3_valueOf {l : Launch} {Y0 : x_Y} (hO : x_Ok Y0) {M : x_M} {a p : Nat} {P : PL} {A : HS} {hx sk : Nat → Int32} {ht : Int32} {Q : HS} (hP : p_ok P) (hQ : q_is Q P) (hb : x_bk M a (hvT a p P A hx sk ht)) (hp : x_bk M p (plT p Q)) (hk9 : h_ok P A) {k : Nat} {x : Int32} (hv : h_isval k = true) (hdt : p_dt P (k, x)) : x_C l Y0 yX3_valueOf cX3_valueOf 3 (some .int) 3 0 0 [.int (nI k), .int x, .ref a] M (fun u M1 => u = some (.int (h_val P A k x)) ∧ M1 = M) := by
  refine x_start hO (by decide +kernel) (Nat.le_of_ble_eq_true rfl) (fun K C E => ?_)
  have hP0 := hP
  have hQ0 := hQ
  obtain ⟨h8, h6, h16, hnp, hwho, hvb, hts⟩ := hP
  obtain ⟨hq0, hq1, hq2, hq3, hq4, hq5, hq6⟩ := hQ
  have hk7 : k = 3 ∨ k = 267 ∨ k = 268 ∨ k = 269 ∨ k = 257 ∨ k = 270 ∨ k = 272 := by simpa [h_isval] using hv
  rcases hk7 with rfl | rfl | rfl | rfl | rfl | rfl | rfl
  · refine x_iload_n C dX3_valueOf_0 rfl rfl ?_
    refine x_tableOut (tgt := 119) C dX3_valueOf_1 (by decide) (by decide) ?_
    refine x_iload_n C dX3_valueOf_119 rfl rfl ?_
    refine x_iret C E dX3_valueOf_120 ?_
    refine ⟨?_, rfl⟩
    first | rfl | (unfold h_val; simp; done) | (show some (Value.int _) = some (Value.int _); unfold h_val; rw [nI_clamp (by omega)]; rfl) | (show some (Value.int _) = some (Value.int _); unfold h_val h_upI; rw [nI_clamp (by omega)]; simp; split <;> rfl) | fail
  · refine x_iload_n C dX3_valueOf_0 rfl rfl ?_
    refine x_tableIn (tgt := 80) C dX3_valueOf_1 (by decide) (by decide) (off := 79) (by decide) (by decide) ?_
    refine x_aload_n C dX3_valueOf_80 rfl rfl ?_
    refine x_getfield C dX3_valueOf_81 fX3_69 (hb 0 _ rfl) rfl ?_
    refine x_iret C E dX3_valueOf_84 ?_
    refine ⟨?_, rfl⟩
    first | rfl | (unfold h_val; simp; done) | (show some (Value.int _) = some (Value.int _); unfold h_val; rw [nI_clamp (by omega)]; rfl) | (show some (Value.int _) = some (Value.int _); unfold h_val h_upI; rw [nI_clamp (by omega)]; simp; split <;> rfl) | fail
  · refine x_iload_n C dX3_valueOf_0 rfl rfl ?_
    refine x_tableIn (tgt := 85) C dX3_valueOf_1 (by decide) (by decide) (off := 84) (by decide) (by decide) ?_
    refine x_aload_n C dX3_valueOf_85 rfl rfl ?_
    refine x_getfield C dX3_valueOf_86 fX3_74 (hb 0 _ rfl) rfl ?_
    refine x_iret C E dX3_valueOf_89 ?_
    refine ⟨?_, rfl⟩
    first | rfl | (unfold h_val; simp; done) | (show some (Value.int _) = some (Value.int _); unfold h_val; rw [nI_clamp (by omega)]; rfl) | (show some (Value.int _) = some (Value.int _); unfold h_val h_upI; rw [nI_clamp (by omega)]; simp; split <;> rfl) | fail
  · refine x_iload_n C dX3_valueOf_0 rfl rfl ?_
    refine x_tableIn (tgt := 90) C dX3_valueOf_1 (by decide) (by decide) (off := 89) (by decide) (by decide) ?_
    refine x_aload_n C dX3_valueOf_90 rfl rfl ?_
    refine x_callV0 C dX3_valueOf_91 kX3_77 (c_X0_countBlocked hO hP0 hQ0 hb hp) (hb 0 _ rfl) rfl (by decide) ⟨Nat.zero_le _, Nat.zero_le _⟩ (Nat.le_of_ble_eq_true rfl) ?_
    rintro _ _ ⟨rfl, rfl⟩
    refine x_iret C E dX3_valueOf_94 ?_
    refine ⟨?_, rfl⟩
    first | rfl | (unfold h_val; simp; done) | (show some (Value.int _) = some (Value.int _); unfold h_val; rw [nI_clamp (by omega)]; rfl) | (show some (Value.int _) = some (Value.int _); unfold h_val h_upI; rw [nI_clamp (by omega)]; simp; split <;> rfl) | fail
  · obtain ⟨d, hd1, hd2⟩ := hdt.1 rfl
    have hd2 : x = nI d := hd2
    subst hd2
    refine x_iload_n C dX3_valueOf_0 rfl rfl ?_
    refine x_tableIn (tgt := 95) C dX3_valueOf_1 (by decide) (by decide) (off := 94) (by decide) (by decide) ?_
    refine x_aload_n C dX3_valueOf_95 rfl rfl ?_
    refine x_getfield C dX3_valueOf_96 fX3_80 (hb 0 _ rfl) rfl ?_
    refine x_iload_n C dX3_valueOf_99 rfl rfl ?_
    refine x_callV1 C dX3_valueOf_100 kX3_25 (c_X4_get hO (by decide) (x_bk_sub hb 4 rfl)) (hb 4 _ rfl) rfl (by decide) ⟨Nat.zero_le _, Nat.zero_le _⟩ (Nat.le_of_ble_eq_true rfl) ?_
    rintro _ _ ⟨rfl, rfl⟩
    rw [rg_nI (show d < 8 by omega) (by decide)]
    rw [s_fill_in hd1]
    refine x_iret C E dX3_valueOf_103 ?_
    refine ⟨?_, rfl⟩
    first | rfl | (unfold h_val; simp; done) | (show some (Value.int _) = some (Value.int _); unfold h_val; rw [nI_clamp (by omega)]; rfl) | (show some (Value.int _) = some (Value.int _); unfold h_val h_upI; rw [nI_clamp (by omega)]; simp; split <;> rfl) | fail
  · obtain ⟨d, hd1, hd2⟩ := hdt.2.1 rfl
    have hd2 : x = nI d := hd2
    subst hd2
    refine x_iload_n C dX3_valueOf_0 rfl rfl ?_
    refine x_tableIn (tgt := 104) C dX3_valueOf_1 (by decide) (by decide) (off := 103) (by decide) (by decide) ?_
    refine x_aload_n C dX3_valueOf_104 rfl rfl ?_
    refine x_iload_n C dX3_valueOf_105 rfl rfl ?_
    refine x_callV1 C dX3_valueOf_106 kX3_83 (c_X0_daysWaited hO hP0 hQ0 hb hp hd1) (hb 0 _ rfl) rfl (by decide) ⟨Nat.zero_le _, Nat.zero_le _⟩ (Nat.le_of_ble_eq_true rfl) ?_
    rintro _ _ ⟨rfl, rfl⟩
    refine x_iret C E dX3_valueOf_109 ?_
    refine ⟨?_, rfl⟩
    first | rfl | (unfold h_val; simp; done) | (show some (Value.int _) = some (Value.int _); unfold h_val; rw [nI_clamp (by omega)]; rfl) | (show some (Value.int _) = some (Value.int _); unfold h_val h_upI; rw [nI_clamp (by omega)]; simp; split <;> rfl) | fail
  · obtain ⟨d, hd1, hd2⟩ := hdt.2.2 rfl
    have hd2 : x = nI d := hd2
    subst hd2
    refine x_iload_n C dX3_valueOf_0 rfl rfl ?_
    refine x_tableIn (tgt := 110) C dX3_valueOf_1 (by decide) (by decide) (off := 109) (by decide) (by decide) ?_
    refine x_aload_n C dX3_valueOf_110 rfl rfl ?_
    refine x_iload_n C dX3_valueOf_111 rfl rfl ?_
    refine x_callV1 C dX3_valueOf_112 kX3_86 (c_X0_isUp hO hP0 hQ0 hb hp (hk9.1 8) (by omega)) (hb 0 _ rfl) rfl (by decide) ⟨Nat.zero_le _, Nat.zero_le _⟩ (Nat.le_of_ble_eq_true rfl) ?_
    rintro _ _ ⟨rfl, rfl⟩
    refine x_callS1 C dX3_valueOf_115 kX3_43 (c_X8_bit hO) (by decide) ⟨Nat.zero_le _, Nat.zero_le _⟩ (Nat.le_of_ble_eq_true rfl) ?_
    rintro _ _ ⟨rfl, rfl⟩
    refine x_iret C E dX3_valueOf_118 ?_
    refine ⟨?_, rfl⟩
    have e : h_val P A 272 (nI d) = if A 1 d = 0 then 1 else 0 := by
      unfold h_val
      rw [nI_clamp (by omega)]
      rfl
    rw [e]
    unfold h_upI
    by_cases q : A 1 d = 0
    · simp [q]
    · simp [q]
