theorem lX7_50 : Cond.constantLong RX7 50 (37 : Int64) ∈ lw_tbl := (x_t1 _ (List.mem_of_getElem? (i := 218) (by decide +kernel)))
theorem lX7_115 : Cond.constantLong RX7 115 (10 : Int64) ∈ lw_tbl := (x_t2 _ (List.mem_of_getElem? (i := 203) (by decide +kernel)))
theorem lX7_117 : Cond.constantLong RX7 117 (48 : Int64) ∈ lw_tbl := (x_t2 _ (List.mem_of_getElem? (i := 204) (by decide +kernel)))
theorem lX8_208 : Cond.constantLong RX8 208 (1087 : Int64) ∈ lw_tbl := (x_t4 _ (List.mem_of_getElem? (i := 95) (by decide +kernel)))
theorem lX8_271 : Cond.constantLong RX8 271 (31 : Int64) ∈ lw_tbl := (x_t4 _ (List.mem_of_getElem? (i := 99) (by decide +kernel)))
theorem lX11_374 : Cond.constantLong RX11 374 (1087 : Int64) ∈ lw_tbl := (x_t8 _ (List.mem_of_getElem? (i := 127) (by decide +kernel)))
theorem lX11_376 : Cond.constantLong RX11 376 (31 : Int64) ∈ lw_tbl := (x_t8 _ (List.mem_of_getElem? (i := 128) (by decide +kernel)))
section
variable {K : x_K} {l : Launch} {Y0 : x_Y} {y : MethodName} {cc : ByteArray} {nL d mc ms cells slots pc : Nat} {lv : List (Nat × Value)} {st : List Value} {M : x_M}
theorem x_ldc2 (C : x_Ctx K l Y0 y cc nL d mc ms) {idx : Nat} {v : Int64} (dd : decode cc pc = .ok (.ldc2_w idx, 3)) (hL : Cond.constantLong y.cls idx v ∈ lw_tbl) (k : x_X K nL cells slots (pc + 3) lv (.long v :: st) M) : x_X K nL cells slots pc lv st M := by
  obtain ⟨p, l1, e, R, s, m, args, below, meth, c, Y, Q⟩ := K
  have hw0 := fun {w : Cond} (h : w ∈ lw_tbl) (hg : x_gd w) => x_word C h hg
  obtain ⟨hx, hb, hml, hown, hlk, hnm, hW, hok, hB, hfz, rfl, rfl, rfl⟩ := C
  intro H locs ls hw hs hl
  exact lv_ldc2 hx hb hown (hw0 hL (Or.inl rfl)) dd (k H locs ls hw hs hl)
theorem x_dconst0 (C : x_Ctx K l Y0 y cc nL d mc ms) (dd : decode cc pc = .ok (.dconst 0, 1)) (k : x_X K nL cells slots (pc + 1) lv (.double FP.dconst0 :: st) M) : x_X K nL cells slots pc lv st M := by
  obtain ⟨p, l1, e, R, s, m, args, below, meth, c, Y, Q⟩ := K
  have hw0 := fun {w : Cond} (h : w ∈ lw_tbl) (hg : x_gd w) => x_word C h hg
  obtain ⟨hx, hb, hml, hown, hlk, hnm, hW, hok, hB, hfz, rfl, rfl, rfl⟩ := C
  intro H locs ls hw hs hl
  exact lv_dconst0 hx hb dd (k H locs ls hw hs hl)
theorem x_i2d (C : x_Ctx K l Y0 y cc nL d mc ms) {x : Int32} (dd : decode cc pc = .ok (.i2d, 1)) (k : x_X K nL cells slots (pc + 1) lv (.double (FP.i2d x) :: st) M) : x_X K nL cells slots pc lv (.int x :: st) M := by
  obtain ⟨p, l1, e, R, s, m, args, below, meth, c, Y, Q⟩ := K
  have hw0 := fun {w : Cond} (h : w ∈ lw_tbl) (hg : x_gd w) => x_word C h hg
  obtain ⟨hx, hb, hml, hown, hlk, hnm, hW, hok, hB, hfz, rfl, rfl, rfl⟩ := C
  intro H locs ls hw hs hl
  exact lv_i2d hx hb dd (k H locs ls hw hs hl)
theorem x_ddiv (C : x_Ctx K l Y0 y cc nL d mc ms) {x z : UInt64} (dd : decode cc pc = .ok (.ddiv, 1)) (hn : vf_n64 (FP.ddiv x z)) (k : x_X K nL cells slots (pc + 1) lv (.double (FP.ddiv x z) :: st) M) : x_X K nL cells slots pc lv (.double z :: .double x :: st) M := by
  obtain ⟨p, l1, e, R, s, m, args, below, meth, c, Y, Q⟩ := K
  have hw0 := fun {w : Cond} (h : w ∈ lw_tbl) (hg : x_gd w) => x_word C h hg
  obtain ⟨hx, hb, hml, hown, hlk, hnm, hW, hok, hB, hfz, rfl, rfl, rfl⟩ := C
  intro H locs ls hw hs hl
  exact lv_ddiv hx hb dd hn (k H locs ls hw hs hl)
end
