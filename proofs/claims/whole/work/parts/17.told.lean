def g_cd (k : Nat) : Nat := if k = 275 then 19 else if k = 274 then 18 else if k = 60 then 38 else if k = 62 then 39 else if k = 61 then 42 else if k = 188 then 43 else if k = 190 then 44 else if k = 43 then 34 else if k = 45 then 35 else if k = 42 then 36 else if k = 47 then 37 else if k = 276 then 20 else if k = 277 then 21 else 0
set_option maxHeartbeats 4000000 in
set_option maxRecDepth 100000 in
theorem c_X11_both {l : Launch} {Y0 : x_Y} (hO : x_Ok Y0) {M : x_M} {k : Nat} {x z : Int32} (hk : h_bin k) : x_C l Y0 yX11_both cX11_both 3 (some .int) 2 0 0 [.int (nI (g_cd k)), .int x, .int z] M (fun u M1 => u = some (.int (h_join k x z)) ∧ M1 = M) := by
  refine x_start hO (by decide +kernel) (Nat.le_of_ble_eq_true rfl) (fun K C E => ?_)
  rcases hk with rfl | rfl | rfl | rfl | rfl | rfl | rfl | rfl | rfl | rfl | rfl | rfl | rfl
  · refine x_iload_n C dX11_both_0 rfl rfl ?_
    refine x_tableIn (tgt := 219) C dX11_both_1 (by decide) (by decide) (off := 218) (by decide) (by decide) ?_
    refine x_iload_n C dX11_both_219 rfl rfl ?_
    refine x_iload_n C dX11_both_220 rfl rfl ?_
    refine x_ior C dX11_both_221 ?_
    refine x_iret C E dX11_both_222 ?_
    refine ⟨?_, rfl⟩
    first | rfl | (simp [h_join, h_b, Int32.not_lt.mpr c162]; done) | (simp [h_join, h_b, Int32.not_le.mp c162]; done) | (simp [h_join, h_b, Int32.not_le.mpr c162]; done) | (simp [h_join, h_b, Int32.not_lt.mp c162]; done) | (simp [h_join, h_b, Int32.not_lt.mpr c173]; done) | (simp [h_join, h_b, Int32.not_le.mp c173]; done) | (simp [h_join, h_b, Int32.not_le.mpr c173]; done) | (simp [h_join, h_b, Int32.not_lt.mp c173]; done) | (simp [h_join, h_b, Int32.not_lt.mpr c195]; done) | (simp [h_join, h_b, Int32.not_le.mp c195]; done) | (simp [h_join, h_b, Int32.not_le.mpr c195]; done) | (simp [h_join, h_b, Int32.not_lt.mp c195]; done) | (simp [h_join, h_b, Int32.not_lt.mpr c206]; done) | (simp [h_join, h_b, Int32.not_le.mp c206]; done) | (simp [h_join, h_b, Int32.not_le.mpr c206]; done) | (simp [h_join, h_b, Int32.not_lt.mp c206]; done) | (simp [h_join, h_b, c184]; done) | (simp [h_join, c137]; done) | fail
  · refine x_iload_n C dX11_both_0 rfl rfl ?_
    refine x_tableIn (tgt := 215) C dX11_both_1 (by decide) (by decide) (off := 214) (by decide) (by decide) ?_
    refine x_iload_n C dX11_both_215 rfl rfl ?_
    refine x_iload_n C dX11_both_216 rfl rfl ?_
    refine x_iand C dX11_both_217 ?_
    refine x_iret C E dX11_both_218 ?_
    refine ⟨?_, rfl⟩
    first | rfl | (simp [h_join, h_b, Int32.not_lt.mpr c162]; done) | (simp [h_join, h_b, Int32.not_le.mp c162]; done) | (simp [h_join, h_b, Int32.not_le.mpr c162]; done) | (simp [h_join, h_b, Int32.not_lt.mp c162]; done) | (simp [h_join, h_b, Int32.not_lt.mpr c173]; done) | (simp [h_join, h_b, Int32.not_le.mp c173]; done) | (simp [h_join, h_b, Int32.not_le.mpr c173]; done) | (simp [h_join, h_b, Int32.not_lt.mp c173]; done) | (simp [h_join, h_b, Int32.not_lt.mpr c195]; done) | (simp [h_join, h_b, Int32.not_le.mp c195]; done) | (simp [h_join, h_b, Int32.not_le.mpr c195]; done) | (simp [h_join, h_b, Int32.not_lt.mp c195]; done) | (simp [h_join, h_b, Int32.not_lt.mpr c206]; done) | (simp [h_join, h_b, Int32.not_le.mp c206]; done) | (simp [h_join, h_b, Int32.not_le.mpr c206]; done) | (simp [h_join, h_b, Int32.not_lt.mp c206]; done) | (simp [h_join, h_b, c184]; done) | (simp [h_join, c137]; done) | fail
  · refine x_iload_n C dX11_both_0 rfl rfl ?_
    refine x_tableIn (tgt := 160) C dX11_both_1 (by decide) (by decide) (off := 159) (by decide) (by decide) ?_
    refine x_iload_n C dX11_both_160 rfl rfl ?_
    refine x_iload_n C dX11_both_161 rfl rfl ?_
    refine x_icmp_ge (tgt := 169) C dX11_both_162 (by decide) (fun c162 => ?_) (fun c162 => ?_)
    · refine x_iconst (v := 0) C dX11_both_169 (by decide) ?_
      refine x_iret C E dX11_both_170 ?_
      refine ⟨?_, rfl⟩
      first | rfl | (simp [h_join, h_b, Int32.not_lt.mpr c162]; done) | (simp [h_join, h_b, Int32.not_le.mp c162]; done) | (simp [h_join, h_b, Int32.not_le.mpr c162]; done) | (simp [h_join, h_b, Int32.not_lt.mp c162]; done) | (simp [h_join, h_b, Int32.not_lt.mpr c173]; done) | (simp [h_join, h_b, Int32.not_le.mp c173]; done) | (simp [h_join, h_b, Int32.not_le.mpr c173]; done) | (simp [h_join, h_b, Int32.not_lt.mp c173]; done) | (simp [h_join, h_b, Int32.not_lt.mpr c195]; done) | (simp [h_join, h_b, Int32.not_le.mp c195]; done) | (simp [h_join, h_b, Int32.not_le.mpr c195]; done) | (simp [h_join, h_b, Int32.not_lt.mp c195]; done) | (simp [h_join, h_b, Int32.not_lt.mpr c206]; done) | (simp [h_join, h_b, Int32.not_le.mp c206]; done) | (simp [h_join, h_b, Int32.not_le.mpr c206]; done) | (simp [h_join, h_b, Int32.not_lt.mp c206]; done) | (simp [h_join, h_b, c184]; done) | (simp [h_join, c137]; done) | fail
    · refine x_iconst (v := 1) C dX11_both_165 (by decide) ?_
      refine x_goto (tgt := 170) C dX11_both_166 (by decide) ?_
      refine x_iret C E dX11_both_170 ?_
      refine ⟨?_, rfl⟩
      first | rfl | (simp [h_join, h_b, Int32.not_lt.mpr c162]; done) | (simp [h_join, h_b, Int32.not_le.mp c162]; done) | (simp [h_join, h_b, Int32.not_le.mpr c162]; done) | (simp [h_join, h_b, Int32.not_lt.mp c162]; done) | (simp [h_join, h_b, Int32.not_lt.mpr c173]; done) | (simp [h_join, h_b, Int32.not_le.mp c173]; done) | (simp [h_join, h_b, Int32.not_le.mpr c173]; done) | (simp [h_join, h_b, Int32.not_lt.mp c173]; done) | (simp [h_join, h_b, Int32.not_lt.mpr c195]; done) | (simp [h_join, h_b, Int32.not_le.mp c195]; done) | (simp [h_join, h_b, Int32.not_le.mpr c195]; done) | (simp [h_join, h_b, Int32.not_lt.mp c195]; done) | (simp [h_join, h_b, Int32.not_lt.mpr c206]; done) | (simp [h_join, h_b, Int32.not_le.mp c206]; done) | (simp [h_join, h_b, Int32.not_le.mpr c206]; done) | (simp [h_join, h_b, Int32.not_lt.mp c206]; done) | (simp [h_join, h_b, c184]; done) | (simp [h_join, c137]; done) | fail
  · refine x_iload_n C dX11_both_0 rfl rfl ?_
    refine x_tableIn (tgt := 171) C dX11_both_1 (by decide) (by decide) (off := 170) (by decide) (by decide) ?_
    refine x_iload_n C dX11_both_171 rfl rfl ?_
    refine x_iload_n C dX11_both_172 rfl rfl ?_
    refine x_icmp_le (tgt := 180) C dX11_both_173 (by decide) (fun c173 => ?_) (fun c173 => ?_)
    · refine x_iconst (v := 0) C dX11_both_180 (by decide) ?_
      refine x_iret C E dX11_both_181 ?_
      refine ⟨?_, rfl⟩
      first | rfl | (simp [h_join, h_b, Int32.not_lt.mpr c162]; done) | (simp [h_join, h_b, Int32.not_le.mp c162]; done) | (simp [h_join, h_b, Int32.not_le.mpr c162]; done) | (simp [h_join, h_b, Int32.not_lt.mp c162]; done) | (simp [h_join, h_b, Int32.not_lt.mpr c173]; done) | (simp [h_join, h_b, Int32.not_le.mp c173]; done) | (simp [h_join, h_b, Int32.not_le.mpr c173]; done) | (simp [h_join, h_b, Int32.not_lt.mp c173]; done) | (simp [h_join, h_b, Int32.not_lt.mpr c195]; done) | (simp [h_join, h_b, Int32.not_le.mp c195]; done) | (simp [h_join, h_b, Int32.not_le.mpr c195]; done) | (simp [h_join, h_b, Int32.not_lt.mp c195]; done) | (simp [h_join, h_b, Int32.not_lt.mpr c206]; done) | (simp [h_join, h_b, Int32.not_le.mp c206]; done) | (simp [h_join, h_b, Int32.not_le.mpr c206]; done) | (simp [h_join, h_b, Int32.not_lt.mp c206]; done) | (simp [h_join, h_b, c184]; done) | (simp [h_join, c137]; done) | fail
    · refine x_iconst (v := 1) C dX11_both_176 (by decide) ?_
      refine x_goto (tgt := 181) C dX11_both_177 (by decide) ?_
      refine x_iret C E dX11_both_181 ?_
      refine ⟨?_, rfl⟩
      first | rfl | (simp [h_join, h_b, Int32.not_lt.mpr c162]; done) | (simp [h_join, h_b, Int32.not_le.mp c162]; done) | (simp [h_join, h_b, Int32.not_le.mpr c162]; done) | (simp [h_join, h_b, Int32.not_lt.mp c162]; done) | (simp [h_join, h_b, Int32.not_lt.mpr c173]; done) | (simp [h_join, h_b, Int32.not_le.mp c173]; done) | (simp [h_join, h_b, Int32.not_le.mpr c173]; done) | (simp [h_join, h_b, Int32.not_lt.mp c173]; done) | (simp [h_join, h_b, Int32.not_lt.mpr c195]; done) | (simp [h_join, h_b, Int32.not_le.mp c195]; done) | (simp [h_join, h_b, Int32.not_le.mpr c195]; done) | (simp [h_join, h_b, Int32.not_lt.mp c195]; done) | (simp [h_join, h_b, Int32.not_lt.mpr c206]; done) | (simp [h_join, h_b, Int32.not_le.mp c206]; done) | (simp [h_join, h_b, Int32.not_le.mpr c206]; done) | (simp [h_join, h_b, Int32.not_lt.mp c206]; done) | (simp [h_join, h_b, c184]; done) | (simp [h_join, c137]; done) | fail
  · refine x_iload_n C dX11_both_0 rfl rfl ?_
    refine x_tableIn (tgt := 182) C dX11_both_1 (by decide) (by decide) (off := 181) (by decide) (by decide) ?_
    refine x_iload_n C dX11_both_182 rfl rfl ?_
    refine x_iload_n C dX11_both_183 rfl rfl ?_
    refine x_icmp_ne (tgt := 191) C dX11_both_184 (by decide) (fun c184 => ?_) (fun c184 => ?_)
    · refine x_iconst (v := 0) C dX11_both_191 (by decide) ?_
      refine x_iret C E dX11_both_192 ?_
      refine ⟨?_, rfl⟩
      first | rfl | (simp [h_join, h_b, Int32.not_lt.mpr c162]; done) | (simp [h_join, h_b, Int32.not_le.mp c162]; done) | (simp [h_join, h_b, Int32.not_le.mpr c162]; done) | (simp [h_join, h_b, Int32.not_lt.mp c162]; done) | (simp [h_join, h_b, Int32.not_lt.mpr c173]; done) | (simp [h_join, h_b, Int32.not_le.mp c173]; done) | (simp [h_join, h_b, Int32.not_le.mpr c173]; done) | (simp [h_join, h_b, Int32.not_lt.mp c173]; done) | (simp [h_join, h_b, Int32.not_lt.mpr c195]; done) | (simp [h_join, h_b, Int32.not_le.mp c195]; done) | (simp [h_join, h_b, Int32.not_le.mpr c195]; done) | (simp [h_join, h_b, Int32.not_lt.mp c195]; done) | (simp [h_join, h_b, Int32.not_lt.mpr c206]; done) | (simp [h_join, h_b, Int32.not_le.mp c206]; done) | (simp [h_join, h_b, Int32.not_le.mpr c206]; done) | (simp [h_join, h_b, Int32.not_lt.mp c206]; done) | (simp [h_join, h_b, c184]; done) | (simp [h_join, c137]; done) | fail
    · refine x_iconst (v := 1) C dX11_both_187 (by decide) ?_
      refine x_goto (tgt := 192) C dX11_both_188 (by decide) ?_
      refine x_iret C E dX11_both_192 ?_
      refine ⟨?_, rfl⟩
      first | rfl | (simp [h_join, h_b, Int32.not_lt.mpr c162]; done) | (simp [h_join, h_b, Int32.not_le.mp c162]; done) | (simp [h_join, h_b, Int32.not_le.mpr c162]; done) | (simp [h_join, h_b, Int32.not_lt.mp c162]; done) | (simp [h_join, h_b, Int32.not_lt.mpr c173]; done) | (simp [h_join, h_b, Int32.not_le.mp c173]; done) | (simp [h_join, h_b, Int32.not_le.mpr c173]; done) | (simp [h_join, h_b, Int32.not_lt.mp c173]; done) | (simp [h_join, h_b, Int32.not_lt.mpr c195]; done) | (simp [h_join, h_b, Int32.not_le.mp c195]; done) | (simp [h_join, h_b, Int32.not_le.mpr c195]; done) | (simp [h_join, h_b, Int32.not_lt.mp c195]; done) | (simp [h_join, h_b, Int32.not_lt.mpr c206]; done) | (simp [h_join, h_b, Int32.not_le.mp c206]; done) | (simp [h_join, h_b, Int32.not_le.mpr c206]; done) | (simp [h_join, h_b, Int32.not_lt.mp c206]; done) | (simp [h_join, h_b, c184]; done) | (simp [h_join, c137]; done) | fail
  · refine x_iload_n C dX11_both_0 rfl rfl ?_
    refine x_tableIn (tgt := 193) C dX11_both_1 (by decide) (by decide) (off := 192) (by decide) (by decide) ?_
    refine x_iload_n C dX11_both_193 rfl rfl ?_
    refine x_iload_n C dX11_both_194 rfl rfl ?_
    refine x_icmp_gt (tgt := 202) C dX11_both_195 (by decide) (fun c195 => ?_) (fun c195 => ?_)
    · refine x_iconst (v := 0) C dX11_both_202 (by decide) ?_
      refine x_iret C E dX11_both_203 ?_
      refine ⟨?_, rfl⟩
      first | rfl | (simp [h_join, h_b, Int32.not_lt.mpr c162]; done) | (simp [h_join, h_b, Int32.not_le.mp c162]; done) | (simp [h_join, h_b, Int32.not_le.mpr c162]; done) | (simp [h_join, h_b, Int32.not_lt.mp c162]; done) | (simp [h_join, h_b, Int32.not_lt.mpr c173]; done) | (simp [h_join, h_b, Int32.not_le.mp c173]; done) | (simp [h_join, h_b, Int32.not_le.mpr c173]; done) | (simp [h_join, h_b, Int32.not_lt.mp c173]; done) | (simp [h_join, h_b, Int32.not_lt.mpr c195]; done) | (simp [h_join, h_b, Int32.not_le.mp c195]; done) | (simp [h_join, h_b, Int32.not_le.mpr c195]; done) | (simp [h_join, h_b, Int32.not_lt.mp c195]; done) | (simp [h_join, h_b, Int32.not_lt.mpr c206]; done) | (simp [h_join, h_b, Int32.not_le.mp c206]; done) | (simp [h_join, h_b, Int32.not_le.mpr c206]; done) | (simp [h_join, h_b, Int32.not_lt.mp c206]; done) | (simp [h_join, h_b, c184]; done) | (simp [h_join, c137]; done) | fail
    · refine x_iconst (v := 1) C dX11_both_198 (by decide) ?_
      refine x_goto (tgt := 203) C dX11_both_199 (by decide) ?_
      refine x_iret C E dX11_both_203 ?_
      refine ⟨?_, rfl⟩
      first | rfl | (simp [h_join, h_b, Int32.not_lt.mpr c162]; done) | (simp [h_join, h_b, Int32.not_le.mp c162]; done) | (simp [h_join, h_b, Int32.not_le.mpr c162]; done) | (simp [h_join, h_b, Int32.not_lt.mp c162]; done) | (simp [h_join, h_b, Int32.not_lt.mpr c173]; done) | (simp [h_join, h_b, Int32.not_le.mp c173]; done) | (simp [h_join, h_b, Int32.not_le.mpr c173]; done) | (simp [h_join, h_b, Int32.not_lt.mp c173]; done) | (simp [h_join, h_b, Int32.not_lt.mpr c195]; done) | (simp [h_join, h_b, Int32.not_le.mp c195]; done) | (simp [h_join, h_b, Int32.not_le.mpr c195]; done) | (simp [h_join, h_b, Int32.not_lt.mp c195]; done) | (simp [h_join, h_b, Int32.not_lt.mpr c206]; done) | (simp [h_join, h_b, Int32.not_le.mp c206]; done) | (simp [h_join, h_b, Int32.not_le.mpr c206]; done) | (simp [h_join, h_b, Int32.not_lt.mp c206]; done) | (simp [h_join, h_b, c184]; done) | (simp [h_join, c137]; done) | fail
  · refine x_iload_n C dX11_both_0 rfl rfl ?_
    refine x_tableIn (tgt := 204) C dX11_both_1 (by decide) (by decide) (off := 203) (by decide) (by decide) ?_
    refine x_iload_n C dX11_both_204 rfl rfl ?_
    refine x_iload_n C dX11_both_205 rfl rfl ?_
    refine x_icmp_lt (tgt := 213) C dX11_both_206 (by decide) (fun c206 => ?_) (fun c206 => ?_)
    · refine x_iconst (v := 0) C dX11_both_213 (by decide) ?_
      refine x_iret C E dX11_both_214 ?_
      refine ⟨?_, rfl⟩
      first | rfl | (simp [h_join, h_b, Int32.not_lt.mpr c162]; done) | (simp [h_join, h_b, Int32.not_le.mp c162]; done) | (simp [h_join, h_b, Int32.not_le.mpr c162]; done) | (simp [h_join, h_b, Int32.not_lt.mp c162]; done) | (simp [h_join, h_b, Int32.not_lt.mpr c173]; done) | (simp [h_join, h_b, Int32.not_le.mp c173]; done) | (simp [h_join, h_b, Int32.not_le.mpr c173]; done) | (simp [h_join, h_b, Int32.not_lt.mp c173]; done) | (simp [h_join, h_b, Int32.not_lt.mpr c195]; done) | (simp [h_join, h_b, Int32.not_le.mp c195]; done) | (simp [h_join, h_b, Int32.not_le.mpr c195]; done) | (simp [h_join, h_b, Int32.not_lt.mp c195]; done) | (simp [h_join, h_b, Int32.not_lt.mpr c206]; done) | (simp [h_join, h_b, Int32.not_le.mp c206]; done) | (simp [h_join, h_b, Int32.not_le.mpr c206]; done) | (simp [h_join, h_b, Int32.not_lt.mp c206]; done) | (simp [h_join, h_b, c184]; done) | (simp [h_join, c137]; done) | fail
    · refine x_iconst (v := 1) C dX11_both_209 (by decide) ?_
      refine x_goto (tgt := 214) C dX11_both_210 (by decide) ?_
      refine x_iret C E dX11_both_214 ?_
      refine ⟨?_, rfl⟩
      first | rfl | (simp [h_join, h_b, Int32.not_lt.mpr c162]; done) | (simp [h_join, h_b, Int32.not_le.mp c162]; done) | (simp [h_join, h_b, Int32.not_le.mpr c162]; done) | (simp [h_join, h_b, Int32.not_lt.mp c162]; done) | (simp [h_join, h_b, Int32.not_lt.mpr c173]; done) | (simp [h_join, h_b, Int32.not_le.mp c173]; done) | (simp [h_join, h_b, Int32.not_le.mpr c173]; done) | (simp [h_join, h_b, Int32.not_lt.mp c173]; done) | (simp [h_join, h_b, Int32.not_lt.mpr c195]; done) | (simp [h_join, h_b, Int32.not_le.mp c195]; done) | (simp [h_join, h_b, Int32.not_le.mpr c195]; done) | (simp [h_join, h_b, Int32.not_lt.mp c195]; done) | (simp [h_join, h_b, Int32.not_lt.mpr c206]; done) | (simp [h_join, h_b, Int32.not_le.mp c206]; done) | (simp [h_join, h_b, Int32.not_le.mpr c206]; done) | (simp [h_join, h_b, Int32.not_lt.mp c206]; done) | (simp [h_join, h_b, c184]; done) | (simp [h_join, c137]; done) | fail
  · refine x_iload_n C dX11_both_0 rfl rfl ?_
    refine x_tableIn (tgt := 124) C dX11_both_1 (by decide) (by decide) (off := 123) (by decide) (by decide) ?_
    refine x_iload_n C dX11_both_124 rfl rfl ?_
    refine x_iload_n C dX11_both_125 rfl rfl ?_
    refine x_iadd C dX11_both_126 ?_
    refine x_iret C E dX11_both_127 ?_
    refine ⟨?_, rfl⟩
    first | rfl | (simp [h_join, h_b, Int32.not_lt.mpr c162]; done) | (simp [h_join, h_b, Int32.not_le.mp c162]; done) | (simp [h_join, h_b, Int32.not_le.mpr c162]; done) | (simp [h_join, h_b, Int32.not_lt.mp c162]; done) | (simp [h_join, h_b, Int32.not_lt.mpr c173]; done) | (simp [h_join, h_b, Int32.not_le.mp c173]; done) | (simp [h_join, h_b, Int32.not_le.mpr c173]; done) | (simp [h_join, h_b, Int32.not_lt.mp c173]; done) | (simp [h_join, h_b, Int32.not_lt.mpr c195]; done) | (simp [h_join, h_b, Int32.not_le.mp c195]; done) | (simp [h_join, h_b, Int32.not_le.mpr c195]; done) | (simp [h_join, h_b, Int32.not_lt.mp c195]; done) | (simp [h_join, h_b, Int32.not_lt.mpr c206]; done) | (simp [h_join, h_b, Int32.not_le.mp c206]; done) | (simp [h_join, h_b, Int32.not_le.mpr c206]; done) | (simp [h_join, h_b, Int32.not_lt.mp c206]; done) | (simp [h_join, h_b, c184]; done) | (simp [h_join, c137]; done) | fail
  · refine x_iload_n C dX11_both_0 rfl rfl ?_
    refine x_tableIn (tgt := 128) C dX11_both_1 (by decide) (by decide) (off := 127) (by decide) (by decide) ?_
    refine x_iload_n C dX11_both_128 rfl rfl ?_
    refine x_iload_n C dX11_both_129 rfl rfl ?_
    refine x_isub C dX11_both_130 ?_
    refine x_iret C E dX11_both_131 ?_
    refine ⟨?_, rfl⟩
    first | rfl | (simp [h_join, h_b, Int32.not_lt.mpr c162]; done) | (simp [h_join, h_b, Int32.not_le.mp c162]; done) | (simp [h_join, h_b, Int32.not_le.mpr c162]; done) | (simp [h_join, h_b, Int32.not_lt.mp c162]; done) | (simp [h_join, h_b, Int32.not_lt.mpr c173]; done) | (simp [h_join, h_b, Int32.not_le.mp c173]; done) | (simp [h_join, h_b, Int32.not_le.mpr c173]; done) | (simp [h_join, h_b, Int32.not_lt.mp c173]; done) | (simp [h_join, h_b, Int32.not_lt.mpr c195]; done) | (simp [h_join, h_b, Int32.not_le.mp c195]; done) | (simp [h_join, h_b, Int32.not_le.mpr c195]; done) | (simp [h_join, h_b, Int32.not_lt.mp c195]; done) | (simp [h_join, h_b, Int32.not_lt.mpr c206]; done) | (simp [h_join, h_b, Int32.not_le.mp c206]; done) | (simp [h_join, h_b, Int32.not_le.mpr c206]; done) | (simp [h_join, h_b, Int32.not_lt.mp c206]; done) | (simp [h_join, h_b, c184]; done) | (simp [h_join, c137]; done) | fail
  · refine x_iload_n C dX11_both_0 rfl rfl ?_
    refine x_tableIn (tgt := 132) C dX11_both_1 (by decide) (by decide) (off := 131) (by decide) (by decide) ?_
    refine x_iload_n C dX11_both_132 rfl rfl ?_
    refine x_iload_n C dX11_both_133 rfl rfl ?_
    refine x_imul C dX11_both_134 ?_
    refine x_iret C E dX11_both_135 ?_
    refine ⟨?_, rfl⟩
    first | rfl | (simp [h_join, h_b, Int32.not_lt.mpr c162]; done) | (simp [h_join, h_b, Int32.not_le.mp c162]; done) | (simp [h_join, h_b, Int32.not_le.mpr c162]; done) | (simp [h_join, h_b, Int32.not_lt.mp c162]; done) | (simp [h_join, h_b, Int32.not_lt.mpr c173]; done) | (simp [h_join, h_b, Int32.not_le.mp c173]; done) | (simp [h_join, h_b, Int32.not_le.mpr c173]; done) | (simp [h_join, h_b, Int32.not_lt.mp c173]; done) | (simp [h_join, h_b, Int32.not_lt.mpr c195]; done) | (simp [h_join, h_b, Int32.not_le.mp c195]; done) | (simp [h_join, h_b, Int32.not_le.mpr c195]; done) | (simp [h_join, h_b, Int32.not_lt.mp c195]; done) | (simp [h_join, h_b, Int32.not_lt.mpr c206]; done) | (simp [h_join, h_b, Int32.not_le.mp c206]; done) | (simp [h_join, h_b, Int32.not_le.mpr c206]; done) | (simp [h_join, h_b, Int32.not_lt.mp c206]; done) | (simp [h_join, h_b, c184]; done) | (simp [h_join, c137]; done) | fail
  · refine x_iload_n C dX11_both_0 rfl rfl ?_
    refine x_tableIn (tgt := 136) C dX11_both_1 (by decide) (by decide) (off := 135) (by decide) (by decide) ?_
    refine x_iload_n C dX11_both_136 rfl rfl ?_
    refine x_if_ne (tgt := 144) C dX11_both_137 (by decide) (fun c137 => ?_) (fun c137 => ?_)
    · refine x_iload_n C dX11_both_144 rfl rfl ?_
      refine x_iload_n C dX11_both_145 rfl rfl ?_
      refine x_idiv C dX11_both_146 c137 ?_
      refine x_iret C E dX11_both_147 ?_
      refine ⟨?_, rfl⟩
      first | rfl | (simp [h_join, h_b, Int32.not_lt.mpr c162]; done) | (simp [h_join, h_b, Int32.not_le.mp c162]; done) | (simp [h_join, h_b, Int32.not_le.mpr c162]; done) | (simp [h_join, h_b, Int32.not_lt.mp c162]; done) | (simp [h_join, h_b, Int32.not_lt.mpr c173]; done) | (simp [h_join, h_b, Int32.not_le.mp c173]; done) | (simp [h_join, h_b, Int32.not_le.mpr c173]; done) | (simp [h_join, h_b, Int32.not_lt.mp c173]; done) | (simp [h_join, h_b, Int32.not_lt.mpr c195]; done) | (simp [h_join, h_b, Int32.not_le.mp c195]; done) | (simp [h_join, h_b, Int32.not_le.mpr c195]; done) | (simp [h_join, h_b, Int32.not_lt.mp c195]; done) | (simp [h_join, h_b, Int32.not_lt.mpr c206]; done) | (simp [h_join, h_b, Int32.not_le.mp c206]; done) | (simp [h_join, h_b, Int32.not_le.mpr c206]; done) | (simp [h_join, h_b, Int32.not_lt.mp c206]; done) | (simp [h_join, h_b, c184]; done) | (simp [h_join, c137]; done) | fail
    · refine x_iconst (v := 0) C dX11_both_140 (by decide) ?_
      refine x_goto (tgt := 147) C dX11_both_141 (by decide) ?_
      refine x_iret C E dX11_both_147 ?_
      refine ⟨?_, rfl⟩
      first | rfl | (simp [h_join, h_b, Int32.not_lt.mpr c162]; done) | (simp [h_join, h_b, Int32.not_le.mp c162]; done) | (simp [h_join, h_b, Int32.not_le.mpr c162]; done) | (simp [h_join, h_b, Int32.not_lt.mp c162]; done) | (simp [h_join, h_b, Int32.not_lt.mpr c173]; done) | (simp [h_join, h_b, Int32.not_le.mp c173]; done) | (simp [h_join, h_b, Int32.not_le.mpr c173]; done) | (simp [h_join, h_b, Int32.not_lt.mp c173]; done) | (simp [h_join, h_b, Int32.not_lt.mpr c195]; done) | (simp [h_join, h_b, Int32.not_le.mp c195]; done) | (simp [h_join, h_b, Int32.not_le.mpr c195]; done) | (simp [h_join, h_b, Int32.not_lt.mp c195]; done) | (simp [h_join, h_b, Int32.not_lt.mpr c206]; done) | (simp [h_join, h_b, Int32.not_le.mp c206]; done) | (simp [h_join, h_b, Int32.not_le.mpr c206]; done) | (simp [h_join, h_b, Int32.not_lt.mp c206]; done) | (simp [h_join, h_b, c184]; done) | (simp [h_join, c137]; done) | fail
  · refine x_iload_n C dX11_both_0 rfl rfl ?_
    refine x_tableIn (tgt := 148) C dX11_both_1 (by decide) (by decide) (off := 147) (by decide) (by decide) ?_
    refine x_iload_n C dX11_both_148 rfl rfl ?_
    refine x_iload_n C dX11_both_149 rfl rfl ?_
    refine x_mmin C dX11_both_150 mX11_84 (by decide) ⟨Nat.zero_le _, Nat.zero_le _⟩ (Nat.le_of_ble_eq_true rfl) ?_
    refine x_iret C E dX11_both_153 ?_
    refine ⟨?_, rfl⟩
    first | rfl | (simp [h_join, h_b, Int32.not_lt.mpr c162]; done) | (simp [h_join, h_b, Int32.not_le.mp c162]; done) | (simp [h_join, h_b, Int32.not_le.mpr c162]; done) | (simp [h_join, h_b, Int32.not_lt.mp c162]; done) | (simp [h_join, h_b, Int32.not_lt.mpr c173]; done) | (simp [h_join, h_b, Int32.not_le.mp c173]; done) | (simp [h_join, h_b, Int32.not_le.mpr c173]; done) | (simp [h_join, h_b, Int32.not_lt.mp c173]; done) | (simp [h_join, h_b, Int32.not_lt.mpr c195]; done) | (simp [h_join, h_b, Int32.not_le.mp c195]; done) | (simp [h_join, h_b, Int32.not_le.mpr c195]; done) | (simp [h_join, h_b, Int32.not_lt.mp c195]; done) | (simp [h_join, h_b, Int32.not_lt.mpr c206]; done) | (simp [h_join, h_b, Int32.not_le.mp c206]; done) | (simp [h_join, h_b, Int32.not_le.mpr c206]; done) | (simp [h_join, h_b, Int32.not_lt.mp c206]; done) | (simp [h_join, h_b, c184]; done) | (simp [h_join, c137]; done) | fail
  · refine x_iload_n C dX11_both_0 rfl rfl ?_
    refine x_tableIn (tgt := 154) C dX11_both_1 (by decide) (by decide) (off := 153) (by decide) (by decide) ?_
    refine x_iload_n C dX11_both_154 rfl rfl ?_
    refine x_iload_n C dX11_both_155 rfl rfl ?_
    refine x_mmax C dX11_both_156 mX11_90 (by decide) ⟨Nat.zero_le _, Nat.zero_le _⟩ (Nat.le_of_ble_eq_true rfl) ?_
    refine x_iret C E dX11_both_159 ?_
    refine ⟨?_, rfl⟩
    first | rfl | (simp [h_join, h_b, Int32.not_lt.mpr c162]; done) | (simp [h_join, h_b, Int32.not_le.mp c162]; done) | (simp [h_join, h_b, Int32.not_le.mpr c162]; done) | (simp [h_join, h_b, Int32.not_lt.mp c162]; done) | (simp [h_join, h_b, Int32.not_lt.mpr c173]; done) | (simp [h_join, h_b, Int32.not_le.mp c173]; done) | (simp [h_join, h_b, Int32.not_le.mpr c173]; done) | (simp [h_join, h_b, Int32.not_lt.mp c173]; done) | (simp [h_join, h_b, Int32.not_lt.mpr c195]; done) | (simp [h_join, h_b, Int32.not_le.mp c195]; done) | (simp [h_join, h_b, Int32.not_le.mpr c195]; done) | (simp [h_join, h_b, Int32.not_lt.mp c195]; done) | (simp [h_join, h_b, Int32.not_lt.mpr c206]; done) | (simp [h_join, h_b, Int32.not_le.mp c206]; done) | (simp [h_join, h_b, Int32.not_le.mpr c206]; done) | (simp [h_join, h_b, Int32.not_lt.mp c206]; done) | (simp [h_join, h_b, c184]; done) | (simp [h_join, c137]; done) | fail
set_option maxHeartbeats 4000000 in
set_option maxRecDepth 100000 in
theorem c_told11 {l : Launch} {Y0 : x_Y} (hO : x_Ok Y0) {M : x_M} {m o q : Nat} {P : PL} {A : HS} {hx : Nat → Int32} {z : Int32} {G : HS} {fs : List Value} (hP : p_ok P) (hQ : g_is G P) (hk9 : h_ok P A) (hb : x_bk M m (stT m o P A hx z)) (hp : x_bk M q (pmT q G)) (ho : x_bk M o [.inr (11, fs)]) (ho11 : fs[11]? = some (.ref q)) {x : Int32} : x_C l Y0 yX10_told cX10_told 3 (some .int) 3 0 0 [.ref m, .int (nI 11), .int (x)] M (fun u M1 => u = some (.int (h_val P A 267 (x))) ∧ M1 = M) := by
  refine x_start hO (by decide +kernel) (Nat.le_of_ble_eq_true rfl) (fun K C E => ?_)
  have hP0 := hP
  have hQ0 := hQ
  obtain ⟨h8, h6, h16, hnp, hwho, hvb, hts⟩ := hP
  obtain ⟨hq0, hq1, hq2, hq3, hq4, hq5, hq6⟩ := hQ
  refine x_iload_n C dX10_told_0 rfl rfl ?_
  refine x_tableIn (tgt := 72) C dX10_told_1 (by decide) (by decide) (off := 71) (by decide) (by decide) ?_
  refine x_aload_n C dX10_told_72 rfl rfl ?_
  refine x_getfield C dX10_told_73 fX10_41 (hb 0 _ rfl) rfl ?_
  refine x_iret C E dX10_told_76 ?_
  refine ⟨?_, rfl⟩
  first | rfl | (show some (Value.int _) = some (Value.int _); unfold h_val; rw [nI_clamp (by omega)]; rfl) | fail
set_option maxHeartbeats 4000000 in
set_option maxRecDepth 100000 in
theorem c_told12 {l : Launch} {Y0 : x_Y} (hO : x_Ok Y0) {M : x_M} {m o q : Nat} {P : PL} {A : HS} {hx : Nat → Int32} {z : Int32} {G : HS} {fs : List Value} (hP : p_ok P) (hQ : g_is G P) (hk9 : h_ok P A) (hb : x_bk M m (stT m o P A hx z)) (hp : x_bk M q (pmT q G)) (ho : x_bk M o [.inr (11, fs)]) (ho11 : fs[11]? = some (.ref q)) {x : Int32} : x_C l Y0 yX10_told cX10_told 3 (some .int) 3 0 0 [.ref m, .int (nI 12), .int (x)] M (fun u M1 => u = some (.int (h_val P A 268 (x))) ∧ M1 = M) := by
  refine x_start hO (by decide +kernel) (Nat.le_of_ble_eq_true rfl) (fun K C E => ?_)
  have hP0 := hP
  have hQ0 := hQ
  obtain ⟨h8, h6, h16, hnp, hwho, hvb, hts⟩ := hP
  obtain ⟨hq0, hq1, hq2, hq3, hq4, hq5, hq6⟩ := hQ
  refine x_iload_n C dX10_told_0 rfl rfl ?_
  refine x_tableIn (tgt := 77) C dX10_told_1 (by decide) (by decide) (off := 76) (by decide) (by decide) ?_
  refine x_aload_n C dX10_told_77 rfl rfl ?_
  refine x_getfield C dX10_told_78 fX10_45 (hb 0 _ rfl) rfl ?_
  refine x_iret C E dX10_told_81 ?_
  refine ⟨?_, rfl⟩
  first | rfl | (show some (Value.int _) = some (Value.int _); unfold h_val; rw [nI_clamp (by omega)]; rfl) | fail
set_option maxHeartbeats 4000000 in
set_option maxRecDepth 100000 in
theorem c_told13 {l : Launch} {Y0 : x_Y} (hO : x_Ok Y0) {M : x_M} {m o q : Nat} {P : PL} {A : HS} {hx : Nat → Int32} {z : Int32} {G : HS} {fs : List Value} (hP : p_ok P) (hQ : g_is G P) (hk9 : h_ok P A) (hb : x_bk M m (stT m o P A hx z)) (hp : x_bk M q (pmT q G)) (ho : x_bk M o [.inr (11, fs)]) (ho11 : fs[11]? = some (.ref q)) {x : Int32} : x_C l Y0 yX10_told cX10_told 3 (some .int) 3 0 0 [.ref m, .int (nI 13), .int (x)] M (fun u M1 => u = some (.int (h_val P A 269 (x))) ∧ M1 = M) := by
  refine x_start hO (by decide +kernel) (Nat.le_of_ble_eq_true rfl) (fun K C E => ?_)
  have hP0 := hP
  have hQ0 := hQ
  obtain ⟨h8, h6, h16, hnp, hwho, hvb, hts⟩ := hP
  obtain ⟨hq0, hq1, hq2, hq3, hq4, hq5, hq6⟩ := hQ
  refine x_iload_n C dX10_told_0 rfl rfl ?_
  refine x_tableIn (tgt := 82) C dX10_told_1 (by decide) (by decide) (off := 81) (by decide) (by decide) ?_
  refine x_aload_n C dX10_told_82 rfl rfl ?_
  refine x_callV0 C dX10_told_83 kX10_114 (c_X10_manyBlocked hO hP0 hQ0 hk9 hb hp ho ho11) (hb 0 _ rfl) rfl (by decide) ⟨Nat.zero_le _, Nat.zero_le _⟩ (Nat.le_of_ble_eq_true rfl) ?_
  rintro _ _ ⟨rfl, rfl⟩
  refine x_iret C E dX10_told_86 ?_
  refine ⟨?_, rfl⟩
  first | rfl | (show some (Value.int _) = some (Value.int _); unfold h_val; rw [nI_clamp (by omega)]; rfl) | fail
set_option maxHeartbeats 4000000 in
set_option maxRecDepth 100000 in
theorem c_told1 {l : Launch} {Y0 : x_Y} (hO : x_Ok Y0) {M : x_M} {m o q : Nat} {P : PL} {A : HS} {hx : Nat → Int32} {z : Int32} {G : HS} {fs : List Value} (hP : p_ok P) (hQ : g_is G P) (hk9 : h_ok P A) (hb : x_bk M m (stT m o P A hx z)) (hp : x_bk M q (pmT q G)) (ho : x_bk M o [.inr (11, fs)]) (ho11 : fs[11]? = some (.ref q)) {d : Nat} (hd9 : d < p_nd P) : x_C l Y0 yX10_told cX10_told 3 (some .int) 3 0 0 [.ref m, .int (nI 1), .int (nI d)] M (fun u M1 => u = some (.int (h_val P A 257 (nI d))) ∧ M1 = M) := by
  refine x_start hO (by decide +kernel) (Nat.le_of_ble_eq_true rfl) (fun K C E => ?_)
  have hP0 := hP
  have hQ0 := hQ
  obtain ⟨h8, h6, h16, hnp, hwho, hvb, hts⟩ := hP
  obtain ⟨hq0, hq1, hq2, hq3, hq4, hq5, hq6⟩ := hQ
  refine x_iload_n C dX10_told_0 rfl rfl ?_
  refine x_tableIn (tgt := 93) C dX10_told_1 (by decide) (by decide) (off := 92) (by decide) (by decide) ?_
  refine x_aload_n C dX10_told_93 rfl rfl ?_
  refine x_getfield C dX10_told_94 fX10_15 (hb 0 _ rfl) rfl ?_
  refine x_iload_n C dX10_told_97 rfl rfl ?_
  refine x_iaload C dX10_told_98 (hb 1 _ rfl) (vp_in_nI (show d < 8 by omega) (by decide)) ?_
  rw [nI_clamp (show d < 2 ^ 31 by omega)]
  rw [s_fill_in hd9]
  refine x_iret C E dX10_told_99 ?_
  refine ⟨?_, rfl⟩
  first | rfl | (show some (Value.int _) = some (Value.int _); unfold h_val; rw [nI_clamp (by omega)]; rfl) | fail
set_option maxHeartbeats 4000000 in
set_option maxRecDepth 100000 in
theorem c_told14 {l : Launch} {Y0 : x_Y} (hO : x_Ok Y0) {M : x_M} {m o q : Nat} {P : PL} {A : HS} {hx : Nat → Int32} {z : Int32} {G : HS} {fs : List Value} (hP : p_ok P) (hQ : g_is G P) (hk9 : h_ok P A) (hb : x_bk M m (stT m o P A hx z)) (hp : x_bk M q (pmT q G)) (ho : x_bk M o [.inr (11, fs)]) (ho11 : fs[11]? = some (.ref q)) {d : Nat} (hd9 : d < p_nk P) : x_C l Y0 yX10_told cX10_told 3 (some .int) 3 0 0 [.ref m, .int (nI 14), .int (nI d)] M (fun u M1 => u = some (.int (h_val P A 270 (nI d))) ∧ M1 = M) := by
  refine x_start hO (by decide +kernel) (Nat.le_of_ble_eq_true rfl) (fun K C E => ?_)
  have hP0 := hP
  have hQ0 := hQ
  obtain ⟨h8, h6, h16, hnp, hwho, hvb, hts⟩ := hP
  obtain ⟨hq0, hq1, hq2, hq3, hq4, hq5, hq6⟩ := hQ
  refine x_iload_n C dX10_told_0 rfl rfl ?_
  refine x_tableIn (tgt := 87) C dX10_told_1 (by decide) (by decide) (off := 86) (by decide) (by decide) ?_
  refine x_aload_n C dX10_told_87 rfl rfl ?_
  refine x_iload_n C dX10_told_88 rfl rfl ?_
  refine x_callV1 C dX10_told_89 kX10_118 (c_X10_waits hO hP0 hQ0 hk9 hb hp ho ho11 hd9) (hb 0 _ rfl) rfl (by decide) ⟨Nat.zero_le _, Nat.zero_le _⟩ (Nat.le_of_ble_eq_true rfl) ?_
  rintro _ _ ⟨rfl, rfl⟩
  refine x_iret C E dX10_told_92 ?_
  refine ⟨?_, rfl⟩
  first | rfl | (show some (Value.int _) = some (Value.int _); unfold h_val; rw [nI_clamp (by omega)]; rfl) | fail
set_option maxHeartbeats 4000000 in
set_option maxRecDepth 100000 in
theorem c_told16 {l : Launch} {Y0 : x_Y} (hO : x_Ok Y0) {M : x_M} {m o q : Nat} {P : PL} {A : HS} {hx : Nat → Int32} {z : Int32} {G : HS} {fs : List Value} (hP : p_ok P) (hQ : g_is G P) (hk9 : h_ok P A) (hb : x_bk M m (stT m o P A hx z)) (hp : x_bk M q (pmT q G)) (ho : x_bk M o [.inr (11, fs)]) (ho11 : fs[11]? = some (.ref q)) {d : Nat} (hd9 : d < p_nd P ∨ d = 8) : x_C l Y0 yX10_told cX10_told 3 (some .int) 3 0 0 [.ref m, .int (nI 16), .int (nI d)] M (fun u M1 => u = some (.int (h_val P A 272 (nI d))) ∧ M1 = M) := by
  refine x_start hO (by decide +kernel) (Nat.le_of_ble_eq_true rfl) (fun K C E => ?_)
  have hP0 := hP
  have hQ0 := hQ
  obtain ⟨h8, h6, h16, hnp, hwho, hvb, hts⟩ := hP
  obtain ⟨hq0, hq1, hq2, hq3, hq4, hq5, hq6⟩ := hQ
  refine x_iload_n C dX10_told_0 rfl rfl ?_
  refine x_tableOut (tgt := 100) C dX10_told_1 (by decide) (by decide) ?_
  refine x_aload_n C dX10_told_100 rfl rfl ?_
  refine x_getfield C dX10_told_101 fX10_25 (hb 0 _ rfl) rfl ?_
  refine x_iload_n C dX10_told_104 rfl rfl ?_
  refine x_baload C dX10_told_105 (hb 4 _ rfl) (vp_in_nI (show d < 9 by omega) (by decide)) ?_
  rw [nI_clamp (show d < 2 ^ 31 by omega)]
  refine x_if_eq (tgt := 113) C dX10_told_106 (by decide) (fun c106 => ?_) (fun c106 => ?_)
  · refine x_iconst (v := 1) C dX10_told_113 (by decide) ?_
    refine x_iret C E dX10_told_114 ?_
    refine ⟨?_, rfl⟩
    have e : h_val P A 272 (nI d) = if A 1 d = 0 then 1 else 0 := by
      unfold h_val
      rw [nI_clamp (by omega)]
      rfl
    rw [e]
    first | rw [if_pos c106] | rw [if_neg c106] | fail
  · refine x_iconst (v := 0) C dX10_told_109 (by decide) ?_
    refine x_goto (tgt := 114) C dX10_told_110 (by decide) ?_
    refine x_iret C E dX10_told_114 ?_
    refine ⟨?_, rfl⟩
    have e : h_val P A 272 (nI d) = if A 1 d = 0 then 1 else 0 := by
      unfold h_val
      rw [nI_clamp (by omega)]
      rfl
    rw [e]
    first | rw [if_pos c106] | rw [if_neg c106] | fail
theorem g_code_c {G : HS} {p : Nat} {a : Int32} {c : List Int32} (h : g_code G p (a :: c)) : G 8 p = a ∧ g_code G (p + 1) c := by
  refine ⟨h 0 a rfl, fun i x hx => ?_⟩
  have := h (i + 1) x hx
  rwa [show p + (i + 1) = p + 1 + i by omega] at this
/-- where the type says so, the value is 0 or 1 -/
def h_tyv : List Int32 → List Bool → Prop
  | v :: r, c :: s => (c = true → v = 0 ∨ v = 1) ∧ h_tyv r s
  | _, _ => True
theorem h_b_01 (c : Bool) : h_b c = 0 ∨ h_b c = 1 := by cases c <;> simp [h_b]
theorem h_tyv_op {P : PL} {A : HS} {k : Nat} {x : Int32} {st : List Int32} {ty ty' : List Bool} (ho : p_op k ty = some ty') (hl : st.length = ty.length) (h : h_tyv st ty) : h_tyv (h_op P A k x st) ty' := by
  unfold p_op at ho
  by_cases h1 : k = 273
  · rw [if_pos h1] at ho
    split at ho
    · cases ho
      obtain ⟨v, s, rfl, -⟩ := st_cons hl
      rw [h_op_not h1]
      refine ⟨fun _ => ?_, h.2⟩
      split <;> simp
    · cases ho
  · rw [if_neg h1] at ho
    by_cases h2 : k = 4
    · rw [if_pos h2] at ho
      split at ho
      · cases ho
        obtain ⟨v, s, rfl, -⟩ := st_cons hl
        rw [h_op_neg h2]
        exact ⟨(fun e => nomatch e), h.2⟩
      · cases ho
    · rw [if_neg h2] at ho
      by_cases h3 : k = 272
      · rw [if_pos h3] at ho
        cases ho
        rw [h_op_val h1 h2 (by rw [h3]; rfl)]
        refine ⟨fun _ => ?_, h⟩
        subst h3
        show (if A 1 x.toNatClampNeg = 0 then (1 : Int32) else 0) = 0 ∨ (if A 1 x.toNatClampNeg = 0 then (1 : Int32) else 0) = 1
        split <;> simp
      · rw [if_neg h3] at ho
        by_cases h4 : h_isval k = true
        · rw [if_pos h4] at ho
          cases ho
          rw [h_op_val h1 h2 h4]
          exact ⟨(fun e => nomatch e), h⟩
        · rw [if_neg h4] at ho
          have h4' : h_isval k = false := by simpa using h4
          by_cases h5 : k = 274 ∨ k = 275
          · rw [if_pos h5] at ho
            split at ho
            · cases ho
              obtain ⟨v, s1, rfl, hs1⟩ := st_cons hl
              obtain ⟨u, s, rfl, hs⟩ := st_cons hs1
              rw [h_op_bin h1 h2 h4']
              refine ⟨fun _ => ?_, h.2.2⟩
              have hv := h.1 rfl
              have hu := h.2.1 rfl
              rcases h5 with rfl | rfl <;> rcases hv with rfl | rfl <;> rcases hu with rfl | rfl <;> decide
            · cases ho
          · rw [if_neg h5] at ho
            by_cases h6 : k = 60 ∨ k = 61 ∨ k = 62 ∨ k = 188 ∨ k = 190
            · rw [if_pos h6] at ho
              split at ho
              · cases ho
                obtain ⟨v, s1, rfl, hs1⟩ := st_cons hl
                obtain ⟨u, s, rfl, hs⟩ := st_cons hs1
                rw [h_op_bin h1 h2 h4']
                refine ⟨fun _ => ?_, h.2.2⟩
                rcases h6 with rfl | rfl | rfl | rfl | rfl <;> exact h_b_01 _
              · cases ho
            · rw [if_neg h6] at ho
              split at ho
              · split at ho
                · cases ho
                  obtain ⟨v, s1, rfl, hs1⟩ := st_cons hl
                  obtain ⟨u, s, rfl, hs⟩ := st_cons hs1
                  rw [h_op_bin h1 h2 h4']
                  exact ⟨(fun e => nomatch e), h.2.2⟩
                · cases ho
              · cases ho
