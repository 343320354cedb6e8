set_option maxHeartbeats 4000000 in
set_option maxRecDepth 100000 in
theorem c_X6_readPair {l : Launch} {Y0 : x_Y} (hO : x_Ok Y0) {M : x_M} {b : Nat} {D : tK} {Q : HS} {S : tS} (hD : t_dk D) (hin : t_in S) (hb : x_bk M b (tcT b D Q S)) {k : Int32} {d : Nat} {dS : Nat} {fs : tS → tS} (hd9 : dS + 1 ≤ d) (hd8 : 5 ≤ d) (hfs : k < 8 → t_ki fs) (hS : k < 8 → tCt l Y0 yX6_readSum cX6_readSum 4 dS b D Q (k + 1) fs) {w : Int32} : x_C l Y0 yX6_readPair cX6_readPair 3 none d 0 0 [.ref (b + 42), .int w, .int k] M (fun u M1 => u = none ∧ M1 = tX M b D Q (t_pair D k fs S w)) := by
  refine x_start hO (by decide +kernel) (Nat.le_of_ble_eq_true rfl) (fun K C E => ?_)
  refine x_to (tX_self hb).symm ?_
  refine x_aload_n C dX6_readPair_0 rfl rfl ?_
  refine x_bipush (v := 40) C dX6_readPair_1 (by decide) ?_
  refine x_iload_n C dX6_readPair_3 rfl rfl ?_
  refine x_callV2 C dX6_readPair_4 kX6_181 (c_X6_goDeeper hO tX_bk) tX_g42 rfl (by omega) ⟨Nat.zero_le _, Nat.zero_le _⟩ (Nat.le_of_ble_eq_true rfl) ?_
  rintro _ _ ⟨rfl, rfl⟩
  refine x_to tX_tX ?_
  refine x_if_eq (tgt := 45) C dX6_readPair_7 (by decide) (fun c7 => ?_) (fun c7 => ?_)
  · have c7 := b_n c7
    refine x_vret C E dX6_readPair_45 ?_
    refine ⟨?_, ?_⟩
    · first | done | rfl | (simp only [t_pair, if_neg c7])
    · simp only [t_pair, if_neg c7]
  · have c7 := b_y c7
    have h8 := t_deep_lt hin c7
    have hf8 := hfs h8
    refine x_aload_n C dX6_readPair_10 rfl rfl ?_
    refine x_iload_n C dX6_readPair_11 rfl rfl ?_
    refine x_iconst (v := 1) C dX6_readPair_12 (by decide) ?_
    refine x_iadd C dX6_readPair_13 ?_
    refine x_callV1 C dX6_readPair_14 kX6_185 (hS h8 _ _ (by repeat first | exact hin | refine t_in_adv hD ?_ | refine t_in_brk ?_ | refine t_in_acc hD ?_ | refine t_in_exp hD ?_ | refine t_in_deep hD ?_ | refine t_in_code ?_ | refine t_in_sign hD ?_ | refine hf8 _ ?_) tX_bk) tX_g42 rfl (by omega) ⟨Nat.zero_le _, Nat.zero_le _⟩ (Nat.le_of_ble_eq_true rfl) ?_
    rintro _ _ ⟨rfl, rfl⟩
    refine x_to tX_tX ?_
    refine x_aload_n C dX6_readPair_17 rfl rfl ?_
    refine x_bipush (v := 44) C dX6_readPair_18 (by decide) ?_
    refine x_callV1 C dX6_readPair_20 kX6_73 (c_X6_expect hO tX_bk) tX_g42 rfl (by omega) ⟨Nat.zero_le _, Nat.zero_le _⟩ (Nat.le_of_ble_eq_true rfl) ?_
    rintro _ _ ⟨rfl, rfl⟩
    refine x_to tX_tX ?_
    refine x_aload_n C dX6_readPair_23 rfl rfl ?_
    refine x_iload_n C dX6_readPair_24 rfl rfl ?_
    refine x_iconst (v := 1) C dX6_readPair_25 (by decide) ?_
    refine x_iadd C dX6_readPair_26 ?_
    refine x_callV1 C dX6_readPair_27 kX6_185 (hS h8 _ _ (by repeat first | exact hin | refine t_in_adv hD ?_ | refine t_in_brk ?_ | refine t_in_acc hD ?_ | refine t_in_exp hD ?_ | refine t_in_deep hD ?_ | refine t_in_code ?_ | refine t_in_sign hD ?_ | refine hf8 _ ?_) tX_bk) tX_g42 rfl (by omega) ⟨Nat.zero_le _, Nat.zero_le _⟩ (Nat.le_of_ble_eq_true rfl) ?_
    rintro _ _ ⟨rfl, rfl⟩
    refine x_to tX_tX ?_
    refine x_aload_n C dX6_readPair_30 rfl rfl ?_
    refine x_bipush (v := 41) C dX6_readPair_31 (by decide) ?_
    refine x_callV1 C dX6_readPair_33 kX6_73 (c_X6_expect hO tX_bk) tX_g42 rfl (by omega) ⟨Nat.zero_le _, Nat.zero_le _⟩ (Nat.le_of_ble_eq_true rfl) ?_
    rintro _ _ ⟨rfl, rfl⟩
    refine x_to tX_tX ?_
    refine x_aload_n C dX6_readPair_36 rfl rfl ?_
    refine x_getfield C dX6_readPair_37 fX6_32 tX_g42 rfl ?_
    refine x_iload_n C dX6_readPair_40 rfl rfl ?_
    refine x_iconst (v := 0) C dX6_readPair_41 (by decide) ?_
    refine x_callV2 C dX6_readPair_42 kX6_175 (c_X2_addCode hO tX_pl) tX_g0 rfl (by omega) ⟨Nat.zero_le _, Nat.zero_le _⟩ (Nat.le_of_ble_eq_true rfl) ?_
    rintro _ _ ⟨rfl, rfl⟩
    refine x_to tX_code ?_
    refine x_vret C E dX6_readPair_45 ?_
    refine ⟨?_, ?_⟩
    · first | done | rfl | (simp only [t_pair, if_pos c7])
    · simp only [t_pair, if_pos c7]
set_option maxHeartbeats 4000000 in
set_option maxRecDepth 100000 in
theorem c_X6_readValue {l : Launch} {Y0 : x_Y} (hO : x_Ok Y0) {M : x_M} {b : Nat} {D : tK} {Q : HS} {S : tS} (hD : t_dk D) (hin : t_in S) (hb : x_bk M b (tcT b D Q S)) {k : Int32} {d : Nat} {dV dS dP : Nat} {fv fs : tS → tS} (hd1 : dV + 1 ≤ d) (hd2 : dS + 1 ≤ d) (hd3 : dP + 1 ≤ d) (hd4 : 6 ≤ d) (hdP9 : dS + 1 ≤ dP) (hdP8 : 5 ≤ dP) (hfv : k < 8 → t_ki fv) (hfs : k < 8 → t_ki fs) (hV : k < 8 → tCt l Y0 yX6_readValue cX6_readValue 3 dV b D Q (k + 1) fv) (hS : k < 8 → tCt l Y0 yX6_readSum cX6_readSum 4 dS b D Q (k + 1) fs) : x_C l Y0 yX6_readValue cX6_readValue 3 none d 0 0 [.ref (b + 42), .int k] M (fun u M1 => u = none ∧ M1 = tX M b D Q (t_val D k fv fs S)) := by
  refine x_start hO (by decide +kernel) (Nat.le_of_ble_eq_true rfl) (fun K C E => ?_)
  refine x_to (tX_self hb).symm ?_
  refine x_aload_n C dX6_readValue_0 rfl rfl ?_
  refine x_getfield C dX6_readValue_1 fX6_28 tX_g42 rfl ?_
  refine x_getfield C dX6_readValue_4 fX6_57 tX_g47 rfl ?_
  refine x_istore_n C dX6_readValue_7 rfl rfl (by decide) ?_
  refine x_iload_n C dX6_readValue_8 rfl rfl ?_
  refine x_iconst (v := 3) C dX6_readValue_9 (by decide) ?_
  refine x_icmp_ne (tgt := 39) C dX6_readValue_10 (by decide) (fun c10 => ?_) (fun c10 => ?_)
  · refine x_iload_n C dX6_readValue_39 rfl rfl ?_
    refine x_sipush (v := 267) C dX6_readValue_40 (by decide) ?_
    refine x_icmp_eq (tgt := 60) C dX6_readValue_43 (by decide) (fun c43 => ?_) (fun c43 => ?_)
    · refine x_aload_n C dX6_readValue_60 rfl rfl ?_
      refine x_getfield C dX6_readValue_61 fX6_32 tX_g42 rfl ?_
      refine x_iload_n C dX6_readValue_64 rfl rfl ?_
      refine x_iconst (v := 0) C dX6_readValue_65 (by decide) ?_
      refine x_callV2 C dX6_readValue_66 kX6_175 (c_X2_addCode hO tX_pl) tX_g0 rfl (by omega) ⟨Nat.zero_le _, Nat.zero_le _⟩ (Nat.le_of_ble_eq_true rfl) ?_
      rintro _ _ ⟨rfl, rfl⟩
      refine x_to tX_code ?_
      refine x_aload_n C dX6_readValue_69 rfl rfl ?_
      refine x_getfield C dX6_readValue_70 fX6_28 tX_g42 rfl ?_
      refine x_callV0 C dX6_readValue_73 kX6_79 (c_X7_advance hO tX_bk) tX_g47 rfl (by omega) ⟨Nat.zero_le _, Nat.zero_le _⟩ (Nat.le_of_ble_eq_true rfl) ?_
      rintro _ _ ⟨rfl, rfl⟩
      refine x_to tX_tX ?_
      refine x_goto (tgt := 228) C dX6_readValue_76 (by decide) ?_
      refine x_vret C E dX6_readValue_228 ?_
      refine ⟨?_, ?_⟩
      · first | done | rfl | (simp only [t_val, t_vn, if_neg c10, if_pos c43])
      · simp only [t_val, t_vn, if_neg c10, if_pos c43]
    · refine x_iload_n C dX6_readValue_46 rfl rfl ?_
      refine x_sipush (v := 268) C dX6_readValue_47 (by decide) ?_
      refine x_icmp_eq (tgt := 60) C dX6_readValue_50 (by decide) (fun c50 => ?_) (fun c50 => ?_)
      · refine x_aload_n C dX6_readValue_60 rfl rfl ?_
        refine x_getfield C dX6_readValue_61 fX6_32 tX_g42 rfl ?_
        refine x_iload_n C dX6_readValue_64 rfl rfl ?_
        refine x_iconst (v := 0) C dX6_readValue_65 (by decide) ?_
        refine x_callV2 C dX6_readValue_66 kX6_175 (c_X2_addCode hO tX_pl) tX_g0 rfl (by omega) ⟨Nat.zero_le _, Nat.zero_le _⟩ (Nat.le_of_ble_eq_true rfl) ?_
        rintro _ _ ⟨rfl, rfl⟩
        refine x_to tX_code ?_
        refine x_aload_n C dX6_readValue_69 rfl rfl ?_
        refine x_getfield C dX6_readValue_70 fX6_28 tX_g42 rfl ?_
        refine x_callV0 C dX6_readValue_73 kX6_79 (c_X7_advance hO tX_bk) tX_g47 rfl (by omega) ⟨Nat.zero_le _, Nat.zero_le _⟩ (Nat.le_of_ble_eq_true rfl) ?_
        rintro _ _ ⟨rfl, rfl⟩
        refine x_to tX_tX ?_
        refine x_goto (tgt := 228) C dX6_readValue_76 (by decide) ?_
        refine x_vret C E dX6_readValue_228 ?_
        refine ⟨?_, ?_⟩
        · first | done | rfl | (simp only [t_val, t_vn, if_neg c10, if_neg c43, if_pos c50])
        · simp only [t_val, t_vn, if_neg c10, if_neg c43, if_pos c50]
      · refine x_iload_n C dX6_readValue_53 rfl rfl ?_
        refine x_sipush (v := 269) C dX6_readValue_54 (by decide) ?_
        refine x_icmp_ne (tgt := 79) C dX6_readValue_57 (by decide) (fun c57 => ?_) (fun c57 => ?_)
        · refine x_iload_n C dX6_readValue_79 rfl rfl ?_
          refine x_sipush (v := 257) C dX6_readValue_80 (by decide) ?_
          refine x_icmp_eq (tgt := 93) C dX6_readValue_83 (by decide) (fun c83 => ?_) (fun c83 => ?_)
          · refine x_aload_n C dX6_readValue_93 rfl rfl ?_
            refine x_getfield C dX6_readValue_94 fX6_28 tX_g42 rfl ?_
            refine x_callV0 C dX6_readValue_97 kX6_79 (c_X7_advance hO tX_bk) tX_g47 rfl (by omega) ⟨Nat.zero_le _, Nat.zero_le _⟩ (Nat.le_of_ble_eq_true rfl) ?_
            rintro _ _ ⟨rfl, rfl⟩
            refine x_to tX_tX ?_
            refine x_aload_n C dX6_readValue_100 rfl rfl ?_
            refine x_sipush (v := 271) C dX6_readValue_101 (by decide) ?_
            refine x_callV1 C dX6_readValue_104 kX6_73 (c_X6_expect hO tX_bk) tX_g42 rfl (by omega) ⟨Nat.zero_le _, Nat.zero_le _⟩ (Nat.le_of_ble_eq_true rfl) ?_
            rintro _ _ ⟨rfl, rfl⟩
            refine x_to tX_tX ?_
            refine x_aload_n C dX6_readValue_107 rfl rfl ?_
            refine x_getfield C dX6_readValue_108 fX6_32 tX_g42 rfl ?_
            refine x_iload_n C dX6_readValue_111 rfl rfl ?_
            refine x_aload_n C dX6_readValue_112 rfl rfl ?_
            refine x_iload_n C dX6_readValue_113 rfl rfl ?_
            refine x_sipush (v := 257) C dX6_readValue_114 (by decide) ?_
            refine x_icmp_ne (tgt := 127) C dX6_readValue_117 (by decide) (fun c117 => ?_) (fun c117 => ?_)
            · exact absurd c83 c117
            · refine x_aload_n C dX6_readValue_120 rfl rfl ?_
              refine x_getfield C dX6_readValue_121 fX6_14 tX_g42 rfl ?_
              refine x_goto (tgt := 131) C dX6_readValue_124 (by decide) ?_
              refine x_callV1 C dX6_readValue_131 kX6_152 (c_X6_readKnownName0 hO tX_bk) tX_g42 rfl (by omega) ⟨Nat.zero_le _, Nat.zero_le _⟩ (Nat.le_of_ble_eq_true rfl) ?_
              rintro _ _ ⟨rfl, rfl⟩
              refine x_to tX_tX ?_
              refine x_callV2 C dX6_readValue_134 kX6_175 (c_X2_addCode hO tX_pl) tX_g0 rfl (by omega) ⟨Nat.zero_le _, Nat.zero_le _⟩ (Nat.le_of_ble_eq_true rfl) ?_
              rintro _ _ ⟨rfl, rfl⟩
              refine x_to tX_code ?_
              refine x_goto (tgt := 228) C dX6_readValue_137 (by decide) ?_
              refine x_vret C E dX6_readValue_228 ?_
              refine ⟨?_, ?_⟩
              · first | done | rfl | (simp only [t_val, t_vn, if_neg c10, if_neg c43, if_neg c50, if_neg c57, if_pos c83, if_pos c117])
              · simp only [t_val, t_vn, if_neg c10, if_neg c43, if_neg c50, if_neg c57, if_pos c83, if_pos c117]
          · refine x_iload_n C dX6_readValue_86 rfl rfl ?_
            refine x_sipush (v := 270) C dX6_readValue_87 (by decide) ?_
            refine x_icmp_ne (tgt := 140) C dX6_readValue_90 (by decide) (fun c90 => ?_) (fun c90 => ?_)
            · refine x_iload_n C dX6_readValue_140 rfl rfl ?_
              refine x_bipush (v := 45) C dX6_readValue_141 (by decide) ?_
              refine x_icmp_ne (tgt := 175) C dX6_readValue_143 (by decide) (fun c143 => ?_) (fun c143 => ?_)
              · refine x_iload_n C dX6_readValue_175 rfl rfl ?_
                refine x_sipush (v := 276) C dX6_readValue_176 (by decide) ?_
                refine x_icmp_eq (tgt := 189) C dX6_readValue_179 (by decide) (fun c179 => ?_) (fun c179 => ?_)
                · refine x_aload_n C dX6_readValue_189 rfl rfl ?_
                  refine x_getfield C dX6_readValue_190 fX6_28 tX_g42 rfl ?_
                  refine x_callV0 C dX6_readValue_193 kX6_79 (c_X7_advance hO tX_bk) tX_g47 rfl (by omega) ⟨Nat.zero_le _, Nat.zero_le _⟩ (Nat.le_of_ble_eq_true rfl) ?_
                  rintro _ _ ⟨rfl, rfl⟩
                  refine x_to tX_tX ?_
                  refine x_aload_n C dX6_readValue_196 rfl rfl ?_
                  refine x_iload_n C dX6_readValue_197 rfl rfl ?_
                  refine x_iload_n C dX6_readValue_198 rfl rfl ?_
                  refine x_callV2 C dX6_readValue_199 kX6_197 (c_X6_readPair (d := dP) hO hD (by repeat first | exact hin | refine t_in_adv hD ?_ | refine t_in_brk ?_ | refine t_in_acc hD ?_ | refine t_in_exp hD ?_ | refine t_in_deep hD ?_ | refine t_in_code ?_ | refine t_in_sign hD ?_) tX_bk hdP9 hdP8 hfs hS) tX_g42 rfl (by omega) ⟨Nat.zero_le _, Nat.zero_le _⟩ (Nat.le_of_ble_eq_true rfl) ?_
                  rintro _ _ ⟨rfl, rfl⟩
                  refine x_to tX_tX ?_
                  refine x_goto (tgt := 228) C dX6_readValue_202 (by decide) ?_
                  refine x_vret C E dX6_readValue_228 ?_
                  refine ⟨?_, ?_⟩
                  · first | done | rfl | (simp only [t_val, t_vn, if_neg c10, if_neg c43, if_neg c50, if_neg c57, if_neg c83, if_neg c90, if_neg c143, if_pos c179])
                  · simp only [t_val, t_vn, if_neg c10, if_neg c43, if_neg c50, if_neg c57, if_neg c83, if_neg c90, if_neg c143, if_pos c179]
                · refine x_iload_n C dX6_readValue_182 rfl rfl ?_
                  refine x_sipush (v := 277) C dX6_readValue_183 (by decide) ?_
                  refine x_icmp_ne (tgt := 205) C dX6_readValue_186 (by decide) (fun c186 => ?_) (fun c186 => ?_)
                  · refine x_aload_n C dX6_readValue_205 rfl rfl ?_
                    refine x_bipush (v := 40) C dX6_readValue_206 (by decide) ?_
                    refine x_iload_n C dX6_readValue_208 rfl rfl ?_
                    refine x_callV2 C dX6_readValue_209 kX6_181 (c_X6_goDeeper hO tX_bk) tX_g42 rfl (by omega) ⟨Nat.zero_le _, Nat.zero_le _⟩ (Nat.le_of_ble_eq_true rfl) ?_
                    rintro _ _ ⟨rfl, rfl⟩
                    refine x_to tX_tX ?_
                    refine x_if_eq (tgt := 228) C dX6_readValue_212 (by decide) (fun c212 => ?_) (fun c212 => ?_)
                    · have c212 := b_n c212
                      refine x_vret C E dX6_readValue_228 ?_
                      refine ⟨?_, ?_⟩
                      · first | done | rfl | (simp only [t_val, t_vn, if_neg c10, if_neg c43, if_neg c50, if_neg c57, if_neg c83, if_neg c90, if_neg c143, if_neg c179, if_neg c186, if_neg c212])
                      · simp only [t_val, t_vn, if_neg c10, if_neg c43, if_neg c50, if_neg c57, if_neg c83, if_neg c90, if_neg c143, if_neg c179, if_neg c186, if_neg c212]
                    · have c212 := b_y c212
                      have h8 := t_deep_lt hin c212
                      have hf8 := hfs h8
                      refine x_aload_n C dX6_readValue_215 rfl rfl ?_
                      refine x_iload_n C dX6_readValue_216 rfl rfl ?_
                      refine x_iconst (v := 1) C dX6_readValue_217 (by decide) ?_
                      refine x_iadd C dX6_readValue_218 ?_
                      refine x_callV1 C dX6_readValue_219 kX6_185 (hS h8 _ _ (by repeat first | exact hin | refine t_in_adv hD ?_ | refine t_in_brk ?_ | refine t_in_acc hD ?_ | refine t_in_exp hD ?_ | refine t_in_deep hD ?_ | refine t_in_code ?_ | refine t_in_sign hD ?_) tX_bk) tX_g42 rfl (by omega) ⟨Nat.zero_le _, Nat.zero_le _⟩ (Nat.le_of_ble_eq_true rfl) ?_
                      rintro _ _ ⟨rfl, rfl⟩
                      refine x_to tX_tX ?_
                      refine x_aload_n C dX6_readValue_222 rfl rfl ?_
                      refine x_bipush (v := 41) C dX6_readValue_223 (by decide) ?_
                      refine x_callV1 C dX6_readValue_225 kX6_73 (c_X6_expect hO tX_bk) tX_g42 rfl (by omega) ⟨Nat.zero_le _, Nat.zero_le _⟩ (Nat.le_of_ble_eq_true rfl) ?_
                      rintro _ _ ⟨rfl, rfl⟩
                      refine x_to tX_tX ?_
                      refine x_vret C E dX6_readValue_228 ?_
                      refine ⟨?_, ?_⟩
                      · first | done | rfl | (simp only [t_val, t_vn, if_neg c10, if_neg c43, if_neg c50, if_neg c57, if_neg c83, if_neg c90, if_neg c143, if_neg c179, if_neg c186, if_pos c212])
                      · simp only [t_val, t_vn, if_neg c10, if_neg c43, if_neg c50, if_neg c57, if_neg c83, if_neg c90, if_neg c143, if_neg c179, if_neg c186, if_pos c212]
                  · refine x_aload_n C dX6_readValue_189 rfl rfl ?_
                    refine x_getfield C dX6_readValue_190 fX6_28 tX_g42 rfl ?_
                    refine x_callV0 C dX6_readValue_193 kX6_79 (c_X7_advance hO tX_bk) tX_g47 rfl (by omega) ⟨Nat.zero_le _, Nat.zero_le _⟩ (Nat.le_of_ble_eq_true rfl) ?_
                    rintro _ _ ⟨rfl, rfl⟩
                    refine x_to tX_tX ?_
                    refine x_aload_n C dX6_readValue_196 rfl rfl ?_
                    refine x_iload_n C dX6_readValue_197 rfl rfl ?_
                    refine x_iload_n C dX6_readValue_198 rfl rfl ?_
                    refine x_callV2 C dX6_readValue_199 kX6_197 (c_X6_readPair (d := dP) hO hD (by repeat first | exact hin | refine t_in_adv hD ?_ | refine t_in_brk ?_ | refine t_in_acc hD ?_ | refine t_in_exp hD ?_ | refine t_in_deep hD ?_ | refine t_in_code ?_ | refine t_in_sign hD ?_) tX_bk hdP9 hdP8 hfs hS) tX_g42 rfl (by omega) ⟨Nat.zero_le _, Nat.zero_le _⟩ (Nat.le_of_ble_eq_true rfl) ?_
                    rintro _ _ ⟨rfl, rfl⟩
                    refine x_to tX_tX ?_
                    refine x_goto (tgt := 228) C dX6_readValue_202 (by decide) ?_
                    refine x_vret C E dX6_readValue_228 ?_
                    refine ⟨?_, ?_⟩
                    · first | done | rfl | (simp only [t_val, t_vn, if_neg c10, if_neg c43, if_neg c50, if_neg c57, if_neg c83, if_neg c90, if_neg c143, if_neg c179, if_pos c186])
                    · simp only [t_val, t_vn, if_neg c10, if_neg c43, if_neg c50, if_neg c57, if_neg c83, if_neg c90, if_neg c143, if_neg c179, if_pos c186]
              · refine x_aload_n C dX6_readValue_146 rfl rfl ?_
                refine x_bipush (v := 45) C dX6_readValue_147 (by decide) ?_
                refine x_iload_n C dX6_readValue_149 rfl rfl ?_
                refine x_callV2 C dX6_readValue_150 kX6_181 (c_X6_goDeeper hO tX_bk) tX_g42 rfl (by omega) ⟨Nat.zero_le _, Nat.zero_le _⟩ (Nat.le_of_ble_eq_true rfl) ?_
                rintro _ _ ⟨rfl, rfl⟩
                refine x_to tX_tX ?_
                refine x_if_eq (tgt := 228) C dX6_readValue_153 (by decide) (fun c153 => ?_) (fun c153 => ?_)
                · have c153 := b_n c153
                  refine x_vret C E dX6_readValue_228 ?_
                  refine ⟨?_, ?_⟩
                  · first | done | rfl | (simp only [t_val, t_vn, if_neg c10, if_neg c43, if_neg c50, if_neg c57, if_neg c83, if_neg c90, if_pos c143, if_neg c153])
                  · simp only [t_val, t_vn, if_neg c10, if_neg c43, if_neg c50, if_neg c57, if_neg c83, if_neg c90, if_pos c143, if_neg c153]
                · have c153 := b_y c153
                  have h8 := t_deep_lt hin c153
                  have hf8 := hfv h8
                  refine x_aload_n C dX6_readValue_156 rfl rfl ?_
                  refine x_iload_n C dX6_readValue_157 rfl rfl ?_
                  refine x_iconst (v := 1) C dX6_readValue_158 (by decide) ?_
                  refine x_iadd C dX6_readValue_159 ?_
                  refine x_callV1 C dX6_readValue_160 kX6_194 (hV h8 _ _ (by repeat first | exact hin | refine t_in_adv hD ?_ | refine t_in_brk ?_ | refine t_in_acc hD ?_ | refine t_in_exp hD ?_ | refine t_in_deep hD ?_ | refine t_in_code ?_ | refine t_in_sign hD ?_) tX_bk) tX_g42 rfl (by omega) ⟨Nat.zero_le _, Nat.zero_le _⟩ (Nat.le_of_ble_eq_true rfl) ?_
                  rintro _ _ ⟨rfl, rfl⟩
                  refine x_to tX_tX ?_
                  refine x_aload_n C dX6_readValue_163 rfl rfl ?_
                  refine x_getfield C dX6_readValue_164 fX6_32 tX_g42 rfl ?_
                  refine x_iconst (v := 4) C dX6_readValue_167 (by decide) ?_
                  refine x_iconst (v := 0) C dX6_readValue_168 (by decide) ?_
                  refine x_callV2 C dX6_readValue_169 kX6_175 (c_X2_addCode hO tX_pl) tX_g0 rfl (by omega) ⟨Nat.zero_le _, Nat.zero_le _⟩ (Nat.le_of_ble_eq_true rfl) ?_
                  rintro _ _ ⟨rfl, rfl⟩
                  refine x_to tX_code ?_
                  refine x_goto (tgt := 228) C dX6_readValue_172 (by decide) ?_
                  refine x_vret C E dX6_readValue_228 ?_
                  refine ⟨?_, ?_⟩
                  · first | done | rfl | (simp only [t_val, t_vn, if_neg c10, if_neg c43, if_neg c50, if_neg c57, if_neg c83, if_neg c90, if_pos c143, if_pos c153])
                  · simp only [t_val, t_vn, if_neg c10, if_neg c43, if_neg c50, if_neg c57, if_neg c83, if_neg c90, if_pos c143, if_pos c153]
            · refine x_aload_n C dX6_readValue_93 rfl rfl ?_
              refine x_getfield C dX6_readValue_94 fX6_28 tX_g42 rfl ?_
              refine x_callV0 C dX6_readValue_97 kX6_79 (c_X7_advance hO tX_bk) tX_g47 rfl (by omega) ⟨Nat.zero_le _, Nat.zero_le _⟩ (Nat.le_of_ble_eq_true rfl) ?_
              rintro _ _ ⟨rfl, rfl⟩
              refine x_to tX_tX ?_
              refine x_aload_n C dX6_readValue_100 rfl rfl ?_
              refine x_sipush (v := 271) C dX6_readValue_101 (by decide) ?_
              refine x_callV1 C dX6_readValue_104 kX6_73 (c_X6_expect hO tX_bk) tX_g42 rfl (by omega) ⟨Nat.zero_le _, Nat.zero_le _⟩ (Nat.le_of_ble_eq_true rfl) ?_
              rintro _ _ ⟨rfl, rfl⟩
              refine x_to tX_tX ?_
              refine x_aload_n C dX6_readValue_107 rfl rfl ?_
              refine x_getfield C dX6_readValue_108 fX6_32 tX_g42 rfl ?_
              refine x_iload_n C dX6_readValue_111 rfl rfl ?_
              refine x_aload_n C dX6_readValue_112 rfl rfl ?_
              refine x_iload_n C dX6_readValue_113 rfl rfl ?_
              refine x_sipush (v := 257) C dX6_readValue_114 (by decide) ?_
              refine x_icmp_ne (tgt := 127) C dX6_readValue_117 (by decide) (fun c117 => ?_) (fun c117 => ?_)
              · refine x_aload_n C dX6_readValue_127 rfl rfl ?_
                refine x_getfield C dX6_readValue_128 fX6_20 tX_g42 rfl ?_
                refine x_callV1 C dX6_readValue_131 kX6_152 (c_X6_readKnownName1 hO tX_bk) tX_g42 rfl (by omega) ⟨Nat.zero_le _, Nat.zero_le _⟩ (Nat.le_of_ble_eq_true rfl) ?_
                rintro _ _ ⟨rfl, rfl⟩
                refine x_to tX_tX ?_
                refine x_callV2 C dX6_readValue_134 kX6_175 (c_X2_addCode hO tX_pl) tX_g0 rfl (by omega) ⟨Nat.zero_le _, Nat.zero_le _⟩ (Nat.le_of_ble_eq_true rfl) ?_
                rintro _ _ ⟨rfl, rfl⟩
                refine x_to tX_code ?_
                refine x_goto (tgt := 228) C dX6_readValue_137 (by decide) ?_
                refine x_vret C E dX6_readValue_228 ?_
                refine ⟨?_, ?_⟩
                · first | done | rfl | (simp only [t_val, t_vn, if_neg c10, if_neg c43, if_neg c50, if_neg c57, if_neg c83, if_pos c90, if_neg c117])
                · simp only [t_val, t_vn, if_neg c10, if_neg c43, if_neg c50, if_neg c57, if_neg c83, if_pos c90, if_neg c117]
              · exact absurd c117 c83
        · refine x_aload_n C dX6_readValue_60 rfl rfl ?_
          refine x_getfield C dX6_readValue_61 fX6_32 tX_g42 rfl ?_
          refine x_iload_n C dX6_readValue_64 rfl rfl ?_
          refine x_iconst (v := 0) C dX6_readValue_65 (by decide) ?_
          refine x_callV2 C dX6_readValue_66 kX6_175 (c_X2_addCode hO tX_pl) tX_g0 rfl (by omega) ⟨Nat.zero_le _, Nat.zero_le _⟩ (Nat.le_of_ble_eq_true rfl) ?_
          rintro _ _ ⟨rfl, rfl⟩
          refine x_to tX_code ?_
          refine x_aload_n C dX6_readValue_69 rfl rfl ?_
          refine x_getfield C dX6_readValue_70 fX6_28 tX_g42 rfl ?_
          refine x_callV0 C dX6_readValue_73 kX6_79 (c_X7_advance hO tX_bk) tX_g47 rfl (by omega) ⟨Nat.zero_le _, Nat.zero_le _⟩ (Nat.le_of_ble_eq_true rfl) ?_
          rintro _ _ ⟨rfl, rfl⟩
          refine x_to tX_tX ?_
          refine x_goto (tgt := 228) C dX6_readValue_76 (by decide) ?_
          refine x_vret C E dX6_readValue_228 ?_
          refine ⟨?_, ?_⟩
          · first | done | rfl | (simp only [t_val, t_vn, if_neg c10, if_neg c43, if_neg c50, if_pos c57])
          · simp only [t_val, t_vn, if_neg c10, if_neg c43, if_neg c50, if_pos c57]
  · refine x_aload_n C dX6_readValue_13 rfl rfl ?_
    refine x_getfield C dX6_readValue_14 fX6_32 tX_g42 rfl ?_
    refine x_iconst (v := 3) C dX6_readValue_17 (by decide) ?_
    refine x_aload_n C dX6_readValue_18 rfl rfl ?_
    refine x_getfield C dX6_readValue_19 fX6_28 tX_g42 rfl ?_
    refine x_getfield C dX6_readValue_22 fX6_89 tX_g47 rfl ?_
    refine x_l2i C dX6_readValue_25 ?_
    refine x_callV2 C dX6_readValue_26 kX6_175 (c_X2_addCode hO tX_pl) tX_g0 rfl (by omega) ⟨Nat.zero_le _, Nat.zero_le _⟩ (Nat.le_of_ble_eq_true rfl) ?_
    rintro _ _ ⟨rfl, rfl⟩
    refine x_to tX_code ?_
    refine x_aload_n C dX6_readValue_29 rfl rfl ?_
    refine x_getfield C dX6_readValue_30 fX6_28 tX_g42 rfl ?_
    refine x_callV0 C dX6_readValue_33 kX6_79 (c_X7_advance hO tX_bk) tX_g47 rfl (by omega) ⟨Nat.zero_le _, Nat.zero_le _⟩ (Nat.le_of_ble_eq_true rfl) ?_
    rintro _ _ ⟨rfl, rfl⟩
    refine x_to tX_tX ?_
    refine x_goto (tgt := 228) C dX6_readValue_36 (by decide) ?_
    refine x_vret C E dX6_readValue_228 ?_
    refine ⟨?_, ?_⟩
    · first | done | rfl | (simp only [t_val, t_vn, if_pos c10])
    · simp only [t_val, t_vn, if_pos c10]
set_option maxHeartbeats 4000000 in
set_option maxRecDepth 100000 in
theorem c_X6_readProduct {l : Launch} {Y0 : x_Y} (hO : x_Ok Y0) {M : x_M} {b : Nat} {D : tK} {Q : HS} {S : tS} (hD : t_dk D) (hin : t_in S) (hb : x_bk M b (tcT b D Q S)) {k : Int32} {d : Nat} {dV : Nat} {fv : tS → tS} (hd1 : dV + 1 ≤ d) (hd4 : 3 ≤ d) (hfv : t_ki fv) (hV : tCt l Y0 yX6_readValue cX6_readValue 3 dV b D Q k fv) : x_C l Y0 yX6_readProduct cX6_readProduct 4 none d 0 0 [.ref (b + 42), .int k] M (fun u M1 => u = none ∧ M1 = tX M b D Q (t_lpb D 42 47 fv 400 (fv S))) := by
  refine x_start hO (by decide +kernel) (Nat.le_of_ble_eq_true rfl) (fun K C E => ?_)
  refine x_to (tX_self hb).symm ?_
  have lp : ∀ (w i : Nat) (z : Int32) (S1 : tS), i + w = 400 → z = nI i → t_in S1 → t_lpb D 42 47 fv 400 (fv S) = t_lpb D 42 47 fv w S1 → x_X K 4 0 0 7 [(0, .ref (b + 42)), (1, .int k), (2, .int z)] [] (tX M b D Q S1) := by
    intro w
    induction w with
    | zero =>
      intro i z S1 hi hz hin1 hq
      subst hz
      have e : i = 400 := by omega
      subst e
      refine x_iload_n C dX6_readProduct_7 rfl rfl ?_
      refine x_sipush (v := 400) C dX6_readProduct_8 (by decide) ?_
      refine x_icmp_ge (tgt := 73) C dX6_readProduct_11 (by decide) (fun c11 => ?_) (fun c11 => absurd (by decide) c11)
      refine x_vret C E dX6_readProduct_73 ?_
      exact ⟨rfl, by rw [hq]; first | rfl | (simp only [t_lpb]; done) | fail⟩
    | succ w ih =>
      intro i z S1 hi hz hin1 hq
      subst hz
      refine x_iload_n C dX6_readProduct_7 rfl rfl ?_
      refine x_sipush (v := 400) C dX6_readProduct_8 (by decide) ?_
      refine x_icmp_ge (tgt := 73) C dX6_readProduct_11 (by decide) (fun c11 => absurd c11 (show ¬ nI 400 ≤ nI i from nI_ge (by omega) (by decide))) (fun c11 => ?_)
      refine x_aload_n C dX6_readProduct_14 rfl rfl ?_
      refine x_getfield C dX6_readProduct_15 fX6_28 tX_g42 rfl ?_
      refine x_getfield C dX6_readProduct_18 fX6_57 tX_g47 rfl ?_
      refine x_bipush (v := 42) C dX6_readProduct_21 (by decide) ?_
      refine x_icmp_eq (tgt := 38) C dX6_readProduct_23 (by decide) (fun c23 => ?_) (fun c23 => ?_)
      · refine x_aload_n C dX6_readProduct_38 rfl rfl ?_
        refine x_getfield C dX6_readProduct_39 fX6_28 tX_g42 rfl ?_
        refine x_getfield C dX6_readProduct_42 fX6_57 tX_g47 rfl ?_
        refine x_istore_n C dX6_readProduct_45 rfl rfl (by decide) ?_
        refine x_aload_n C dX6_readProduct_46 rfl rfl ?_
        refine x_getfield C dX6_readProduct_47 fX6_28 tX_g42 rfl ?_
        refine x_callV0 C dX6_readProduct_50 kX6_79 (c_X7_advance hO tX_bk) tX_g47 rfl (by omega) ⟨Nat.zero_le _, Nat.zero_le _⟩ (Nat.le_of_ble_eq_true rfl) ?_
        rintro _ _ ⟨rfl, rfl⟩
        refine x_to tX_tX ?_
        refine x_aload_n C dX6_readProduct_53 rfl rfl ?_
        refine x_iload_n C dX6_readProduct_54 rfl rfl ?_
        refine x_callV1 C dX6_readProduct_55 kX6_194 (hV _ _ (by repeat first | exact hin1 | refine t_in_adv hD ?_ | refine t_in_brk ?_ | refine t_in_acc hD ?_ | refine t_in_exp hD ?_ | refine t_in_deep hD ?_ | refine t_in_code ?_ | refine t_in_sign hD ?_ | refine hfv _ ?_) tX_bk) tX_g42 rfl (by omega) ⟨Nat.zero_le _, Nat.zero_le _⟩ (Nat.le_of_ble_eq_true rfl) ?_
        rintro _ _ ⟨rfl, rfl⟩
        refine x_to tX_tX ?_
        refine x_aload_n C dX6_readProduct_58 rfl rfl ?_
        refine x_getfield C dX6_readProduct_59 fX6_32 tX_g42 rfl ?_
        refine x_iload_n C dX6_readProduct_62 rfl rfl ?_
        refine x_iconst (v := 0) C dX6_readProduct_63 (by decide) ?_
        refine x_callV2 C dX6_readProduct_64 kX6_175 (c_X2_addCode hO tX_pl) tX_g0 rfl (by omega) ⟨Nat.zero_le _, Nat.zero_le _⟩ (Nat.le_of_ble_eq_true rfl) ?_
        rintro _ _ ⟨rfl, rfl⟩
        refine x_to tX_code ?_
        refine x_iinc (v := 1) C dX6_readProduct_67 rfl (by decide) rfl (by decide) ?_
        refine x_goto (tgt := 7) C dX6_readProduct_70 (by decide) ?_
        refine x_take 3 ?_
        exact ih (i + 1) _ _ (by omega) (nI_1 i) (t_in_code (hfv _ (t_in_adv hD hin1))) (by rw [hq]; simp only [t_lpb, if_pos c23])
      · refine x_aload_n C dX6_readProduct_26 rfl rfl ?_
        refine x_getfield C dX6_readProduct_27 fX6_28 tX_g42 rfl ?_
        refine x_getfield C dX6_readProduct_30 fX6_57 tX_g47 rfl ?_
        refine x_bipush (v := 47) C dX6_readProduct_33 (by decide) ?_
        refine x_icmp_ne (tgt := 73) C dX6_readProduct_35 (by decide) (fun c35 => ?_) (fun c35 => ?_)
        · refine x_vret C E dX6_readProduct_73 ?_
          exact ⟨rfl, by rw [hq]; first | rfl | (simp only [t_lpb, if_neg c23, if_neg c35]; done) | fail⟩
        · refine x_aload_n C dX6_readProduct_38 rfl rfl ?_
          refine x_getfield C dX6_readProduct_39 fX6_28 tX_g42 rfl ?_
          refine x_getfield C dX6_readProduct_42 fX6_57 tX_g47 rfl ?_
          refine x_istore_n C dX6_readProduct_45 rfl rfl (by decide) ?_
          refine x_aload_n C dX6_readProduct_46 rfl rfl ?_
          refine x_getfield C dX6_readProduct_47 fX6_28 tX_g42 rfl ?_
          refine x_callV0 C dX6_readProduct_50 kX6_79 (c_X7_advance hO tX_bk) tX_g47 rfl (by omega) ⟨Nat.zero_le _, Nat.zero_le _⟩ (Nat.le_of_ble_eq_true rfl) ?_
          rintro _ _ ⟨rfl, rfl⟩
          refine x_to tX_tX ?_
          refine x_aload_n C dX6_readProduct_53 rfl rfl ?_
          refine x_iload_n C dX6_readProduct_54 rfl rfl ?_
          refine x_callV1 C dX6_readProduct_55 kX6_194 (hV _ _ (by repeat first | exact hin1 | refine t_in_adv hD ?_ | refine t_in_brk ?_ | refine t_in_acc hD ?_ | refine t_in_exp hD ?_ | refine t_in_deep hD ?_ | refine t_in_code ?_ | refine t_in_sign hD ?_ | refine hfv _ ?_) tX_bk) tX_g42 rfl (by omega) ⟨Nat.zero_le _, Nat.zero_le _⟩ (Nat.le_of_ble_eq_true rfl) ?_
          rintro _ _ ⟨rfl, rfl⟩
          refine x_to tX_tX ?_
          refine x_aload_n C dX6_readProduct_58 rfl rfl ?_
          refine x_getfield C dX6_readProduct_59 fX6_32 tX_g42 rfl ?_
          refine x_iload_n C dX6_readProduct_62 rfl rfl ?_
          refine x_iconst (v := 0) C dX6_readProduct_63 (by decide) ?_
          refine x_callV2 C dX6_readProduct_64 kX6_175 (c_X2_addCode hO tX_pl) tX_g0 rfl (by omega) ⟨Nat.zero_le _, Nat.zero_le _⟩ (Nat.le_of_ble_eq_true rfl) ?_
          rintro _ _ ⟨rfl, rfl⟩
          refine x_to tX_code ?_
          refine x_iinc (v := 1) C dX6_readProduct_67 rfl (by decide) rfl (by decide) ?_
          refine x_goto (tgt := 7) C dX6_readProduct_70 (by decide) ?_
          refine x_take 3 ?_
          exact ih (i + 1) _ _ (by omega) (nI_1 i) (t_in_code (hfv _ (t_in_adv hD hin1))) (by rw [hq]; simp only [t_lpb, if_neg c23, if_pos c35])
  refine x_aload_n C dX6_readProduct_0 rfl rfl ?_
  refine x_iload_n C dX6_readProduct_1 rfl rfl ?_
  refine x_callV1 C dX6_readProduct_2 kX6_194 (hV _ _ hin tX_bk) tX_g42 rfl (by omega) ⟨Nat.zero_le _, Nat.zero_le _⟩ (Nat.le_of_ble_eq_true rfl) ?_
  rintro _ _ ⟨rfl, rfl⟩
  refine x_to tX_tX ?_
  refine x_iconst (v := 0) C dX6_readProduct_5 (by decide) ?_
  refine x_istore_n C dX6_readProduct_6 rfl rfl (by decide) ?_
  refine x_take 3 ?_
  exact lp 400 0 0 _ (by omega) rfl (hfv _ hin) rfl
set_option maxHeartbeats 4000000 in
set_option maxRecDepth 100000 in
theorem c_X6_readSum {l : Launch} {Y0 : x_Y} (hO : x_Ok Y0) {M : x_M} {b : Nat} {D : tK} {Q : HS} {S : tS} (hD : t_dk D) (hin : t_in S) (hb : x_bk M b (tcT b D Q S)) {k : Int32} {d : Nat} {dV : Nat} {fv : tS → tS} (hd1 : dV + 1 ≤ d) (hd4 : 3 ≤ d) (hfv : t_ki fv) (hV : tCt l Y0 yX6_readProduct cX6_readProduct 4 dV b D Q k fv) : x_C l Y0 yX6_readSum cX6_readSum 4 none d 0 0 [.ref (b + 42), .int k] M (fun u M1 => u = none ∧ M1 = tX M b D Q (t_lpb D 43 45 fv 400 (fv S))) := by
  refine x_start hO (by decide +kernel) (Nat.le_of_ble_eq_true rfl) (fun K C E => ?_)
  refine x_to (tX_self hb).symm ?_
  have lp : ∀ (w i : Nat) (z : Int32) (S1 : tS), i + w = 400 → z = nI i → t_in S1 → t_lpb D 43 45 fv 400 (fv S) = t_lpb D 43 45 fv w S1 → x_X K 4 0 0 7 [(0, .ref (b + 42)), (1, .int k), (2, .int z)] [] (tX M b D Q S1) := by
    intro w
    induction w with
    | zero =>
      intro i z S1 hi hz hin1 hq
      subst hz
      have e : i = 400 := by omega
      subst e
      refine x_iload_n C dX6_readSum_7 rfl rfl ?_
      refine x_sipush (v := 400) C dX6_readSum_8 (by decide) ?_
      refine x_icmp_ge (tgt := 73) C dX6_readSum_11 (by decide) (fun c11 => ?_) (fun c11 => absurd (by decide) c11)
      refine x_vret C E dX6_readSum_73 ?_
      exact ⟨rfl, by rw [hq]; first | rfl | (simp only [t_lpb]; done) | fail⟩
    | succ w ih =>
      intro i z S1 hi hz hin1 hq
      subst hz
      refine x_iload_n C dX6_readSum_7 rfl rfl ?_
      refine x_sipush (v := 400) C dX6_readSum_8 (by decide) ?_
      refine x_icmp_ge (tgt := 73) C dX6_readSum_11 (by decide) (fun c11 => absurd c11 (show ¬ nI 400 ≤ nI i from nI_ge (by omega) (by decide))) (fun c11 => ?_)
      refine x_aload_n C dX6_readSum_14 rfl rfl ?_
      refine x_getfield C dX6_readSum_15 fX6_28 tX_g42 rfl ?_
      refine x_getfield C dX6_readSum_18 fX6_57 tX_g47 rfl ?_
      refine x_bipush (v := 43) C dX6_readSum_21 (by decide) ?_
      refine x_icmp_eq (tgt := 38) C dX6_readSum_23 (by decide) (fun c23 => ?_) (fun c23 => ?_)
      · refine x_aload_n C dX6_readSum_38 rfl rfl ?_
        refine x_getfield C dX6_readSum_39 fX6_28 tX_g42 rfl ?_
        refine x_getfield C dX6_readSum_42 fX6_57 tX_g47 rfl ?_
        refine x_istore_n C dX6_readSum_45 rfl rfl (by decide) ?_
        refine x_aload_n C dX6_readSum_46 rfl rfl ?_
        refine x_getfield C dX6_readSum_47 fX6_28 tX_g42 rfl ?_
        refine x_callV0 C dX6_readSum_50 kX6_79 (c_X7_advance hO tX_bk) tX_g47 rfl (by omega) ⟨Nat.zero_le _, Nat.zero_le _⟩ (Nat.le_of_ble_eq_true rfl) ?_
        rintro _ _ ⟨rfl, rfl⟩
        refine x_to tX_tX ?_
        refine x_aload_n C dX6_readSum_53 rfl rfl ?_
        refine x_iload_n C dX6_readSum_54 rfl rfl ?_
        refine x_callV1 C dX6_readSum_55 kX6_191 (hV _ _ (by repeat first | exact hin1 | refine t_in_adv hD ?_ | refine t_in_brk ?_ | refine t_in_acc hD ?_ | refine t_in_exp hD ?_ | refine t_in_deep hD ?_ | refine t_in_code ?_ | refine t_in_sign hD ?_ | refine hfv _ ?_) tX_bk) tX_g42 rfl (by omega) ⟨Nat.zero_le _, Nat.zero_le _⟩ (Nat.le_of_ble_eq_true rfl) ?_
        rintro _ _ ⟨rfl, rfl⟩
        refine x_to tX_tX ?_
        refine x_aload_n C dX6_readSum_58 rfl rfl ?_
        refine x_getfield C dX6_readSum_59 fX6_32 tX_g42 rfl ?_
        refine x_iload_n C dX6_readSum_62 rfl rfl ?_
        refine x_iconst (v := 0) C dX6_readSum_63 (by decide) ?_
        refine x_callV2 C dX6_readSum_64 kX6_175 (c_X2_addCode hO tX_pl) tX_g0 rfl (by omega) ⟨Nat.zero_le _, Nat.zero_le _⟩ (Nat.le_of_ble_eq_true rfl) ?_
        rintro _ _ ⟨rfl, rfl⟩
        refine x_to tX_code ?_
        refine x_iinc (v := 1) C dX6_readSum_67 rfl (by decide) rfl (by decide) ?_
        refine x_goto (tgt := 7) C dX6_readSum_70 (by decide) ?_
        refine x_take 3 ?_
        exact ih (i + 1) _ _ (by omega) (nI_1 i) (t_in_code (hfv _ (t_in_adv hD hin1))) (by rw [hq]; simp only [t_lpb, if_pos c23])
      · refine x_aload_n C dX6_readSum_26 rfl rfl ?_
        refine x_getfield C dX6_readSum_27 fX6_28 tX_g42 rfl ?_
        refine x_getfield C dX6_readSum_30 fX6_57 tX_g47 rfl ?_
        refine x_bipush (v := 45) C dX6_readSum_33 (by decide) ?_
        refine x_icmp_ne (tgt := 73) C dX6_readSum_35 (by decide) (fun c35 => ?_) (fun c35 => ?_)
        · refine x_vret C E dX6_readSum_73 ?_
          exact ⟨rfl, by rw [hq]; first | rfl | (simp only [t_lpb, if_neg c23, if_neg c35]; done) | fail⟩
        · refine x_aload_n C dX6_readSum_38 rfl rfl ?_
          refine x_getfield C dX6_readSum_39 fX6_28 tX_g42 rfl ?_
          refine x_getfield C dX6_readSum_42 fX6_57 tX_g47 rfl ?_
          refine x_istore_n C dX6_readSum_45 rfl rfl (by decide) ?_
          refine x_aload_n C dX6_readSum_46 rfl rfl ?_
          refine x_getfield C dX6_readSum_47 fX6_28 tX_g42 rfl ?_
          refine x_callV0 C dX6_readSum_50 kX6_79 (c_X7_advance hO tX_bk) tX_g47 rfl (by omega) ⟨Nat.zero_le _, Nat.zero_le _⟩ (Nat.le_of_ble_eq_true rfl) ?_
          rintro _ _ ⟨rfl, rfl⟩
          refine x_to tX_tX ?_
          refine x_aload_n C dX6_readSum_53 rfl rfl ?_
          refine x_iload_n C dX6_readSum_54 rfl rfl ?_
          refine x_callV1 C dX6_readSum_55 kX6_191 (hV _ _ (by repeat first | exact hin1 | refine t_in_adv hD ?_ | refine t_in_brk ?_ | refine t_in_acc hD ?_ | refine t_in_exp hD ?_ | refine t_in_deep hD ?_ | refine t_in_code ?_ | refine t_in_sign hD ?_ | refine hfv _ ?_) tX_bk) tX_g42 rfl (by omega) ⟨Nat.zero_le _, Nat.zero_le _⟩ (Nat.le_of_ble_eq_true rfl) ?_
          rintro _ _ ⟨rfl, rfl⟩
          refine x_to tX_tX ?_
          refine x_aload_n C dX6_readSum_58 rfl rfl ?_
          refine x_getfield C dX6_readSum_59 fX6_32 tX_g42 rfl ?_
          refine x_iload_n C dX6_readSum_62 rfl rfl ?_
          refine x_iconst (v := 0) C dX6_readSum_63 (by decide) ?_
          refine x_callV2 C dX6_readSum_64 kX6_175 (c_X2_addCode hO tX_pl) tX_g0 rfl (by omega) ⟨Nat.zero_le _, Nat.zero_le _⟩ (Nat.le_of_ble_eq_true rfl) ?_
          rintro _ _ ⟨rfl, rfl⟩
          refine x_to tX_code ?_
          refine x_iinc (v := 1) C dX6_readSum_67 rfl (by decide) rfl (by decide) ?_
          refine x_goto (tgt := 7) C dX6_readSum_70 (by decide) ?_
          refine x_take 3 ?_
          exact ih (i + 1) _ _ (by omega) (nI_1 i) (t_in_code (hfv _ (t_in_adv hD hin1))) (by rw [hq]; simp only [t_lpb, if_neg c23, if_pos c35])
  refine x_aload_n C dX6_readSum_0 rfl rfl ?_
  refine x_iload_n C dX6_readSum_1 rfl rfl ?_
  refine x_callV1 C dX6_readSum_2 kX6_191 (hV _ _ hin tX_bk) tX_g42 rfl (by omega) ⟨Nat.zero_le _, Nat.zero_le _⟩ (Nat.le_of_ble_eq_true rfl) ?_
  rintro _ _ ⟨rfl, rfl⟩
  refine x_to tX_tX ?_
  refine x_iconst (v := 0) C dX6_readSum_5 (by decide) ?_
  refine x_istore_n C dX6_readSum_6 rfl rfl (by decide) ?_
  refine x_take 3 ?_
  exact lp 400 0 0 _ (by omega) rfl (hfv _ hin) rfl
