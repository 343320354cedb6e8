theorem dX11_init_0 : decode cX11_init 0 = .ok (.aload_n 0, 1) := by decide +kernel
theorem dX11_init_1 : decode cX11_init 1 = .ok (.invokespecial 1, 3) := by decide +kernel
theorem dX11_init_4 : decode cX11_init 4 = .ok (.aload_n 0, 1) := by decide +kernel
theorem dX11_init_5 : decode cX11_init 5 = .ok (.sipush 2000, 3) := by decide +kernel
theorem dX11_init_8 : decode cX11_init 8 = .ok (.newarray .int, 2) := by decide +kernel
theorem dX11_init_10 : decode cX11_init 10 = .ok (.putfield 9, 3) := by decide +kernel
theorem dX11_init_13 : decode cX11_init 13 = .ok (.aload_n 0, 1) := by decide +kernel
theorem dX11_init_14 : decode cX11_init 14 = .ok (.iconst (-1), 1) := by decide +kernel
theorem dX11_init_15 : decode cX11_init 15 = .ok (.putfield 13, 3) := by decide +kernel
theorem dX11_init_18 : decode cX11_init 18 = .ok (.aload_n 0, 1) := by decide +kernel
theorem dX11_init_19 : decode cX11_init 19 = .ok (.sipush 401, 3) := by decide +kernel
theorem dX11_init_22 : decode cX11_init 22 = .ok (.newarray .int, 2) := by decide +kernel
theorem dX11_init_24 : decode cX11_init 24 = .ok (.putfield 17, 3) := by decide +kernel
theorem dX11_init_27 : decode cX11_init 27 = .ok (.aload_n 0, 1) := by decide +kernel
theorem dX11_init_28 : decode cX11_init 28 = .ok (.sipush 401, 3) := by decide +kernel
theorem dX11_init_31 : decode cX11_init 31 = .ok (.newarray .int, 2) := by decide +kernel
theorem dX11_init_33 : decode cX11_init 33 = .ok (.putfield 20, 3) := by decide +kernel
theorem dX11_init_36 : decode cX11_init 36 = .ok (.aload_n 0, 1) := by decide +kernel
theorem dX11_init_37 : decode cX11_init 37 = .ok (.sipush 401, 3) := by decide +kernel
theorem dX11_init_40 : decode cX11_init 40 = .ok (.newarray .int, 2) := by decide +kernel
theorem dX11_init_42 : decode cX11_init 42 = .ok (.putfield 23, 3) := by decide +kernel
theorem dX11_init_45 : decode cX11_init 45 = .ok (.aload_n 0, 1) := by decide +kernel
theorem dX11_init_46 : decode cX11_init 46 = .ok (.sipush 401, 3) := by decide +kernel
theorem dX11_init_49 : decode cX11_init 49 = .ok (.newarray .int, 2) := by decide +kernel
theorem dX11_init_51 : decode cX11_init 51 = .ok (.putfield 26, 3) := by decide +kernel
theorem dX11_init_54 : decode cX11_init 54 = .ok (.aload_n 0, 1) := by decide +kernel
theorem dX11_init_55 : decode cX11_init 55 = .ok (.sipush 401, 3) := by decide +kernel
theorem dX11_init_58 : decode cX11_init 58 = .ok (.newarray .int, 2) := by decide +kernel
theorem dX11_init_60 : decode cX11_init 60 = .ok (.putfield 29, 3) := by decide +kernel
theorem dX11_init_63 : decode cX11_init 63 = .ok (.aload_n 0, 1) := by decide +kernel
theorem dX11_init_64 : decode cX11_init 64 = .ok (.new 32, 3) := by decide +kernel
theorem dX11_init_67 : decode cX11_init 67 = .ok (.dup, 1) := by decide +kernel
theorem dX11_init_68 : decode cX11_init 68 = .ok (.invokespecial 34, 3) := by decide +kernel
theorem dX11_init_71 : decode cX11_init 71 = .ok (.putfield 35, 3) := by decide +kernel
theorem dX11_init_74 : decode cX11_init 74 = .ok (.aload_n 0, 1) := by decide +kernel
theorem dX11_init_75 : decode cX11_init 75 = .ok (.aload_n 0, 1) := by decide +kernel
theorem dX11_init_76 : decode cX11_init 76 = .ok (.getfield 35, 3) := by decide +kernel
theorem dX11_init_79 : decode cX11_init 79 = .ok (.putfield 39, 3) := by decide +kernel
theorem dX11_init_82 : decode cX11_init 82 = .ok (.aload_n 0, 1) := by decide +kernel
theorem dX11_init_83 : decode cX11_init 83 = .ok (.sipush 400, 3) := by decide +kernel
theorem dX11_init_86 : decode cX11_init 86 = .ok (.newarray .int, 2) := by decide +kernel
theorem dX11_init_88 : decode cX11_init 88 = .ok (.putfield 42, 3) := by decide +kernel
theorem dX11_init_91 : decode cX11_init 91 = .ok (.aload_n 0, 1) := by decide +kernel
theorem dX11_init_92 : decode cX11_init 92 = .ok (.new 45, 3) := by decide +kernel
theorem dX11_init_95 : decode cX11_init 95 = .ok (.dup, 1) := by decide +kernel
theorem dX11_init_96 : decode cX11_init 96 = .ok (.aload_n 0, 1) := by decide +kernel
theorem dX11_init_97 : decode cX11_init 97 = .ok (.invokespecial 47, 3) := by decide +kernel
theorem dX11_init_100 : decode cX11_init 100 = .ok (.putfield 50, 3) := by decide +kernel
theorem dX11_init_103 : decode cX11_init 103 = .ok (.aload_n 0, 1) := by decide +kernel
theorem dX11_init_104 : decode cX11_init 104 = .ok (.new 45, 3) := by decide +kernel
theorem dX11_init_107 : decode cX11_init 107 = .ok (.dup, 1) := by decide +kernel
theorem dX11_init_108 : decode cX11_init 108 = .ok (.aload_n 0, 1) := by decide +kernel
theorem dX11_init_109 : decode cX11_init 109 = .ok (.invokespecial 47, 3) := by decide +kernel
theorem dX11_init_112 : decode cX11_init 112 = .ok (.putfield 54, 3) := by decide +kernel
theorem dX11_init_115 : decode cX11_init 115 = .ok (.aload_n 0, 1) := by decide +kernel
theorem dX11_init_116 : decode cX11_init 116 = .ok (.getfield 50, 3) := by decide +kernel
theorem dX11_init_119 : decode cX11_init 119 = .ok (.invokevirtual 57, 3) := by decide +kernel
theorem dX11_init_122 : decode cX11_init 122 = .ok (.return_, 1) := by decide +kernel
theorem dX11_thrown_0 : decode cX11_thrown 0 = .ok (.aload_n 0, 1) := by decide +kernel
theorem dX11_thrown_1 : decode cX11_thrown 1 = .ok (.getfield 60, 3) := by decide +kernel
theorem dX11_thrown_4 : decode cX11_thrown 4 = .ok (.ireturn, 1) := by decide +kernel
theorem dX11_no_0 : decode cX11_no 0 = .ok (.aload_n 0, 1) := by decide +kernel
theorem dX11_no_1 : decode cX11_no 1 = .ok (.iload_n 1, 1) := by decide +kernel
theorem dX11_no_2 : decode cX11_no 2 = .ok (.putfield 60, 3) := by decide +kernel
theorem dX11_no_5 : decode cX11_no 5 = .ok (.iconst 0, 1) := by decide +kernel
theorem dX11_no_6 : decode cX11_no 6 = .ok (.ireturn, 1) := by decide +kernel
theorem dX11_ok_0 : decode cX11_ok 0 = .ok (.aload_n 0, 1) := by decide +kernel
theorem dX11_ok_1 : decode cX11_ok 1 = .ok (.iconst 0, 1) := by decide +kernel
theorem dX11_ok_2 : decode cX11_ok 2 = .ok (.putfield 60, 3) := by decide +kernel
theorem dX11_ok_5 : decode cX11_ok 5 = .ok (.iload_n 1, 1) := by decide +kernel
theorem dX11_ok_6 : decode cX11_ok 6 = .ok (.ireturn, 1) := by decide +kernel
theorem dX11_isIn_0 : decode cX11_isIn 0 = .ok (.iload_n 0, 1) := by decide +kernel
theorem dX11_isIn_1 : decode cX11_isIn 1 = .ok (.iload_n 1, 1) := by decide +kernel
theorem dX11_isIn_2 : decode cX11_isIn 2 = .ok (.if_icmp .lt 12, 3) := by decide +kernel
theorem dX11_isIn_5 : decode cX11_isIn 5 = .ok (.iload_n 0, 1) := by decide +kernel
theorem dX11_isIn_6 : decode cX11_isIn 6 = .ok (.iload_n 2, 1) := by decide +kernel
theorem dX11_isIn_7 : decode cX11_isIn 7 = .ok (.if_icmp .gt 7, 3) := by decide +kernel
theorem dX11_isIn_10 : decode cX11_isIn 10 = .ok (.iconst 1, 1) := by decide +kernel
theorem dX11_isIn_11 : decode cX11_isIn 11 = .ok (.goto 4, 3) := by decide +kernel
theorem dX11_isIn_14 : decode cX11_isIn 14 = .ok (.iconst 0, 1) := by decide +kernel
theorem dX11_isIn_15 : decode cX11_isIn 15 = .ok (.ireturn, 1) := by decide +kernel
theorem dX11_isDrone_0 : decode cX11_isDrone 0 = .ok (.iload_n 1, 1) := by decide +kernel
theorem dX11_isDrone_1 : decode cX11_isDrone 1 = .ok (.iconst 0, 1) := by decide +kernel
theorem dX11_isDrone_2 : decode cX11_isDrone 2 = .ok (.aload_n 0, 1) := by decide +kernel
theorem dX11_isDrone_3 : decode cX11_isDrone 3 = .ok (.getfield 35, 3) := by decide +kernel
theorem dX11_isDrone_6 : decode cX11_isDrone 6 = .ok (.getfield 63, 3) := by decide +kernel
theorem dX11_isDrone_9 : decode cX11_isDrone 9 = .ok (.iconst 1, 1) := by decide +kernel
theorem dX11_isDrone_10 : decode cX11_isDrone 10 = .ok (.isub, 1) := by decide +kernel
theorem dX11_isDrone_11 : decode cX11_isDrone 11 = .ok (.invokestatic 66, 3) := by decide +kernel
theorem dX11_isDrone_14 : decode cX11_isDrone 14 = .ok (.ireturn, 1) := by decide +kernel
theorem dX11_isDeal_0 : decode cX11_isDeal 0 = .ok (.iload_n 1, 1) := by decide +kernel
theorem dX11_isDeal_1 : decode cX11_isDeal 1 = .ok (.iconst 0, 1) := by decide +kernel
theorem dX11_isDeal_2 : decode cX11_isDeal 2 = .ok (.aload_n 0, 1) := by decide +kernel
theorem dX11_isDeal_3 : decode cX11_isDeal 3 = .ok (.getfield 35, 3) := by decide +kernel
theorem dX11_isDeal_6 : decode cX11_isDeal 6 = .ok (.getfield 70, 3) := by decide +kernel
theorem dX11_isDeal_9 : decode cX11_isDeal 9 = .ok (.iconst 1, 1) := by decide +kernel
theorem dX11_isDeal_10 : decode cX11_isDeal 10 = .ok (.isub, 1) := by decide +kernel
theorem dX11_isDeal_11 : decode cX11_isDeal 11 = .ok (.invokestatic 66, 3) := by decide +kernel
theorem dX11_isDeal_14 : decode cX11_isDeal 14 = .ok (.ireturn, 1) := by decide +kernel
theorem dX11_isPart_0 : decode cX11_isPart 0 = .ok (.aload_n 0, 1) := by decide +kernel
theorem dX11_isPart_1 : decode cX11_isPart 1 = .ok (.iload_n 1, 1) := by decide +kernel
theorem dX11_isPart_2 : decode cX11_isPart 2 = .ok (.invokevirtual 73, 3) := by decide +kernel
theorem dX11_isPart_5 : decode cX11_isPart 5 = .ok (.ifCond .eq 26, 3) := by decide +kernel
theorem dX11_isPart_8 : decode cX11_isPart 8 = .ok (.iload_n 2, 1) := by decide +kernel
theorem dX11_isPart_9 : decode cX11_isPart 9 = .ok (.iconst 0, 1) := by decide +kernel
theorem dX11_isPart_10 : decode cX11_isPart 10 = .ok (.aload_n 0, 1) := by decide +kernel
theorem dX11_isPart_11 : decode cX11_isPart 11 = .ok (.getfield 35, 3) := by decide +kernel
theorem dX11_isPart_14 : decode cX11_isPart 14 = .ok (.getfield 77, 3) := by decide +kernel
theorem dX11_isPart_17 : decode cX11_isPart 17 = .ok (.iload_n 1, 1) := by decide +kernel
theorem dX11_isPart_18 : decode cX11_isPart 18 = .ok (.iaload, 1) := by decide +kernel
theorem dX11_isPart_19 : decode cX11_isPart 19 = .ok (.iconst 1, 1) := by decide +kernel
theorem dX11_isPart_20 : decode cX11_isPart 20 = .ok (.isub, 1) := by decide +kernel
theorem dX11_isPart_21 : decode cX11_isPart 21 = .ok (.invokestatic 66, 3) := by decide +kernel
theorem dX11_isPart_24 : decode cX11_isPart 24 = .ok (.ifCond .eq 7, 3) := by decide +kernel
theorem dX11_isPart_27 : decode cX11_isPart 27 = .ok (.iconst 1, 1) := by decide +kernel
theorem dX11_isPart_28 : decode cX11_isPart 28 = .ok (.goto 4, 3) := by decide +kernel
theorem dX11_isPart_31 : decode cX11_isPart 31 = .ok (.iconst 0, 1) := by decide +kernel
theorem dX11_isPart_32 : decode cX11_isPart 32 = .ok (.ireturn, 1) := by decide +kernel
theorem dX11_ahead_0 : decode cX11_ahead 0 = .ok (.aload_n 0, 1) := by decide +kernel
theorem dX11_ahead_1 : decode cX11_ahead 1 = .ok (.getfield 54, 3) := by decide +kernel
theorem dX11_ahead_4 : decode cX11_ahead 4 = .ok (.aload_n 0, 1) := by decide +kernel
theorem dX11_ahead_5 : decode cX11_ahead 5 = .ok (.getfield 50, 3) := by decide +kernel
theorem dX11_ahead_8 : decode cX11_ahead 8 = .ok (.invokevirtual 80, 3) := by decide +kernel
theorem dX11_ahead_11 : decode cX11_ahead 11 = .ok (.areturn, 1) := by decide +kernel
theorem dX11_both_0 : decode cX11_both 0 = .ok (.iload_n 0, 1) := by decide +kernel
theorem dX11_both_1 : decode cX11_both 1 = .ok (.tableswitch 218 18 44 #[214, 218, 147, 153, 218, 218, 218, 218, 218, 218, 218, 218, 218, 218, 218, 218, 123, 127, 131, 135, 159, 170, 218, 218, 181, 192, 203], 123) := by decide +kernel
theorem dX11_both_124 : decode cX11_both 124 = .ok (.iload_n 1, 1) := by decide +kernel
theorem dX11_both_125 : decode cX11_both 125 = .ok (.iload_n 2, 1) := by decide +kernel
theorem dX11_both_126 : decode cX11_both 126 = .ok (.iadd, 1) := by decide +kernel
theorem dX11_both_127 : decode cX11_both 127 = .ok (.ireturn, 1) := by decide +kernel
theorem dX11_both_128 : decode cX11_both 128 = .ok (.iload_n 1, 1) := by decide +kernel
theorem dX11_both_129 : decode cX11_both 129 = .ok (.iload_n 2, 1) := by decide +kernel
theorem dX11_both_130 : decode cX11_both 130 = .ok (.isub, 1) := by decide +kernel
theorem dX11_both_131 : decode cX11_both 131 = .ok (.ireturn, 1) := by decide +kernel
theorem dX11_both_132 : decode cX11_both 132 = .ok (.iload_n 1, 1) := by decide +kernel
theorem dX11_both_133 : decode cX11_both 133 = .ok (.iload_n 2, 1) := by decide +kernel
theorem dX11_both_134 : decode cX11_both 134 = .ok (.imul, 1) := by decide +kernel
theorem dX11_both_135 : decode cX11_both 135 = .ok (.ireturn, 1) := by decide +kernel
theorem dX11_both_136 : decode cX11_both 136 = .ok (.iload_n 2, 1) := by decide +kernel
theorem dX11_both_137 : decode cX11_both 137 = .ok (.ifCond .ne 7, 3) := by decide +kernel
theorem dX11_both_140 : decode cX11_both 140 = .ok (.iconst 0, 1) := by decide +kernel
theorem dX11_both_141 : decode cX11_both 141 = .ok (.goto 6, 3) := by decide +kernel
theorem dX11_both_144 : decode cX11_both 144 = .ok (.iload_n 1, 1) := by decide +kernel
theorem dX11_both_145 : decode cX11_both 145 = .ok (.iload_n 2, 1) := by decide +kernel
theorem dX11_both_146 : decode cX11_both 146 = .ok (.idiv, 1) := by decide +kernel
theorem dX11_both_147 : decode cX11_both 147 = .ok (.ireturn, 1) := by decide +kernel
theorem dX11_both_148 : decode cX11_both 148 = .ok (.iload_n 1, 1) := by decide +kernel
theorem dX11_both_149 : decode cX11_both 149 = .ok (.iload_n 2, 1) := by decide +kernel
theorem dX11_both_150 : decode cX11_both 150 = .ok (.invokestatic 84, 3) := by decide +kernel
theorem dX11_both_153 : decode cX11_both 153 = .ok (.ireturn, 1) := by decide +kernel
theorem dX11_both_154 : decode cX11_both 154 = .ok (.iload_n 1, 1) := by decide +kernel
theorem dX11_both_155 : decode cX11_both 155 = .ok (.iload_n 2, 1) := by decide +kernel
theorem dX11_both_156 : decode cX11_both 156 = .ok (.invokestatic 90, 3) := by decide +kernel
theorem dX11_both_159 : decode cX11_both 159 = .ok (.ireturn, 1) := by decide +kernel
theorem dX11_both_160 : decode cX11_both 160 = .ok (.iload_n 1, 1) := by decide +kernel
theorem dX11_both_161 : decode cX11_both 161 = .ok (.iload_n 2, 1) := by decide +kernel
theorem dX11_both_162 : decode cX11_both 162 = .ok (.if_icmp .ge 7, 3) := by decide +kernel
theorem dX11_both_165 : decode cX11_both 165 = .ok (.iconst 1, 1) := by decide +kernel
theorem dX11_both_166 : decode cX11_both 166 = .ok (.goto 4, 3) := by decide +kernel
theorem dX11_both_169 : decode cX11_both 169 = .ok (.iconst 0, 1) := by decide +kernel
theorem dX11_both_170 : decode cX11_both 170 = .ok (.ireturn, 1) := by decide +kernel
theorem dX11_both_171 : decode cX11_both 171 = .ok (.iload_n 1, 1) := by decide +kernel
theorem dX11_both_172 : decode cX11_both 172 = .ok (.iload_n 2, 1) := by decide +kernel
theorem dX11_both_173 : decode cX11_both 173 = .ok (.if_icmp .le 7, 3) := by decide +kernel
theorem dX11_both_176 : decode cX11_both 176 = .ok (.iconst 1, 1) := by decide +kernel
theorem dX11_both_177 : decode cX11_both 177 = .ok (.goto 4, 3) := by decide +kernel
theorem dX11_both_180 : decode cX11_both 180 = .ok (.iconst 0, 1) := by decide +kernel
theorem dX11_both_181 : decode cX11_both 181 = .ok (.ireturn, 1) := by decide +kernel
theorem dX11_both_182 : decode cX11_both 182 = .ok (.iload_n 1, 1) := by decide +kernel
theorem dX11_both_183 : decode cX11_both 183 = .ok (.iload_n 2, 1) := by decide +kernel
theorem dX11_both_184 : decode cX11_both 184 = .ok (.if_icmp .ne 7, 3) := by decide +kernel
theorem dX11_both_187 : decode cX11_both 187 = .ok (.iconst 1, 1) := by decide +kernel
theorem dX11_both_188 : decode cX11_both 188 = .ok (.goto 4, 3) := by decide +kernel
theorem dX11_both_191 : decode cX11_both 191 = .ok (.iconst 0, 1) := by decide +kernel
theorem dX11_both_192 : decode cX11_both 192 = .ok (.ireturn, 1) := by decide +kernel
theorem dX11_both_193 : decode cX11_both 193 = .ok (.iload_n 1, 1) := by decide +kernel
theorem dX11_both_194 : decode cX11_both 194 = .ok (.iload_n 2, 1) := by decide +kernel
theorem dX11_both_195 : decode cX11_both 195 = .ok (.if_icmp .gt 7, 3) := by decide +kernel
theorem dX11_both_198 : decode cX11_both 198 = .ok (.iconst 1, 1) := by decide +kernel
theorem dX11_both_199 : decode cX11_both 199 = .ok (.goto 4, 3) := by decide +kernel
theorem dX11_both_202 : decode cX11_both 202 = .ok (.iconst 0, 1) := by decide +kernel
theorem dX11_both_203 : decode cX11_both 203 = .ok (.ireturn, 1) := by decide +kernel
theorem dX11_both_204 : decode cX11_both 204 = .ok (.iload_n 1, 1) := by decide +kernel
theorem dX11_both_205 : decode cX11_both 205 = .ok (.iload_n 2, 1) := by decide +kernel
theorem dX11_both_206 : decode cX11_both 206 = .ok (.if_icmp .lt 7, 3) := by decide +kernel
theorem dX11_both_209 : decode cX11_both 209 = .ok (.iconst 1, 1) := by decide +kernel
theorem dX11_both_210 : decode cX11_both 210 = .ok (.goto 4, 3) := by decide +kernel
theorem dX11_both_213 : decode cX11_both 213 = .ok (.iconst 0, 1) := by decide +kernel
theorem dX11_both_214 : decode cX11_both 214 = .ok (.ireturn, 1) := by decide +kernel
theorem dX11_both_215 : decode cX11_both 215 = .ok (.iload_n 1, 1) := by decide +kernel
theorem dX11_both_216 : decode cX11_both 216 = .ok (.iload_n 2, 1) := by decide +kernel
theorem dX11_both_217 : decode cX11_both 217 = .ok (.iand, 1) := by decide +kernel
theorem dX11_both_218 : decode cX11_both 218 = .ok (.ireturn, 1) := by decide +kernel
theorem dX11_both_219 : decode cX11_both 219 = .ok (.iload_n 1, 1) := by decide +kernel
theorem dX11_both_220 : decode cX11_both 220 = .ok (.iload_n 2, 1) := by decide +kernel
theorem dX11_both_221 : decode cX11_both 221 = .ok (.ior, 1) := by decide +kernel
theorem dX11_both_222 : decode cX11_both 222 = .ok (.ireturn, 1) := by decide +kernel
theorem dX11_isLetter_0 : decode cX11_isLetter 0 = .ok (.iload_n 0, 1) := by decide +kernel
theorem dX11_isLetter_1 : decode cX11_isLetter 1 = .ok (.bipush 97, 2) := by decide +kernel
theorem dX11_isLetter_3 : decode cX11_isLetter 3 = .ok (.if_icmp .lt 13, 3) := by decide +kernel
theorem dX11_isLetter_6 : decode cX11_isLetter 6 = .ok (.iload_n 0, 1) := by decide +kernel
theorem dX11_isLetter_7 : decode cX11_isLetter 7 = .ok (.bipush 122, 2) := by decide +kernel
theorem dX11_isLetter_9 : decode cX11_isLetter 9 = .ok (.if_icmp .gt 7, 3) := by decide +kernel
theorem dX11_isLetter_12 : decode cX11_isLetter 12 = .ok (.iconst 1, 1) := by decide +kernel
theorem dX11_isLetter_13 : decode cX11_isLetter 13 = .ok (.goto 4, 3) := by decide +kernel
theorem dX11_isLetter_16 : decode cX11_isLetter 16 = .ok (.iconst 0, 1) := by decide +kernel
theorem dX11_isLetter_17 : decode cX11_isLetter 17 = .ok (.ireturn, 1) := by decide +kernel
theorem dX11_isDigit_0 : decode cX11_isDigit 0 = .ok (.iload_n 0, 1) := by decide +kernel
theorem dX11_isDigit_1 : decode cX11_isDigit 1 = .ok (.bipush 48, 2) := by decide +kernel
theorem dX11_isDigit_3 : decode cX11_isDigit 3 = .ok (.if_icmp .lt 13, 3) := by decide +kernel
theorem dX11_isDigit_6 : decode cX11_isDigit 6 = .ok (.iload_n 0, 1) := by decide +kernel
theorem dX11_isDigit_7 : decode cX11_isDigit 7 = .ok (.bipush 57, 2) := by decide +kernel
theorem dX11_isDigit_9 : decode cX11_isDigit 9 = .ok (.if_icmp .gt 7, 3) := by decide +kernel
theorem dX11_isDigit_12 : decode cX11_isDigit 12 = .ok (.iconst 1, 1) := by decide +kernel
theorem dX11_isDigit_13 : decode cX11_isDigit 13 = .ok (.goto 4, 3) := by decide +kernel
theorem dX11_isDigit_16 : decode cX11_isDigit 16 = .ok (.iconst 0, 1) := by decide +kernel
theorem dX11_isDigit_17 : decode cX11_isDigit 17 = .ok (.ireturn, 1) := by decide +kernel
theorem dX11_byteOf_0 : decode cX11_byteOf 0 = .ok (.iload_n 1, 1) := by decide +kernel
theorem dX11_byteOf_1 : decode cX11_byteOf 1 = .ok (.aload_n 0, 1) := by decide +kernel
theorem dX11_byteOf_2 : decode cX11_byteOf 2 = .ok (.getfield 93, 3) := by decide +kernel
theorem dX11_byteOf_5 : decode cX11_byteOf 5 = .ok (.if_icmp .ge 12, 3) := by decide +kernel
theorem dX11_byteOf_8 : decode cX11_byteOf 8 = .ok (.aload_n 0, 1) := by decide +kernel
theorem dX11_byteOf_9 : decode cX11_byteOf 9 = .ok (.getfield 9, 3) := by decide +kernel
theorem dX11_byteOf_12 : decode cX11_byteOf 12 = .ok (.iload_n 1, 1) := by decide +kernel
theorem dX11_byteOf_13 : decode cX11_byteOf 13 = .ok (.iaload, 1) := by decide +kernel
theorem dX11_byteOf_14 : decode cX11_byteOf 14 = .ok (.goto 4, 3) := by decide +kernel
theorem dX11_byteOf_17 : decode cX11_byteOf 17 = .ok (.iconst (-1), 1) := by decide +kernel
theorem dX11_byteOf_18 : decode cX11_byteOf 18 = .ok (.ireturn, 1) := by decide +kernel
theorem dX11_kindAt_0 : decode cX11_kindAt 0 = .ok (.aload_n 0, 1) := by decide +kernel
theorem dX11_kindAt_1 : decode cX11_kindAt 1 = .ok (.iload_n 1, 1) := by decide +kernel
theorem dX11_kindAt_2 : decode cX11_kindAt 2 = .ok (.invokevirtual 96, 3) := by decide +kernel
theorem dX11_kindAt_5 : decode cX11_kindAt 5 = .ok (.istore_n 3, 1) := by decide +kernel
theorem dX11_kindAt_6 : decode cX11_kindAt 6 = .ok (.iload_n 1, 1) := by decide +kernel
theorem dX11_kindAt_7 : decode cX11_kindAt 7 = .ok (.iconst 1, 1) := by decide +kernel
theorem dX11_kindAt_8 : decode cX11_kindAt 8 = .ok (.iadd, 1) := by decide +kernel
theorem dX11_kindAt_9 : decode cX11_kindAt 9 = .ok (.istore 4, 2) := by decide +kernel
theorem dX11_kindAt_11 : decode cX11_kindAt 11 = .ok (.iload_n 3, 1) := by decide +kernel
theorem dX11_kindAt_12 : decode cX11_kindAt 12 = .ok (.iconst (-1), 1) := by decide +kernel
theorem dX11_kindAt_13 : decode cX11_kindAt 13 = .ok (.if_icmp .ne 7, 3) := by decide +kernel
theorem dX11_kindAt_16 : decode cX11_kindAt 16 = .ok (.sipush 900, 3) := by decide +kernel
theorem dX11_kindAt_19 : decode cX11_kindAt 19 = .ok (.ireturn, 1) := by decide +kernel
theorem dX11_kindAt_20 : decode cX11_kindAt 20 = .ok (.iload_n 3, 1) := by decide +kernel
theorem dX11_kindAt_21 : decode cX11_kindAt 21 = .ok (.invokestatic 100, 3) := by decide +kernel
theorem dX11_kindAt_24 : decode cX11_kindAt 24 = .ok (.ifCond .ne 10, 3) := by decide +kernel
theorem dX11_kindAt_27 : decode cX11_kindAt 27 = .ok (.iload_n 3, 1) := by decide +kernel
theorem dX11_kindAt_28 : decode cX11_kindAt 28 = .ok (.invokestatic 103, 3) := by decide +kernel
theorem dX11_kindAt_31 : decode cX11_kindAt 31 = .ok (.ifCond .eq 97, 3) := by decide +kernel
theorem dX11_kindAt_34 : decode cX11_kindAt 34 = .ok (.aload_n 0, 1) := by decide +kernel
theorem dX11_kindAt_35 : decode cX11_kindAt 35 = .ok (.iload 4, 2) := by decide +kernel
theorem dX11_kindAt_37 : decode cX11_kindAt 37 = .ok (.invokevirtual 96, 3) := by decide +kernel
theorem dX11_kindAt_40 : decode cX11_kindAt 40 = .ok (.invokestatic 103, 3) := by decide +kernel
theorem dX11_kindAt_43 : decode cX11_kindAt 43 = .ok (.ifCond .ne 22, 3) := by decide +kernel
theorem dX11_kindAt_46 : decode cX11_kindAt 46 = .ok (.iload_n 3, 1) := by decide +kernel
theorem dX11_kindAt_47 : decode cX11_kindAt 47 = .ok (.invokestatic 100, 3) := by decide +kernel
theorem dX11_kindAt_50 : decode cX11_kindAt 50 = .ok (.ifCond .eq 21, 3) := by decide +kernel
theorem dX11_kindAt_53 : decode cX11_kindAt 53 = .ok (.aload_n 0, 1) := by decide +kernel
theorem dX11_kindAt_54 : decode cX11_kindAt 54 = .ok (.iload 4, 2) := by decide +kernel
theorem dX11_kindAt_56 : decode cX11_kindAt 56 = .ok (.invokevirtual 96, 3) := by decide +kernel
theorem dX11_kindAt_59 : decode cX11_kindAt 59 = .ok (.invokestatic 100, 3) := by decide +kernel
theorem dX11_kindAt_62 : decode cX11_kindAt 62 = .ok (.ifCond .eq 9, 3) := by decide +kernel
theorem dX11_kindAt_65 : decode cX11_kindAt 65 = .ok (.iinc 4 1, 3) := by decide +kernel
theorem dX11_kindAt_68 : decode cX11_kindAt 68 = .ok (.goto (-34), 3) := by decide +kernel
theorem dX11_kindAt_71 : decode cX11_kindAt 71 = .ok (.aload_n 0, 1) := by decide +kernel
theorem dX11_kindAt_72 : decode cX11_kindAt 72 = .ok (.getfield 23, 3) := by decide +kernel
theorem dX11_kindAt_75 : decode cX11_kindAt 75 = .ok (.iload_n 2, 1) := by decide +kernel
theorem dX11_kindAt_76 : decode cX11_kindAt 76 = .ok (.iload 4, 2) := by decide +kernel
theorem dX11_kindAt_78 : decode cX11_kindAt 78 = .ok (.iload_n 1, 1) := by decide +kernel
theorem dX11_kindAt_79 : decode cX11_kindAt 79 = .ok (.isub, 1) := by decide +kernel
theorem dX11_kindAt_80 : decode cX11_kindAt 80 = .ok (.iastore, 1) := by decide +kernel
theorem dX11_kindAt_81 : decode cX11_kindAt 81 = .ok (.iload 4, 2) := by decide +kernel
theorem dX11_kindAt_83 : decode cX11_kindAt 83 = .ok (.iload_n 1, 1) := by decide +kernel
theorem dX11_kindAt_84 : decode cX11_kindAt 84 = .ok (.isub, 1) := by decide +kernel
theorem dX11_kindAt_85 : decode cX11_kindAt 85 = .ok (.iload_n 3, 1) := by decide +kernel
theorem dX11_kindAt_86 : decode cX11_kindAt 86 = .ok (.invokestatic 100, 3) := by decide +kernel
theorem dX11_kindAt_89 : decode cX11_kindAt 89 = .ok (.ifCond .eq 8, 3) := by decide +kernel
theorem dX11_kindAt_92 : decode cX11_kindAt 92 = .ok (.bipush 10, 2) := by decide +kernel
theorem dX11_kindAt_94 : decode cX11_kindAt 94 = .ok (.goto 5, 3) := by decide +kernel
theorem dX11_kindAt_97 : decode cX11_kindAt 97 = .ok (.bipush 6, 2) := by decide +kernel
theorem dX11_kindAt_99 : decode cX11_kindAt 99 = .ok (.if_icmp .le 7, 3) := by decide +kernel
theorem dX11_kindAt_102 : decode cX11_kindAt 102 = .ok (.sipush 901, 3) := by decide +kernel
theorem dX11_kindAt_105 : decode cX11_kindAt 105 = .ok (.ireturn, 1) := by decide +kernel
theorem dX11_kindAt_106 : decode cX11_kindAt 106 = .ok (.iload_n 3, 1) := by decide +kernel
theorem dX11_kindAt_107 : decode cX11_kindAt 107 = .ok (.invokestatic 100, 3) := by decide +kernel
theorem dX11_kindAt_110 : decode cX11_kindAt 110 = .ok (.ifCond .eq 15, 3) := by decide +kernel
theorem dX11_kindAt_113 : decode cX11_kindAt 113 = .ok (.aload_n 0, 1) := by decide +kernel
theorem dX11_kindAt_114 : decode cX11_kindAt 114 = .ok (.iload_n 1, 1) := by decide +kernel
theorem dX11_kindAt_115 : decode cX11_kindAt 115 = .ok (.iload 4, 2) := by decide +kernel
theorem dX11_kindAt_117 : decode cX11_kindAt 117 = .ok (.iload_n 1, 1) := by decide +kernel
theorem dX11_kindAt_118 : decode cX11_kindAt 118 = .ok (.isub, 1) := by decide +kernel
theorem dX11_kindAt_119 : decode cX11_kindAt 119 = .ok (.invokevirtual 106, 3) := by decide +kernel
theorem dX11_kindAt_122 : decode cX11_kindAt 122 = .ok (.goto 5, 3) := by decide +kernel
theorem dX11_kindAt_125 : decode cX11_kindAt 125 = .ok (.bipush 41, 2) := by decide +kernel
theorem dX11_kindAt_127 : decode cX11_kindAt 127 = .ok (.ireturn, 1) := by decide +kernel
theorem dX11_kindAt_128 : decode cX11_kindAt 128 = .ok (.iload_n 3, 1) := by decide +kernel
theorem dX11_kindAt_129 : decode cX11_kindAt 129 = .ok (.bipush 60, 2) := by decide +kernel
theorem dX11_kindAt_131 : decode cX11_kindAt 131 = .ok (.if_icmp .eq 9, 3) := by decide +kernel
theorem dX11_kindAt_134 : decode cX11_kindAt 134 = .ok (.iload_n 3, 1) := by decide +kernel
theorem dX11_kindAt_135 : decode cX11_kindAt 135 = .ok (.bipush 62, 2) := by decide +kernel
theorem dX11_kindAt_137 : decode cX11_kindAt 137 = .ok (.if_icmp .ne 18, 3) := by decide +kernel
theorem dX11_kindAt_140 : decode cX11_kindAt 140 = .ok (.aload_n 0, 1) := by decide +kernel
theorem dX11_kindAt_141 : decode cX11_kindAt 141 = .ok (.iload 4, 2) := by decide +kernel
theorem dX11_kindAt_143 : decode cX11_kindAt 143 = .ok (.invokevirtual 96, 3) := by decide +kernel
theorem dX11_kindAt_146 : decode cX11_kindAt 146 = .ok (.bipush 61, 2) := by decide +kernel
theorem dX11_kindAt_148 : decode cX11_kindAt 148 = .ok (.if_icmp .ne 7, 3) := by decide +kernel
theorem dX11_kindAt_151 : decode cX11_kindAt 151 = .ok (.iconst 1, 1) := by decide +kernel
theorem dX11_kindAt_152 : decode cX11_kindAt 152 = .ok (.goto 4, 3) := by decide +kernel
theorem dX11_kindAt_155 : decode cX11_kindAt 155 = .ok (.iconst 0, 1) := by decide +kernel
theorem dX11_kindAt_156 : decode cX11_kindAt 156 = .ok (.istore 5, 2) := by decide +kernel
theorem dX11_kindAt_158 : decode cX11_kindAt 158 = .ok (.aload_n 0, 1) := by decide +kernel
theorem dX11_kindAt_159 : decode cX11_kindAt 159 = .ok (.getfield 23, 3) := by decide +kernel
theorem dX11_kindAt_162 : decode cX11_kindAt 162 = .ok (.iload_n 2, 1) := by decide +kernel
theorem dX11_kindAt_163 : decode cX11_kindAt 163 = .ok (.iload 5, 2) := by decide +kernel
theorem dX11_kindAt_165 : decode cX11_kindAt 165 = .ok (.ifCond .eq 7, 3) := by decide +kernel
theorem dX11_kindAt_168 : decode cX11_kindAt 168 = .ok (.iconst 2, 1) := by decide +kernel
theorem dX11_kindAt_169 : decode cX11_kindAt 169 = .ok (.goto 4, 3) := by decide +kernel
theorem dX11_kindAt_172 : decode cX11_kindAt 172 = .ok (.iconst 1, 1) := by decide +kernel
theorem dX11_kindAt_173 : decode cX11_kindAt 173 = .ok (.iastore, 1) := by decide +kernel
theorem dX11_kindAt_174 : decode cX11_kindAt 174 = .ok (.iload 5, 2) := by decide +kernel
theorem dX11_kindAt_176 : decode cX11_kindAt 176 = .ok (.ifCond .eq 19, 3) := by decide +kernel
theorem dX11_kindAt_179 : decode cX11_kindAt 179 = .ok (.iload_n 3, 1) := by decide +kernel
theorem dX11_kindAt_180 : decode cX11_kindAt 180 = .ok (.bipush 60, 2) := by decide +kernel
theorem dX11_kindAt_182 : decode cX11_kindAt 182 = .ok (.if_icmp .ne 9, 3) := by decide +kernel
theorem dX11_kindAt_185 : decode cX11_kindAt 185 = .ok (.sipush 300, 3) := by decide +kernel
theorem dX11_kindAt_188 : decode cX11_kindAt 188 = .ok (.goto 6, 3) := by decide +kernel
theorem dX11_kindAt_191 : decode cX11_kindAt 191 = .ok (.sipush 301, 3) := by decide +kernel
theorem dX11_kindAt_194 : decode cX11_kindAt 194 = .ok (.ireturn, 1) := by decide +kernel
theorem dX11_kindAt_195 : decode cX11_kindAt 195 = .ok (.iload_n 3, 1) := by decide +kernel
theorem dX11_kindAt_196 : decode cX11_kindAt 196 = .ok (.ifCond .le 27, 3) := by decide +kernel
theorem dX11_kindAt_199 : decode cX11_kindAt 199 = .ok (.iload_n 3, 1) := by decide +kernel
theorem dX11_kindAt_200 : decode cX11_kindAt 200 = .ok (.sipush 128, 3) := by decide +kernel
theorem dX11_kindAt_203 : decode cX11_kindAt 203 = .ok (.if_icmp .ge 20, 3) := by decide +kernel
theorem dX11_kindAt_206 : decode cX11_kindAt 206 = .ok (.ldc 109, 2) := by decide +kernel
theorem dX11_kindAt_208 : decode cX11_kindAt 208 = .ok (.iload_n 3, 1) := by decide +kernel
theorem dX11_kindAt_209 : decode cX11_kindAt 209 = .ok (.i2c, 1) := by decide +kernel
theorem dX11_kindAt_210 : decode cX11_kindAt 210 = .ok (.invokevirtual 111, 3) := by decide +kernel
theorem dX11_kindAt_213 : decode cX11_kindAt 213 = .ok (.ifCond .lt 10, 3) := by decide +kernel
theorem dX11_kindAt_216 : decode cX11_kindAt 216 = .ok (.bipush 50, 2) := by decide +kernel
theorem dX11_kindAt_218 : decode cX11_kindAt 218 = .ok (.iload_n 3, 1) := by decide +kernel
theorem dX11_kindAt_219 : decode cX11_kindAt 219 = .ok (.iadd, 1) := by decide +kernel
theorem dX11_kindAt_220 : decode cX11_kindAt 220 = .ok (.goto 6, 3) := by decide +kernel
theorem dX11_kindAt_223 : decode cX11_kindAt 223 = .ok (.sipush 901, 3) := by decide +kernel
theorem dX11_kindAt_226 : decode cX11_kindAt 226 = .ok (.ireturn, 1) := by decide +kernel
theorem dX11_word_0 : decode cX11_word 0 = .ok (.iconst 0, 1) := by decide +kernel
theorem dX11_word_1 : decode cX11_word 1 = .ok (.istore_n 3, 1) := by decide +kernel
theorem dX11_word_2 : decode cX11_word 2 = .ok (.iload_n 3, 1) := by decide +kernel
theorem dX11_word_3 : decode cX11_word 3 = .ok (.getstatic 116, 3) := by decide +kernel
theorem dX11_word_6 : decode cX11_word 6 = .ok (.arraylength, 1) := by decide +kernel
theorem dX11_word_7 : decode cX11_word 7 = .ok (.if_icmp .ge 84, 3) := by decide +kernel
theorem dX11_word_10 : decode cX11_word 10 = .ok (.getstatic 116, 3) := by decide +kernel
theorem dX11_word_13 : decode cX11_word 13 = .ok (.iload_n 3, 1) := by decide +kernel
theorem dX11_word_14 : decode cX11_word 14 = .ok (.aaload, 1) := by decide +kernel
theorem dX11_word_15 : decode cX11_word 15 = .ok (.invokevirtual 120, 3) := by decide +kernel
theorem dX11_word_18 : decode cX11_word 18 = .ok (.iload_n 2, 1) := by decide +kernel
theorem dX11_word_19 : decode cX11_word 19 = .ok (.if_icmp .ne 7, 3) := by decide +kernel
theorem dX11_word_22 : decode cX11_word 22 = .ok (.iconst 1, 1) := by decide +kernel
theorem dX11_word_23 : decode cX11_word 23 = .ok (.goto 4, 3) := by decide +kernel
theorem dX11_word_26 : decode cX11_word 26 = .ok (.iconst 0, 1) := by decide +kernel
theorem dX11_word_27 : decode cX11_word 27 = .ok (.istore 4, 2) := by decide +kernel
theorem dX11_word_29 : decode cX11_word 29 = .ok (.iconst 0, 1) := by decide +kernel
theorem dX11_word_30 : decode cX11_word 30 = .ok (.istore 5, 2) := by decide +kernel
theorem dX11_word_32 : decode cX11_word 32 = .ok (.iload 4, 2) := by decide +kernel
theorem dX11_word_34 : decode cX11_word 34 = .ok (.ifCond .eq 44, 3) := by decide +kernel
theorem dX11_word_37 : decode cX11_word 37 = .ok (.iload 5, 2) := by decide +kernel
theorem dX11_word_39 : decode cX11_word 39 = .ok (.iload_n 2, 1) := by decide +kernel
theorem dX11_word_40 : decode cX11_word 40 = .ok (.if_icmp .ge 38, 3) := by decide +kernel
theorem dX11_word_43 : decode cX11_word 43 = .ok (.getstatic 116, 3) := by decide +kernel
theorem dX11_word_46 : decode cX11_word 46 = .ok (.iload_n 3, 1) := by decide +kernel
theorem dX11_word_47 : decode cX11_word 47 = .ok (.aaload, 1) := by decide +kernel
theorem dX11_word_48 : decode cX11_word 48 = .ok (.iload 5, 2) := by decide +kernel
theorem dX11_word_50 : decode cX11_word 50 = .ok (.invokevirtual 124, 3) := by decide +kernel
theorem dX11_word_53 : decode cX11_word 53 = .ok (.aload_n 0, 1) := by decide +kernel
theorem dX11_word_54 : decode cX11_word 54 = .ok (.getfield 9, 3) := by decide +kernel
theorem dX11_word_57 : decode cX11_word 57 = .ok (.iload_n 1, 1) := by decide +kernel
theorem dX11_word_58 : decode cX11_word 58 = .ok (.iload 5, 2) := by decide +kernel
theorem dX11_word_60 : decode cX11_word 60 = .ok (.iadd, 1) := by decide +kernel
theorem dX11_word_61 : decode cX11_word 61 = .ok (.iaload, 1) := by decide +kernel
theorem dX11_word_62 : decode cX11_word 62 = .ok (.if_icmp .ne 7, 3) := by decide +kernel
theorem dX11_word_65 : decode cX11_word 65 = .ok (.iconst 1, 1) := by decide +kernel
theorem dX11_word_66 : decode cX11_word 66 = .ok (.goto 4, 3) := by decide +kernel
theorem dX11_word_69 : decode cX11_word 69 = .ok (.iconst 0, 1) := by decide +kernel
theorem dX11_word_70 : decode cX11_word 70 = .ok (.istore 4, 2) := by decide +kernel
theorem dX11_word_72 : decode cX11_word 72 = .ok (.iinc 5 1, 3) := by decide +kernel
theorem dX11_word_75 : decode cX11_word 75 = .ok (.goto (-43), 3) := by decide +kernel
theorem dX11_word_78 : decode cX11_word 78 = .ok (.iload 4, 2) := by decide +kernel
theorem dX11_word_80 : decode cX11_word 80 = .ok (.ifCond .eq 5, 3) := by decide +kernel
theorem dX11_word_83 : decode cX11_word 83 = .ok (.iload_n 3, 1) := by decide +kernel
theorem dX11_word_84 : decode cX11_word 84 = .ok (.ireturn, 1) := by decide +kernel
theorem dX11_word_85 : decode cX11_word 85 = .ok (.iinc 3 1, 3) := by decide +kernel
theorem dX11_word_88 : decode cX11_word 88 = .ok (.goto (-86), 3) := by decide +kernel
theorem dX11_word_91 : decode cX11_word 91 = .ok (.bipush 40, 2) := by decide +kernel
theorem dX11_word_93 : decode cX11_word 93 = .ok (.ireturn, 1) := by decide +kernel
theorem dX11_cut_0 : decode cX11_cut 0 = .ok (.iconst 0, 1) := by decide +kernel
theorem dX11_cut_1 : decode cX11_cut 1 = .ok (.istore_n 1, 1) := by decide +kernel
theorem dX11_cut_2 : decode cX11_cut 2 = .ok (.iconst 0, 1) := by decide +kernel
theorem dX11_cut_3 : decode cX11_cut 3 = .ok (.istore_n 2, 1) := by decide +kernel
theorem dX11_cut_4 : decode cX11_cut 4 = .ok (.iload_n 2, 1) := by decide +kernel
theorem dX11_cut_5 : decode cX11_cut 5 = .ok (.sipush 400, 3) := by decide +kernel
theorem dX11_cut_8 : decode cX11_cut 8 = .ok (.if_icmp .gt 118, 3) := by decide +kernel
theorem dX11_cut_11 : decode cX11_cut 11 = .ok (.aload_n 0, 1) := by decide +kernel
theorem dX11_cut_12 : decode cX11_cut 12 = .ok (.iload_n 1, 1) := by decide +kernel
theorem dX11_cut_13 : decode cX11_cut 13 = .ok (.invokevirtual 96, 3) := by decide +kernel
theorem dX11_cut_16 : decode cX11_cut 16 = .ok (.bipush 32, 2) := by decide +kernel
theorem dX11_cut_18 : decode cX11_cut 18 = .ok (.if_icmp .eq 13, 3) := by decide +kernel
theorem dX11_cut_21 : decode cX11_cut 21 = .ok (.aload_n 0, 1) := by decide +kernel
theorem dX11_cut_22 : decode cX11_cut 22 = .ok (.iload_n 1, 1) := by decide +kernel
theorem dX11_cut_23 : decode cX11_cut 23 = .ok (.invokevirtual 96, 3) := by decide +kernel
theorem dX11_cut_26 : decode cX11_cut 26 = .ok (.bipush 10, 2) := by decide +kernel
theorem dX11_cut_28 : decode cX11_cut 28 = .ok (.if_icmp .ne 9, 3) := by decide +kernel
theorem dX11_cut_31 : decode cX11_cut 31 = .ok (.iinc 1 1, 3) := by decide +kernel
theorem dX11_cut_34 : decode cX11_cut 34 = .ok (.goto (-23), 3) := by decide +kernel
theorem dX11_cut_37 : decode cX11_cut 37 = .ok (.aload_n 0, 1) := by decide +kernel
theorem dX11_cut_38 : decode cX11_cut 38 = .ok (.getfield 20, 3) := by decide +kernel
theorem dX11_cut_41 : decode cX11_cut 41 = .ok (.iload_n 2, 1) := by decide +kernel
theorem dX11_cut_42 : decode cX11_cut 42 = .ok (.iload_n 1, 1) := by decide +kernel
theorem dX11_cut_43 : decode cX11_cut 43 = .ok (.iastore, 1) := by decide +kernel
theorem dX11_cut_44 : decode cX11_cut 44 = .ok (.aload_n 0, 1) := by decide +kernel
theorem dX11_cut_45 : decode cX11_cut 45 = .ok (.getfield 26, 3) := by decide +kernel
theorem dX11_cut_48 : decode cX11_cut 48 = .ok (.iload_n 2, 1) := by decide +kernel
theorem dX11_cut_49 : decode cX11_cut 49 = .ok (.iconst 0, 1) := by decide +kernel
theorem dX11_cut_50 : decode cX11_cut 50 = .ok (.iastore, 1) := by decide +kernel
theorem dX11_cut_51 : decode cX11_cut 51 = .ok (.aload_n 0, 1) := by decide +kernel
theorem dX11_cut_52 : decode cX11_cut 52 = .ok (.getfield 29, 3) := by decide +kernel
theorem dX11_cut_55 : decode cX11_cut 55 = .ok (.iload_n 2, 1) := by decide +kernel
theorem dX11_cut_56 : decode cX11_cut 56 = .ok (.iconst 0, 1) := by decide +kernel
theorem dX11_cut_57 : decode cX11_cut 57 = .ok (.iastore, 1) := by decide +kernel
theorem dX11_cut_58 : decode cX11_cut 58 = .ok (.aload_n 0, 1) := by decide +kernel
theorem dX11_cut_59 : decode cX11_cut 59 = .ok (.getfield 17, 3) := by decide +kernel
theorem dX11_cut_62 : decode cX11_cut 62 = .ok (.iload_n 2, 1) := by decide +kernel
theorem dX11_cut_63 : decode cX11_cut 63 = .ok (.aload_n 0, 1) := by decide +kernel
theorem dX11_cut_64 : decode cX11_cut 64 = .ok (.iload_n 1, 1) := by decide +kernel
theorem dX11_cut_65 : decode cX11_cut 65 = .ok (.iload_n 2, 1) := by decide +kernel
theorem dX11_cut_66 : decode cX11_cut 66 = .ok (.invokevirtual 128, 3) := by decide +kernel
theorem dX11_cut_69 : decode cX11_cut 69 = .ok (.iastore, 1) := by decide +kernel
theorem dX11_cut_70 : decode cX11_cut 70 = .ok (.iload_n 2, 1) := by decide +kernel
theorem dX11_cut_71 : decode cX11_cut 71 = .ok (.sipush 400, 3) := by decide +kernel
theorem dX11_cut_74 : decode cX11_cut 74 = .ok (.if_icmp .ne 24, 3) := by decide +kernel
theorem dX11_cut_77 : decode cX11_cut 77 = .ok (.aload_n 0, 1) := by decide +kernel
theorem dX11_cut_78 : decode cX11_cut 78 = .ok (.getfield 17, 3) := by decide +kernel
theorem dX11_cut_81 : decode cX11_cut 81 = .ok (.iload_n 2, 1) := by decide +kernel
theorem dX11_cut_82 : decode cX11_cut 82 = .ok (.iaload, 1) := by decide +kernel
theorem dX11_cut_83 : decode cX11_cut 83 = .ok (.sipush 900, 3) := by decide +kernel
theorem dX11_cut_86 : decode cX11_cut 86 = .ok (.if_icmp .eq 12, 3) := by decide +kernel
theorem dX11_cut_89 : decode cX11_cut 89 = .ok (.aload_n 0, 1) := by decide +kernel
theorem dX11_cut_90 : decode cX11_cut 90 = .ok (.getfield 17, 3) := by decide +kernel
theorem dX11_cut_93 : decode cX11_cut 93 = .ok (.iload_n 2, 1) := by decide +kernel
theorem dX11_cut_94 : decode cX11_cut 94 = .ok (.sipush 901, 3) := by decide +kernel
theorem dX11_cut_97 : decode cX11_cut 97 = .ok (.iastore, 1) := by decide +kernel
theorem dX11_cut_98 : decode cX11_cut 98 = .ok (.aload_n 0, 1) := by decide +kernel
theorem dX11_cut_99 : decode cX11_cut 99 = .ok (.getfield 17, 3) := by decide +kernel
theorem dX11_cut_102 : decode cX11_cut 102 = .ok (.iload_n 2, 1) := by decide +kernel
theorem dX11_cut_103 : decode cX11_cut 103 = .ok (.iaload, 1) := by decide +kernel
theorem dX11_cut_104 : decode cX11_cut 104 = .ok (.sipush 900, 3) := by decide +kernel
theorem dX11_cut_107 : decode cX11_cut 107 = .ok (.if_icmp .lt 4, 3) := by decide +kernel
theorem dX11_cut_110 : decode cX11_cut 110 = .ok (.return_, 1) := by decide +kernel
theorem dX11_cut_111 : decode cX11_cut 111 = .ok (.iload_n 1, 1) := by decide +kernel
theorem dX11_cut_112 : decode cX11_cut 112 = .ok (.aload_n 0, 1) := by decide +kernel
theorem dX11_cut_113 : decode cX11_cut 113 = .ok (.getfield 23, 3) := by decide +kernel
theorem dX11_cut_116 : decode cX11_cut 116 = .ok (.iload_n 2, 1) := by decide +kernel
theorem dX11_cut_117 : decode cX11_cut 117 = .ok (.iaload, 1) := by decide +kernel
theorem dX11_cut_118 : decode cX11_cut 118 = .ok (.iadd, 1) := by decide +kernel
theorem dX11_cut_119 : decode cX11_cut 119 = .ok (.istore_n 1, 1) := by decide +kernel
theorem dX11_cut_120 : decode cX11_cut 120 = .ok (.iinc 2 1, 3) := by decide +kernel
theorem dX11_cut_123 : decode cX11_cut 123 = .ok (.goto (-119), 3) := by decide +kernel
theorem dX11_cut_126 : decode cX11_cut 126 = .ok (.return_, 1) := by decide +kernel
theorem dX11_is_0 : decode cX11_is 0 = .ok (.aload_n 0, 1) := by decide +kernel
theorem dX11_is_1 : decode cX11_is 1 = .ok (.getfield 17, 3) := by decide +kernel
theorem dX11_is_4 : decode cX11_is 4 = .ok (.aload_n 0, 1) := by decide +kernel
theorem dX11_is_5 : decode cX11_is 5 = .ok (.getfield 131, 3) := by decide +kernel
theorem dX11_is_8 : decode cX11_is 8 = .ok (.iaload, 1) := by decide +kernel
theorem dX11_is_9 : decode cX11_is 9 = .ok (.iload_n 1, 1) := by decide +kernel
theorem dX11_is_10 : decode cX11_is 10 = .ok (.if_icmp .ne 7, 3) := by decide +kernel
theorem dX11_is_13 : decode cX11_is 13 = .ok (.iconst 1, 1) := by decide +kernel
theorem dX11_is_14 : decode cX11_is 14 = .ok (.goto 4, 3) := by decide +kernel
theorem dX11_is_17 : decode cX11_is 17 = .ok (.iconst 0, 1) := by decide +kernel
theorem dX11_is_18 : decode cX11_is 18 = .ok (.ireturn, 1) := by decide +kernel
theorem dX11_isSign_0 : decode cX11_isSign 0 = .ok (.aload_n 0, 1) := by decide +kernel
theorem dX11_isSign_1 : decode cX11_isSign 1 = .ok (.getfield 17, 3) := by decide +kernel
theorem dX11_isSign_4 : decode cX11_isSign 4 = .ok (.aload_n 0, 1) := by decide +kernel
theorem dX11_isSign_5 : decode cX11_isSign 5 = .ok (.getfield 131, 3) := by decide +kernel
theorem dX11_isSign_8 : decode cX11_isSign 8 = .ok (.iaload, 1) := by decide +kernel
theorem dX11_isSign_9 : decode cX11_isSign 9 = .ok (.bipush 50, 2) := by decide +kernel
theorem dX11_isSign_11 : decode cX11_isSign 11 = .ok (.iload_n 1, 1) := by decide +kernel
theorem dX11_isSign_12 : decode cX11_isSign 12 = .ok (.iadd, 1) := by decide +kernel
theorem dX11_isSign_13 : decode cX11_isSign 13 = .ok (.if_icmp .ne 7, 3) := by decide +kernel
theorem dX11_isSign_16 : decode cX11_isSign 16 = .ok (.iconst 1, 1) := by decide +kernel
theorem dX11_isSign_17 : decode cX11_isSign 17 = .ok (.goto 4, 3) := by decide +kernel
theorem dX11_isSign_20 : decode cX11_isSign 20 = .ok (.iconst 0, 1) := by decide +kernel
theorem dX11_isSign_21 : decode cX11_isSign 21 = .ok (.ireturn, 1) := by decide +kernel
theorem dX11_eat_0 : decode cX11_eat 0 = .ok (.aload_n 0, 1) := by decide +kernel
theorem dX11_eat_1 : decode cX11_eat 1 = .ok (.iload_n 1, 1) := by decide +kernel
theorem dX11_eat_2 : decode cX11_eat 2 = .ok (.invokevirtual 134, 3) := by decide +kernel
theorem dX11_eat_5 : decode cX11_eat 5 = .ok (.ifCond .ne 5, 3) := by decide +kernel
theorem dX11_eat_8 : decode cX11_eat 8 = .ok (.iconst 0, 1) := by decide +kernel
theorem dX11_eat_9 : decode cX11_eat 9 = .ok (.ireturn, 1) := by decide +kernel
theorem dX11_eat_10 : decode cX11_eat 10 = .ok (.aload_n 0, 1) := by decide +kernel
theorem dX11_eat_11 : decode cX11_eat 11 = .ok (.dup, 1) := by decide +kernel
theorem dX11_eat_12 : decode cX11_eat 12 = .ok (.getfield 131, 3) := by decide +kernel
theorem dX11_eat_15 : decode cX11_eat 15 = .ok (.iconst 1, 1) := by decide +kernel
theorem dX11_eat_16 : decode cX11_eat 16 = .ok (.iadd, 1) := by decide +kernel
theorem dX11_eat_17 : decode cX11_eat 17 = .ok (.putfield 131, 3) := by decide +kernel
theorem dX11_eat_20 : decode cX11_eat 20 = .ok (.iconst 1, 1) := by decide +kernel
theorem dX11_eat_21 : decode cX11_eat 21 = .ok (.ireturn, 1) := by decide +kernel
theorem dX11_eatSign_0 : decode cX11_eatSign 0 = .ok (.aload_n 0, 1) := by decide +kernel
theorem dX11_eatSign_1 : decode cX11_eatSign 1 = .ok (.bipush 50, 2) := by decide +kernel
theorem dX11_eatSign_3 : decode cX11_eatSign 3 = .ok (.iload_n 1, 1) := by decide +kernel
theorem dX11_eatSign_4 : decode cX11_eatSign 4 = .ok (.iadd, 1) := by decide +kernel
theorem dX11_eatSign_5 : decode cX11_eatSign 5 = .ok (.invokevirtual 137, 3) := by decide +kernel
theorem dX11_eatSign_8 : decode cX11_eatSign 8 = .ok (.ireturn, 1) := by decide +kernel
theorem dX11_eatAs_0 : decode cX11_eatAs 0 = .ok (.aload_n 0, 1) := by decide +kernel
theorem dX11_eatAs_1 : decode cX11_eatAs 1 = .ok (.getfield 26, 3) := by decide +kernel
theorem dX11_eatAs_4 : decode cX11_eatAs 4 = .ok (.aload_n 0, 1) := by decide +kernel
theorem dX11_eatAs_5 : decode cX11_eatAs 5 = .ok (.getfield 131, 3) := by decide +kernel
theorem dX11_eatAs_8 : decode cX11_eatAs 8 = .ok (.iload_n 2, 1) := by decide +kernel
theorem dX11_eatAs_9 : decode cX11_eatAs 9 = .ok (.iastore, 1) := by decide +kernel
theorem dX11_eatAs_10 : decode cX11_eatAs 10 = .ok (.aload_n 0, 1) := by decide +kernel
theorem dX11_eatAs_11 : decode cX11_eatAs 11 = .ok (.iload_n 1, 1) := by decide +kernel
theorem dX11_eatAs_12 : decode cX11_eatAs 12 = .ok (.invokevirtual 137, 3) := by decide +kernel
theorem dX11_eatAs_15 : decode cX11_eatAs 15 = .ok (.ireturn, 1) := by decide +kernel
theorem dX11_put_0 : decode cX11_put 0 = .ok (.aload_n 0, 1) := by decide +kernel
theorem dX11_put_1 : decode cX11_put 1 = .ok (.getfield 39, 3) := by decide +kernel
theorem dX11_put_4 : decode cX11_put 4 = .ok (.getfield 140, 3) := by decide +kernel
theorem dX11_put_7 : decode cX11_put 7 = .ok (.aload_n 0, 1) := by decide +kernel
theorem dX11_put_8 : decode cX11_put 8 = .ok (.getfield 39, 3) := by decide +kernel
theorem dX11_put_11 : decode cX11_put 11 = .ok (.getfield 143, 3) := by decide +kernel
theorem dX11_put_14 : decode cX11_put 14 = .ok (.iload_n 1, 1) := by decide +kernel
theorem dX11_put_15 : decode cX11_put 15 = .ok (.iastore, 1) := by decide +kernel
theorem dX11_put_16 : decode cX11_put 16 = .ok (.aload_n 0, 1) := by decide +kernel
theorem dX11_put_17 : decode cX11_put 17 = .ok (.getfield 39, 3) := by decide +kernel
theorem dX11_put_20 : decode cX11_put 20 = .ok (.dup, 1) := by decide +kernel
theorem dX11_put_21 : decode cX11_put 21 = .ok (.getfield 143, 3) := by decide +kernel
theorem dX11_put_24 : decode cX11_put 24 = .ok (.iconst 1, 1) := by decide +kernel
theorem dX11_put_25 : decode cX11_put 25 = .ok (.iadd, 1) := by decide +kernel
theorem dX11_put_26 : decode cX11_put 26 = .ok (.putfield 143, 3) := by decide +kernel
theorem dX11_put_29 : decode cX11_put 29 = .ok (.return_, 1) := by decide +kernel
theorem dX11_isBook_0 : decode cX11_isBook 0 = .ok (.aload_n 0, 1) := by decide +kernel
theorem dX11_isBook_1 : decode cX11_isBook 1 = .ok (.sipush 900, 3) := by decide +kernel
theorem dX11_isBook_4 : decode cX11_isBook 4 = .ok (.invokevirtual 134, 3) := by decide +kernel
theorem dX11_isBook_7 : decode cX11_isBook 7 = .ok (.ifCond .ne 21, 3) := by decide +kernel
theorem dX11_isBook_10 : decode cX11_isBook 10 = .ok (.aload_n 0, 1) := by decide +kernel
theorem dX11_isBook_11 : decode cX11_isBook 11 = .ok (.invokevirtual 144, 3) := by decide +kernel
theorem dX11_isBook_14 : decode cX11_isBook 14 = .ok (.ifCond .eq 12, 3) := by decide +kernel
theorem dX11_isBook_17 : decode cX11_isBook 17 = .ok (.aload_n 0, 1) := by decide +kernel
theorem dX11_isBook_18 : decode cX11_isBook 18 = .ok (.bipush 59, 2) := by decide +kernel
theorem dX11_isBook_20 : decode cX11_isBook 20 = .ok (.invokevirtual 148, 3) := by decide +kernel
theorem dX11_isBook_23 : decode cX11_isBook 23 = .ok (.ifCond .ne (-23), 3) := by decide +kernel
theorem dX11_isBook_26 : decode cX11_isBook 26 = .ok (.iconst 0, 1) := by decide +kernel
theorem dX11_isBook_27 : decode cX11_isBook 27 = .ok (.ireturn, 1) := by decide +kernel
theorem dX11_isBook_28 : decode cX11_isBook 28 = .ok (.iconst 1, 1) := by decide +kernel
theorem dX11_isBook_29 : decode cX11_isBook 29 = .ok (.ireturn, 1) := by decide +kernel
theorem dX11_isLine_0 : decode cX11_isLine 0 = .ok (.aload_n 0, 1) := by decide +kernel
theorem dX11_isLine_1 : decode cX11_isLine 1 = .ok (.iconst 0, 1) := by decide +kernel
theorem dX11_isLine_2 : decode cX11_isLine 2 = .ok (.invokevirtual 137, 3) := by decide +kernel
theorem dX11_isLine_5 : decode cX11_isLine 5 = .ok (.ifCond .eq 38, 3) := by decide +kernel
theorem dX11_isLine_8 : decode cX11_isLine 8 = .ok (.aload_n 0, 1) := by decide +kernel
theorem dX11_isLine_9 : decode cX11_isLine 9 = .ok (.bipush 40, 2) := by decide +kernel
theorem dX11_isLine_11 : decode cX11_isLine 11 = .ok (.iconst 1, 1) := by decide +kernel
theorem dX11_isLine_12 : decode cX11_isLine 12 = .ok (.invokevirtual 152, 3) := by decide +kernel
theorem dX11_isLine_15 : decode cX11_isLine 15 = .ok (.ifCond .eq 26, 3) := by decide +kernel
theorem dX11_isLine_18 : decode cX11_isLine 18 = .ok (.aload_n 0, 1) := by decide +kernel
theorem dX11_isLine_19 : decode cX11_isLine 19 = .ok (.iconst 1, 1) := by decide +kernel
theorem dX11_isLine_20 : decode cX11_isLine 20 = .ok (.invokevirtual 137, 3) := by decide +kernel
theorem dX11_isLine_23 : decode cX11_isLine 23 = .ok (.ifCond .eq 18, 3) := by decide +kernel
theorem dX11_isLine_26 : decode cX11_isLine 26 = .ok (.aload_n 0, 1) := by decide +kernel
theorem dX11_isLine_27 : decode cX11_isLine 27 = .ok (.bipush 41, 2) := by decide +kernel
theorem dX11_isLine_29 : decode cX11_isLine 29 = .ok (.bipush 8, 2) := by decide +kernel
theorem dX11_isLine_31 : decode cX11_isLine 31 = .ok (.invokevirtual 152, 3) := by decide +kernel
theorem dX11_isLine_34 : decode cX11_isLine 34 = .ok (.ifCond .eq 7, 3) := by decide +kernel
theorem dX11_isLine_37 : decode cX11_isLine 37 = .ok (.iconst 1, 1) := by decide +kernel
theorem dX11_isLine_38 : decode cX11_isLine 38 = .ok (.goto 4, 3) := by decide +kernel
theorem dX11_isLine_41 : decode cX11_isLine 41 = .ok (.iconst 0, 1) := by decide +kernel
theorem dX11_isLine_42 : decode cX11_isLine 42 = .ok (.ireturn, 1) := by decide +kernel
theorem dX11_isLine_43 : decode cX11_isLine 43 = .ok (.aload_n 0, 1) := by decide +kernel
theorem dX11_isLine_44 : decode cX11_isLine 44 = .ok (.iconst 2, 1) := by decide +kernel
theorem dX11_isLine_45 : decode cX11_isLine 45 = .ok (.invokevirtual 137, 3) := by decide +kernel
theorem dX11_isLine_48 : decode cX11_isLine 48 = .ok (.ifCond .ne 17, 3) := by decide +kernel
theorem dX11_isLine_51 : decode cX11_isLine 51 = .ok (.aload_n 0, 1) := by decide +kernel
theorem dX11_isLine_52 : decode cX11_isLine 52 = .ok (.aload_n 0, 1) := by decide +kernel
theorem dX11_isLine_53 : decode cX11_isLine 53 = .ok (.getfield 17, 3) := by decide +kernel
theorem dX11_isLine_56 : decode cX11_isLine 56 = .ok (.aload_n 0, 1) := by decide +kernel
theorem dX11_isLine_57 : decode cX11_isLine 57 = .ok (.getfield 131, 3) := by decide +kernel
theorem dX11_isLine_60 : decode cX11_isLine 60 = .ok (.iaload, 1) := by decide +kernel
theorem dX11_isLine_61 : decode cX11_isLine 61 = .ok (.invokevirtual 156, 3) := by decide +kernel
theorem dX11_isLine_64 : decode cX11_isLine 64 = .ok (.ireturn, 1) := by decide +kernel
theorem dX11_isLine_65 : decode cX11_isLine 65 = .ok (.aload_n 0, 1) := by decide +kernel
theorem dX11_isLine_66 : decode cX11_isLine 66 = .ok (.bipush 40, 2) := by decide +kernel
theorem dX11_isLine_68 : decode cX11_isLine 68 = .ok (.iconst 2, 1) := by decide +kernel
theorem dX11_isLine_69 : decode cX11_isLine 69 = .ok (.invokevirtual 152, 3) := by decide +kernel
theorem dX11_isLine_72 : decode cX11_isLine 72 = .ok (.ifCond .eq 18, 3) := by decide +kernel
theorem dX11_isLine_75 : decode cX11_isLine 75 = .ok (.aload_n 0, 1) := by decide +kernel
theorem dX11_isLine_76 : decode cX11_isLine 76 = .ok (.iconst 3, 1) := by decide +kernel
theorem dX11_isLine_77 : decode cX11_isLine 77 = .ok (.invokevirtual 137, 3) := by decide +kernel
theorem dX11_isLine_80 : decode cX11_isLine 80 = .ok (.ifCond .eq 10, 3) := by decide +kernel
theorem dX11_isLine_83 : decode cX11_isLine 83 = .ok (.aload_n 0, 1) := by decide +kernel
theorem dX11_isLine_84 : decode cX11_isLine 84 = .ok (.invokevirtual 159, 3) := by decide +kernel
theorem dX11_isLine_87 : decode cX11_isLine 87 = .ok (.ifCond .ne 5, 3) := by decide +kernel
theorem dX11_isLine_90 : decode cX11_isLine 90 = .ok (.iconst 0, 1) := by decide +kernel
theorem dX11_isLine_91 : decode cX11_isLine 91 = .ok (.ireturn, 1) := by decide +kernel
theorem dX11_isLine_92 : decode cX11_isLine 92 = .ok (.aload_n 0, 1) := by decide +kernel
theorem dX11_isLine_93 : decode cX11_isLine 93 = .ok (.bipush 44, 2) := by decide +kernel
theorem dX11_isLine_95 : decode cX11_isLine 95 = .ok (.invokevirtual 148, 3) := by decide +kernel
theorem dX11_isLine_98 : decode cX11_isLine 98 = .ok (.ifCond .eq 12, 3) := by decide +kernel
theorem dX11_isLine_101 : decode cX11_isLine 101 = .ok (.aload_n 0, 1) := by decide +kernel
theorem dX11_isLine_102 : decode cX11_isLine 102 = .ok (.invokevirtual 159, 3) := by decide +kernel
theorem dX11_isLine_105 : decode cX11_isLine 105 = .ok (.ifCond .ne (-13), 3) := by decide +kernel
theorem dX11_isLine_108 : decode cX11_isLine 108 = .ok (.iconst 0, 1) := by decide +kernel
theorem dX11_isLine_109 : decode cX11_isLine 109 = .ok (.ireturn, 1) := by decide +kernel
theorem dX11_isLine_110 : decode cX11_isLine 110 = .ok (.iconst 1, 1) := by decide +kernel
theorem dX11_isLine_111 : decode cX11_isLine 111 = .ok (.ireturn, 1) := by decide +kernel
theorem dX11_isPartOfDeal_0 : decode cX11_isPartOfDeal 0 = .ok (.aload_n 0, 1) := by decide +kernel
theorem dX11_isPartOfDeal_1 : decode cX11_isPartOfDeal 1 = .ok (.bipush 40, 2) := by decide +kernel
theorem dX11_isPartOfDeal_3 : decode cX11_isPartOfDeal 3 = .ok (.iconst 4, 1) := by decide +kernel
theorem dX11_isPartOfDeal_4 : decode cX11_isPartOfDeal 4 = .ok (.invokevirtual 152, 3) := by decide +kernel
theorem dX11_isPartOfDeal_7 : decode cX11_isPartOfDeal 7 = .ok (.ifCond .eq 34, 3) := by decide +kernel
theorem dX11_isPartOfDeal_10 : decode cX11_isPartOfDeal 10 = .ok (.aload_n 0, 1) := by decide +kernel
theorem dX11_isPartOfDeal_11 : decode cX11_isPartOfDeal 11 = .ok (.iconst 4, 1) := by decide +kernel
theorem dX11_isPartOfDeal_12 : decode cX11_isPartOfDeal 12 = .ok (.invokevirtual 137, 3) := by decide +kernel
theorem dX11_isPartOfDeal_15 : decode cX11_isPartOfDeal 15 = .ok (.ifCond .ne 11, 3) := by decide +kernel
theorem dX11_isPartOfDeal_18 : decode cX11_isPartOfDeal 18 = .ok (.aload_n 0, 1) := by decide +kernel
theorem dX11_isPartOfDeal_19 : decode cX11_isPartOfDeal 19 = .ok (.iconst 5, 1) := by decide +kernel
theorem dX11_isPartOfDeal_20 : decode cX11_isPartOfDeal 20 = .ok (.invokevirtual 137, 3) := by decide +kernel
theorem dX11_isPartOfDeal_23 : decode cX11_isPartOfDeal 23 = .ok (.ifCond .eq 18, 3) := by decide +kernel
theorem dX11_isPartOfDeal_26 : decode cX11_isPartOfDeal 26 = .ok (.aload_n 0, 1) := by decide +kernel
theorem dX11_isPartOfDeal_27 : decode cX11_isPartOfDeal 27 = .ok (.bipush 41, 2) := by decide +kernel
theorem dX11_isPartOfDeal_29 : decode cX11_isPartOfDeal 29 = .ok (.bipush 9, 2) := by decide +kernel
theorem dX11_isPartOfDeal_31 : decode cX11_isPartOfDeal 31 = .ok (.invokevirtual 152, 3) := by decide +kernel
theorem dX11_isPartOfDeal_34 : decode cX11_isPartOfDeal 34 = .ok (.ifCond .eq 7, 3) := by decide +kernel
theorem dX11_isPartOfDeal_37 : decode cX11_isPartOfDeal 37 = .ok (.iconst 1, 1) := by decide +kernel
theorem dX11_isPartOfDeal_38 : decode cX11_isPartOfDeal 38 = .ok (.goto 4, 3) := by decide +kernel
theorem dX11_isPartOfDeal_41 : decode cX11_isPartOfDeal 41 = .ok (.iconst 0, 1) := by decide +kernel
theorem dX11_isPartOfDeal_42 : decode cX11_isPartOfDeal 42 = .ok (.ireturn, 1) := by decide +kernel
theorem dX11_isOrder_0 : decode cX11_isOrder 0 = .ok (.iload_n 1, 1) := by decide +kernel
theorem dX11_isOrder_1 : decode cX11_isOrder 1 = .ok (.bipush 6, 2) := by decide +kernel
theorem dX11_isOrder_3 : decode cX11_isOrder 3 = .ok (.if_icmp .eq 17, 3) := by decide +kernel
theorem dX11_isOrder_6 : decode cX11_isOrder 6 = .ok (.iload_n 1, 1) := by decide +kernel
theorem dX11_isOrder_7 : decode cX11_isOrder 7 = .ok (.bipush 7, 2) := by decide +kernel
theorem dX11_isOrder_9 : decode cX11_isOrder 9 = .ok (.if_icmp .eq 11, 3) := by decide +kernel
theorem dX11_isOrder_12 : decode cX11_isOrder 12 = .ok (.iload_n 1, 1) := by decide +kernel
theorem dX11_isOrder_13 : decode cX11_isOrder 13 = .ok (.bipush 8, 2) := by decide +kernel
theorem dX11_isOrder_15 : decode cX11_isOrder 15 = .ok (.if_icmp .eq 5, 3) := by decide +kernel
theorem dX11_isOrder_18 : decode cX11_isOrder 18 = .ok (.iconst 0, 1) := by decide +kernel
theorem dX11_isOrder_19 : decode cX11_isOrder 19 = .ok (.ireturn, 1) := by decide +kernel
theorem dX11_isOrder_20 : decode cX11_isOrder 20 = .ok (.aload_n 0, 1) := by decide +kernel
theorem dX11_isOrder_21 : decode cX11_isOrder 21 = .ok (.getfield 26, 3) := by decide +kernel
theorem dX11_isOrder_24 : decode cX11_isOrder 24 = .ok (.aload_n 0, 1) := by decide +kernel
theorem dX11_isOrder_25 : decode cX11_isOrder 25 = .ok (.getfield 131, 3) := by decide +kernel
theorem dX11_isOrder_28 : decode cX11_isOrder 28 = .ok (.iconst 3, 1) := by decide +kernel
theorem dX11_isOrder_29 : decode cX11_isOrder 29 = .ok (.iastore, 1) := by decide +kernel
theorem dX11_isOrder_30 : decode cX11_isOrder 30 = .ok (.aload_n 0, 1) := by decide +kernel
theorem dX11_isOrder_31 : decode cX11_isOrder 31 = .ok (.dup, 1) := by decide +kernel
theorem dX11_isOrder_32 : decode cX11_isOrder 32 = .ok (.getfield 131, 3) := by decide +kernel
theorem dX11_isOrder_35 : decode cX11_isOrder 35 = .ok (.iconst 1, 1) := by decide +kernel
theorem dX11_isOrder_36 : decode cX11_isOrder 36 = .ok (.iadd, 1) := by decide +kernel
theorem dX11_isOrder_37 : decode cX11_isOrder 37 = .ok (.putfield 131, 3) := by decide +kernel
theorem dX11_isOrder_40 : decode cX11_isOrder 40 = .ok (.aload_n 0, 1) := by decide +kernel
theorem dX11_isOrder_41 : decode cX11_isOrder 41 = .ok (.getfield 39, 3) := by decide +kernel
theorem dX11_isOrder_44 : decode cX11_isOrder 44 = .ok (.getfield 162, 3) := by decide +kernel
theorem dX11_isOrder_47 : decode cX11_isOrder 47 = .ok (.bipush 16, 2) := by decide +kernel
theorem dX11_isOrder_49 : decode cX11_isOrder 49 = .ok (.invokestatic 84, 3) := by decide +kernel
theorem dX11_isOrder_52 : decode cX11_isOrder 52 = .ok (.istore_n 2, 1) := by decide +kernel
theorem dX11_isOrder_53 : decode cX11_isOrder 53 = .ok (.aload_n 0, 1) := by decide +kernel
theorem dX11_isOrder_54 : decode cX11_isOrder 54 = .ok (.getfield 39, 3) := by decide +kernel
theorem dX11_isOrder_57 : decode cX11_isOrder 57 = .ok (.dup, 1) := by decide +kernel
theorem dX11_isOrder_58 : decode cX11_isOrder 58 = .ok (.getfield 162, 3) := by decide +kernel
theorem dX11_isOrder_61 : decode cX11_isOrder 61 = .ok (.iconst 1, 1) := by decide +kernel
theorem dX11_isOrder_62 : decode cX11_isOrder 62 = .ok (.iadd, 1) := by decide +kernel
theorem dX11_isOrder_63 : decode cX11_isOrder 63 = .ok (.putfield 162, 3) := by decide +kernel
theorem dX11_isOrder_66 : decode cX11_isOrder 66 = .ok (.iload_n 1, 1) := by decide +kernel
theorem dX11_isOrder_67 : decode cX11_isOrder 67 = .ok (.bipush 6, 2) := by decide +kernel
theorem dX11_isOrder_69 : decode cX11_isOrder 69 = .ok (.if_icmp .eq 12, 3) := by decide +kernel
theorem dX11_isOrder_72 : decode cX11_isOrder 72 = .ok (.aload_n 0, 1) := by decide +kernel
theorem dX11_isOrder_73 : decode cX11_isOrder 73 = .ok (.bipush 9, 2) := by decide +kernel
theorem dX11_isOrder_75 : decode cX11_isOrder 75 = .ok (.invokevirtual 137, 3) := by decide +kernel
theorem dX11_isOrder_78 : decode cX11_isOrder 78 = .ok (.ifCond .ne 16, 3) := by decide +kernel
theorem dX11_isOrder_81 : decode cX11_isOrder 81 = .ok (.aload_n 0, 1) := by decide +kernel
theorem dX11_isOrder_82 : decode cX11_isOrder 82 = .ok (.bipush 40, 2) := by decide +kernel
theorem dX11_isOrder_84 : decode cX11_isOrder 84 = .ok (.bipush 7, 2) := by decide +kernel
theorem dX11_isOrder_86 : decode cX11_isOrder 86 = .ok (.invokevirtual 152, 3) := by decide +kernel
theorem dX11_isOrder_89 : decode cX11_isOrder 89 = .ok (.ifCond .ne 5, 3) := by decide +kernel
theorem dX11_isOrder_92 : decode cX11_isOrder 92 = .ok (.iconst 0, 1) := by decide +kernel
theorem dX11_isOrder_93 : decode cX11_isOrder 93 = .ok (.ireturn, 1) := by decide +kernel
theorem dX11_isOrder_94 : decode cX11_isOrder 94 = .ok (.aload_n 0, 1) := by decide +kernel
theorem dX11_isOrder_95 : decode cX11_isOrder 95 = .ok (.getfield 39, 3) := by decide +kernel
theorem dX11_isOrder_98 : decode cX11_isOrder 98 = .ok (.getfield 165, 3) := by decide +kernel
theorem dX11_isOrder_101 : decode cX11_isOrder 101 = .ok (.iload_n 2, 1) := by decide +kernel
theorem dX11_isOrder_102 : decode cX11_isOrder 102 = .ok (.aload_n 0, 1) := by decide +kernel
theorem dX11_isOrder_103 : decode cX11_isOrder 103 = .ok (.getfield 39, 3) := by decide +kernel
theorem dX11_isOrder_106 : decode cX11_isOrder 106 = .ok (.getfield 143, 3) := by decide +kernel
theorem dX11_isOrder_109 : decode cX11_isOrder 109 = .ok (.iastore, 1) := by decide +kernel
theorem dX11_isOrder_110 : decode cX11_isOrder 110 = .ok (.aload_n 0, 1) := by decide +kernel
theorem dX11_isOrder_111 : decode cX11_isOrder 111 = .ok (.bipush 10, 2) := by decide +kernel
theorem dX11_isOrder_113 : decode cX11_isOrder 113 = .ok (.invokevirtual 137, 3) := by decide +kernel
theorem dX11_isOrder_116 : decode cX11_isOrder 116 = .ok (.ifCond .eq 12, 3) := by decide +kernel
theorem dX11_isOrder_119 : decode cX11_isOrder 119 = .ok (.aload_n 0, 1) := by decide +kernel
theorem dX11_isOrder_120 : decode cX11_isOrder 120 = .ok (.invokevirtual 168, 3) := by decide +kernel
theorem dX11_isOrder_123 : decode cX11_isOrder 123 = .ok (.ifCond .ne 5, 3) := by decide +kernel
theorem dX11_isOrder_126 : decode cX11_isOrder 126 = .ok (.iconst 0, 1) := by decide +kernel
theorem dX11_isOrder_127 : decode cX11_isOrder 127 = .ok (.ireturn, 1) := by decide +kernel
theorem dX11_isOrder_128 : decode cX11_isOrder 128 = .ok (.aload_n 0, 1) := by decide +kernel
theorem dX11_isOrder_129 : decode cX11_isOrder 129 = .ok (.getfield 39, 3) := by decide +kernel
theorem dX11_isOrder_132 : decode cX11_isOrder 132 = .ok (.getfield 171, 3) := by decide +kernel
theorem dX11_isOrder_135 : decode cX11_isOrder 135 = .ok (.iload_n 2, 1) := by decide +kernel
theorem dX11_isOrder_136 : decode cX11_isOrder 136 = .ok (.aload_n 0, 1) := by decide +kernel
theorem dX11_isOrder_137 : decode cX11_isOrder 137 = .ok (.getfield 39, 3) := by decide +kernel
theorem dX11_isOrder_140 : decode cX11_isOrder 140 = .ok (.getfield 143, 3) := by decide +kernel
theorem dX11_isOrder_143 : decode cX11_isOrder 143 = .ok (.iastore, 1) := by decide +kernel
theorem dX11_isOrder_144 : decode cX11_isOrder 144 = .ok (.iconst 1, 1) := by decide +kernel
theorem dX11_isOrder_145 : decode cX11_isOrder 145 = .ok (.ireturn, 1) := by decide +kernel
theorem dX11_isTest_0 : decode cX11_isTest 0 = .ok (.aload_n 0, 1) := by decide +kernel
theorem dX11_isTest_1 : decode cX11_isTest 1 = .ok (.invokevirtual 174, 3) := by decide +kernel
theorem dX11_isTest_4 : decode cX11_isTest 4 = .ok (.ifCond .ne 5, 3) := by decide +kernel
theorem dX11_isTest_7 : decode cX11_isTest 7 = .ok (.iconst 0, 1) := by decide +kernel
theorem dX11_isTest_8 : decode cX11_isTest 8 = .ok (.ireturn, 1) := by decide +kernel
theorem dX11_isTest_9 : decode cX11_isTest 9 = .ok (.aload_n 0, 1) := by decide +kernel
theorem dX11_isTest_10 : decode cX11_isTest 10 = .ok (.bipush 19, 2) := by decide +kernel
theorem dX11_isTest_12 : decode cX11_isTest 12 = .ok (.invokevirtual 137, 3) := by decide +kernel
theorem dX11_isTest_15 : decode cX11_isTest 15 = .ok (.ifCond .eq 21, 3) := by decide +kernel
theorem dX11_isTest_18 : decode cX11_isTest 18 = .ok (.aload_n 0, 1) := by decide +kernel
theorem dX11_isTest_19 : decode cX11_isTest 19 = .ok (.invokevirtual 174, 3) := by decide +kernel
theorem dX11_isTest_22 : decode cX11_isTest 22 = .ok (.ifCond .ne 5, 3) := by decide +kernel
theorem dX11_isTest_25 : decode cX11_isTest 25 = .ok (.iconst 0, 1) := by decide +kernel
theorem dX11_isTest_26 : decode cX11_isTest 26 = .ok (.ireturn, 1) := by decide +kernel
theorem dX11_isTest_27 : decode cX11_isTest 27 = .ok (.aload_n 0, 1) := by decide +kernel
theorem dX11_isTest_28 : decode cX11_isTest 28 = .ok (.bipush 19, 2) := by decide +kernel
theorem dX11_isTest_30 : decode cX11_isTest 30 = .ok (.invokevirtual 177, 3) := by decide +kernel
theorem dX11_isTest_33 : decode cX11_isTest 33 = .ok (.goto (-24), 3) := by decide +kernel
theorem dX11_isTest_36 : decode cX11_isTest 36 = .ok (.iconst 1, 1) := by decide +kernel
theorem dX11_isTest_37 : decode cX11_isTest 37 = .ok (.ireturn, 1) := by decide +kernel
theorem dX11_isBoth_0 : decode cX11_isBoth 0 = .ok (.aload_n 0, 1) := by decide +kernel
theorem dX11_isBoth_1 : decode cX11_isBoth 1 = .ok (.invokevirtual 181, 3) := by decide +kernel
theorem dX11_isBoth_4 : decode cX11_isBoth 4 = .ok (.ifCond .ne 5, 3) := by decide +kernel
theorem dX11_isBoth_7 : decode cX11_isBoth 7 = .ok (.iconst 0, 1) := by decide +kernel
theorem dX11_isBoth_8 : decode cX11_isBoth 8 = .ok (.ireturn, 1) := by decide +kernel
theorem dX11_isBoth_9 : decode cX11_isBoth 9 = .ok (.aload_n 0, 1) := by decide +kernel
theorem dX11_isBoth_10 : decode cX11_isBoth 10 = .ok (.bipush 18, 2) := by decide +kernel
theorem dX11_isBoth_12 : decode cX11_isBoth 12 = .ok (.invokevirtual 137, 3) := by decide +kernel
theorem dX11_isBoth_15 : decode cX11_isBoth 15 = .ok (.ifCond .eq 21, 3) := by decide +kernel
theorem dX11_isBoth_18 : decode cX11_isBoth 18 = .ok (.aload_n 0, 1) := by decide +kernel
theorem dX11_isBoth_19 : decode cX11_isBoth 19 = .ok (.invokevirtual 181, 3) := by decide +kernel
theorem dX11_isBoth_22 : decode cX11_isBoth 22 = .ok (.ifCond .ne 5, 3) := by decide +kernel
theorem dX11_isBoth_25 : decode cX11_isBoth 25 = .ok (.iconst 0, 1) := by decide +kernel
theorem dX11_isBoth_26 : decode cX11_isBoth 26 = .ok (.ireturn, 1) := by decide +kernel
theorem dX11_isBoth_27 : decode cX11_isBoth 27 = .ok (.aload_n 0, 1) := by decide +kernel
theorem dX11_isBoth_28 : decode cX11_isBoth 28 = .ok (.bipush 18, 2) := by decide +kernel
theorem dX11_isBoth_30 : decode cX11_isBoth 30 = .ok (.invokevirtual 177, 3) := by decide +kernel
theorem dX11_isBoth_33 : decode cX11_isBoth 33 = .ok (.goto (-24), 3) := by decide +kernel
theorem dX11_isBoth_36 : decode cX11_isBoth 36 = .ok (.iconst 1, 1) := by decide +kernel
theorem dX11_isBoth_37 : decode cX11_isBoth 37 = .ok (.ireturn, 1) := by decide +kernel
theorem dX11_isDeeper_0 : decode cX11_isDeeper 0 = .ok (.aload_n 0, 1) := by decide +kernel
theorem dX11_isDeeper_1 : decode cX11_isDeeper 1 = .ok (.getfield 184, 3) := by decide +kernel
theorem dX11_isDeeper_4 : decode cX11_isDeeper 4 = .ok (.bipush 8, 2) := by decide +kernel
theorem dX11_isDeeper_6 : decode cX11_isDeeper 6 = .ok (.if_icmp .ne 5, 3) := by decide +kernel
theorem dX11_isDeeper_9 : decode cX11_isDeeper 9 = .ok (.iconst 0, 1) := by decide +kernel
theorem dX11_isDeeper_10 : decode cX11_isDeeper 10 = .ok (.ireturn, 1) := by decide +kernel
theorem dX11_isDeeper_11 : decode cX11_isDeeper 11 = .ok (.aload_n 0, 1) := by decide +kernel
theorem dX11_isDeeper_12 : decode cX11_isDeeper 12 = .ok (.dup, 1) := by decide +kernel
theorem dX11_isDeeper_13 : decode cX11_isDeeper 13 = .ok (.getfield 184, 3) := by decide +kernel
theorem dX11_isDeeper_16 : decode cX11_isDeeper 16 = .ok (.iconst 1, 1) := by decide +kernel
theorem dX11_isDeeper_17 : decode cX11_isDeeper 17 = .ok (.iadd, 1) := by decide +kernel
theorem dX11_isDeeper_18 : decode cX11_isDeeper 18 = .ok (.putfield 184, 3) := by decide +kernel
theorem dX11_isDeeper_21 : decode cX11_isDeeper 21 = .ok (.aload_n 0, 1) := by decide +kernel
theorem dX11_isDeeper_22 : decode cX11_isDeeper 22 = .ok (.dup, 1) := by decide +kernel
theorem dX11_isDeeper_23 : decode cX11_isDeeper 23 = .ok (.getfield 131, 3) := by decide +kernel
theorem dX11_isDeeper_26 : decode cX11_isDeeper 26 = .ok (.iconst 1, 1) := by decide +kernel
theorem dX11_isDeeper_27 : decode cX11_isDeeper 27 = .ok (.iadd, 1) := by decide +kernel
theorem dX11_isDeeper_28 : decode cX11_isDeeper 28 = .ok (.putfield 131, 3) := by decide +kernel
theorem dX11_isDeeper_31 : decode cX11_isDeeper 31 = .ok (.iconst 1, 1) := by decide +kernel
theorem dX11_isDeeper_32 : decode cX11_isDeeper 32 = .ok (.ireturn, 1) := by decide +kernel
theorem dX11_isName_0 : decode cX11_isName 0 = .ok (.aload_n 0, 1) := by decide +kernel
theorem dX11_isName_1 : decode cX11_isName 1 = .ok (.getfield 39, 3) := by decide +kernel
theorem dX11_isName_4 : decode cX11_isName 4 = .ok (.getfield 187, 3) := by decide +kernel
theorem dX11_isName_7 : decode cX11_isName 7 = .ok (.aload_n 0, 1) := by decide +kernel
theorem dX11_isName_8 : decode cX11_isName 8 = .ok (.getfield 39, 3) := by decide +kernel
theorem dX11_isName_11 : decode cX11_isName 11 = .ok (.getfield 190, 3) := by decide +kernel
theorem dX11_isName_14 : decode cX11_isName 14 = .ok (.aload_n 0, 1) := by decide +kernel
theorem dX11_isName_15 : decode cX11_isName 15 = .ok (.getfield 39, 3) := by decide +kernel
theorem dX11_isName_18 : decode cX11_isName 18 = .ok (.getfield 143, 3) := by decide +kernel
theorem dX11_isName_21 : decode cX11_isName 21 = .ok (.iastore, 1) := by decide +kernel
theorem dX11_isName_22 : decode cX11_isName 22 = .ok (.aload_n 0, 1) := by decide +kernel
theorem dX11_isName_23 : decode cX11_isName 23 = .ok (.getfield 39, 3) := by decide +kernel
theorem dX11_isName_26 : decode cX11_isName 26 = .ok (.dup, 1) := by decide +kernel
theorem dX11_isName_27 : decode cX11_isName 27 = .ok (.getfield 190, 3) := by decide +kernel
theorem dX11_isName_30 : decode cX11_isName 30 = .ok (.iconst 1, 1) := by decide +kernel
theorem dX11_isName_31 : decode cX11_isName 31 = .ok (.iadd, 1) := by decide +kernel
theorem dX11_isName_32 : decode cX11_isName 32 = .ok (.putfield 190, 3) := by decide +kernel
theorem dX11_isName_35 : decode cX11_isName 35 = .ok (.aload_n 0, 1) := by decide +kernel
theorem dX11_isName_36 : decode cX11_isName 36 = .ok (.aload_n 0, 1) := by decide +kernel
theorem dX11_isName_37 : decode cX11_isName 37 = .ok (.getfield 131, 3) := by decide +kernel
theorem dX11_isName_40 : decode cX11_isName 40 = .ok (.invokevirtual 177, 3) := by decide +kernel
theorem dX11_isName_43 : decode cX11_isName 43 = .ok (.aload_n 0, 1) := by decide +kernel
theorem dX11_isName_44 : decode cX11_isName 44 = .ok (.bipush 40, 2) := by decide +kernel
theorem dX11_isName_46 : decode cX11_isName 46 = .ok (.iload_n 1, 1) := by decide +kernel
theorem dX11_isName_47 : decode cX11_isName 47 = .ok (.invokevirtual 152, 3) := by decide +kernel
theorem dX11_isName_50 : decode cX11_isName 50 = .ok (.ireturn, 1) := by decide +kernel
theorem dX11_isSingle_0 : decode cX11_isSingle 0 = .ok (.aload_n 0, 1) := by decide +kernel
theorem dX11_isSingle_1 : decode cX11_isSingle 1 = .ok (.bipush 17, 2) := by decide +kernel
theorem dX11_isSingle_3 : decode cX11_isSingle 3 = .ok (.invokevirtual 134, 3) := by decide +kernel
theorem dX11_isSingle_6 : decode cX11_isSingle 6 = .ok (.ifCond .eq 37, 3) := by decide +kernel
theorem dX11_isSingle_9 : decode cX11_isSingle 9 = .ok (.aload_n 0, 1) := by decide +kernel
theorem dX11_isSingle_10 : decode cX11_isSingle 10 = .ok (.invokevirtual 196, 3) := by decide +kernel
theorem dX11_isSingle_13 : decode cX11_isSingle 13 = .ok (.ifCond .eq 10, 3) := by decide +kernel
theorem dX11_isSingle_16 : decode cX11_isSingle 16 = .ok (.aload_n 0, 1) := by decide +kernel
theorem dX11_isSingle_17 : decode cX11_isSingle 17 = .ok (.invokevirtual 181, 3) := by decide +kernel
theorem dX11_isSingle_20 : decode cX11_isSingle 20 = .ok (.ifCond .ne 5, 3) := by decide +kernel
theorem dX11_isSingle_23 : decode cX11_isSingle 23 = .ok (.iconst 0, 1) := by decide +kernel
theorem dX11_isSingle_24 : decode cX11_isSingle 24 = .ok (.ireturn, 1) := by decide +kernel
theorem dX11_isSingle_25 : decode cX11_isSingle 25 = .ok (.aload_n 0, 1) := by decide +kernel
theorem dX11_isSingle_26 : decode cX11_isSingle 26 = .ok (.dup, 1) := by decide +kernel
theorem dX11_isSingle_27 : decode cX11_isSingle 27 = .ok (.getfield 184, 3) := by decide +kernel
theorem dX11_isSingle_30 : decode cX11_isSingle 30 = .ok (.iconst 1, 1) := by decide +kernel
theorem dX11_isSingle_31 : decode cX11_isSingle 31 = .ok (.isub, 1) := by decide +kernel
theorem dX11_isSingle_32 : decode cX11_isSingle 32 = .ok (.putfield 184, 3) := by decide +kernel
theorem dX11_isSingle_35 : decode cX11_isSingle 35 = .ok (.aload_n 0, 1) := by decide +kernel
theorem dX11_isSingle_36 : decode cX11_isSingle 36 = .ok (.bipush 17, 2) := by decide +kernel
theorem dX11_isSingle_38 : decode cX11_isSingle 38 = .ok (.invokevirtual 177, 3) := by decide +kernel
theorem dX11_isSingle_41 : decode cX11_isSingle 41 = .ok (.iconst 1, 1) := by decide +kernel
theorem dX11_isSingle_42 : decode cX11_isSingle 42 = .ok (.ireturn, 1) := by decide +kernel
theorem dX11_isSingle_43 : decode cX11_isSingle 43 = .ok (.aload_n 0, 1) := by decide +kernel
theorem dX11_isSingle_44 : decode cX11_isSingle 44 = .ok (.bipush 91, 2) := by decide +kernel
theorem dX11_isSingle_46 : decode cX11_isSingle 46 = .ok (.invokevirtual 199, 3) := by decide +kernel
theorem dX11_isSingle_49 : decode cX11_isSingle 49 = .ok (.ifCond .eq 36, 3) := by decide +kernel
theorem dX11_isSingle_52 : decode cX11_isSingle 52 = .ok (.aload_n 0, 1) := by decide +kernel
theorem dX11_isSingle_53 : decode cX11_isSingle 53 = .ok (.invokevirtual 196, 3) := by decide +kernel
theorem dX11_isSingle_56 : decode cX11_isSingle 56 = .ok (.ifCond .eq 10, 3) := by decide +kernel
theorem dX11_isSingle_59 : decode cX11_isSingle 59 = .ok (.aload_n 0, 1) := by decide +kernel
theorem dX11_isSingle_60 : decode cX11_isSingle 60 = .ok (.invokevirtual 168, 3) := by decide +kernel
theorem dX11_isSingle_63 : decode cX11_isSingle 63 = .ok (.ifCond .ne 5, 3) := by decide +kernel
theorem dX11_isSingle_66 : decode cX11_isSingle 66 = .ok (.iconst 0, 1) := by decide +kernel
theorem dX11_isSingle_67 : decode cX11_isSingle 67 = .ok (.ireturn, 1) := by decide +kernel
theorem dX11_isSingle_68 : decode cX11_isSingle 68 = .ok (.aload_n 0, 1) := by decide +kernel
theorem dX11_isSingle_69 : decode cX11_isSingle 69 = .ok (.dup, 1) := by decide +kernel
theorem dX11_isSingle_70 : decode cX11_isSingle 70 = .ok (.getfield 184, 3) := by decide +kernel
theorem dX11_isSingle_73 : decode cX11_isSingle 73 = .ok (.iconst 1, 1) := by decide +kernel
theorem dX11_isSingle_74 : decode cX11_isSingle 74 = .ok (.isub, 1) := by decide +kernel
theorem dX11_isSingle_75 : decode cX11_isSingle 75 = .ok (.putfield 184, 3) := by decide +kernel
theorem dX11_isSingle_78 : decode cX11_isSingle 78 = .ok (.aload_n 0, 1) := by decide +kernel
theorem dX11_isSingle_79 : decode cX11_isSingle 79 = .ok (.bipush 93, 2) := by decide +kernel
theorem dX11_isSingle_81 : decode cX11_isSingle 81 = .ok (.invokevirtual 148, 3) := by decide +kernel
theorem dX11_isSingle_84 : decode cX11_isSingle 84 = .ok (.ireturn, 1) := by decide +kernel
theorem dX11_isSingle_85 : decode cX11_isSingle 85 = .ok (.aload_n 0, 1) := by decide +kernel
theorem dX11_isSingle_86 : decode cX11_isSingle 86 = .ok (.bipush 16, 2) := by decide +kernel
theorem dX11_isSingle_88 : decode cX11_isSingle 88 = .ok (.invokevirtual 137, 3) := by decide +kernel
theorem dX11_isSingle_91 : decode cX11_isSingle 91 = .ok (.ifCond .eq 42, 3) := by decide +kernel
theorem dX11_isSingle_94 : decode cX11_isSingle 94 = .ok (.aload_n 0, 1) := by decide +kernel
theorem dX11_isSingle_95 : decode cX11_isSingle 95 = .ok (.bipush 16, 2) := by decide +kernel
theorem dX11_isSingle_97 : decode cX11_isSingle 97 = .ok (.invokevirtual 177, 3) := by decide +kernel
theorem dX11_isSingle_100 : decode cX11_isSingle 100 = .ok (.aload_n 0, 1) := by decide +kernel
theorem dX11_isSingle_101 : decode cX11_isSingle 101 = .ok (.bipush 9, 2) := by decide +kernel
theorem dX11_isSingle_103 : decode cX11_isSingle 103 = .ok (.invokevirtual 134, 3) := by decide +kernel
theorem dX11_isSingle_106 : decode cX11_isSingle 106 = .ok (.ifCond .ne 9, 3) := by decide +kernel
theorem dX11_isSingle_109 : decode cX11_isSingle 109 = .ok (.aload_n 0, 1) := by decide +kernel
theorem dX11_isSingle_110 : decode cX11_isSingle 110 = .ok (.iconst 5, 1) := by decide +kernel
theorem dX11_isSingle_111 : decode cX11_isSingle 111 = .ok (.invokevirtual 193, 3) := by decide +kernel
theorem dX11_isSingle_114 : decode cX11_isSingle 114 = .ok (.ireturn, 1) := by decide +kernel
theorem dX11_isSingle_115 : decode cX11_isSingle 115 = .ok (.aload_n 0, 1) := by decide +kernel
theorem dX11_isSingle_116 : decode cX11_isSingle 116 = .ok (.bipush 8, 2) := by decide +kernel
theorem dX11_isSingle_118 : decode cX11_isSingle 118 = .ok (.invokevirtual 177, 3) := by decide +kernel
theorem dX11_isSingle_121 : decode cX11_isSingle 121 = .ok (.aload_n 0, 1) := by decide +kernel
theorem dX11_isSingle_122 : decode cX11_isSingle 122 = .ok (.dup, 1) := by decide +kernel
theorem dX11_isSingle_123 : decode cX11_isSingle 123 = .ok (.getfield 131, 3) := by decide +kernel
theorem dX11_isSingle_126 : decode cX11_isSingle 126 = .ok (.iconst 1, 1) := by decide +kernel
theorem dX11_isSingle_127 : decode cX11_isSingle 127 = .ok (.iadd, 1) := by decide +kernel
theorem dX11_isSingle_128 : decode cX11_isSingle 128 = .ok (.putfield 131, 3) := by decide +kernel
theorem dX11_isSingle_131 : decode cX11_isSingle 131 = .ok (.iconst 1, 1) := by decide +kernel
theorem dX11_isSingle_132 : decode cX11_isSingle 132 = .ok (.ireturn, 1) := by decide +kernel
theorem dX11_isSingle_133 : decode cX11_isSingle 133 = .ok (.aload_n 0, 1) := by decide +kernel
theorem dX11_isSingle_134 : decode cX11_isSingle 134 = .ok (.invokevirtual 202, 3) := by decide +kernel
theorem dX11_isSingle_137 : decode cX11_isSingle 137 = .ok (.ifCond .ne 5, 3) := by decide +kernel
theorem dX11_isSingle_140 : decode cX11_isSingle 140 = .ok (.iconst 0, 1) := by decide +kernel
theorem dX11_isSingle_141 : decode cX11_isSingle 141 = .ok (.ireturn, 1) := by decide +kernel
theorem dX11_isSingle_142 : decode cX11_isSingle 142 = .ok (.aload_n 0, 1) := by decide +kernel
theorem dX11_isSingle_143 : decode cX11_isSingle 143 = .ok (.bipush 60, 2) := by decide +kernel
theorem dX11_isSingle_145 : decode cX11_isSingle 145 = .ok (.invokevirtual 199, 3) := by decide +kernel
theorem dX11_isSingle_148 : decode cX11_isSingle 148 = .ok (.ifCond .eq 8, 3) := by decide +kernel
theorem dX11_isSingle_151 : decode cX11_isSingle 151 = .ok (.bipush 38, 2) := by decide +kernel
theorem dX11_isSingle_153 : decode cX11_isSingle 153 = .ok (.goto 62, 3) := by decide +kernel
theorem dX11_isSingle_156 : decode cX11_isSingle 156 = .ok (.aload_n 0, 1) := by decide +kernel
theorem dX11_isSingle_157 : decode cX11_isSingle 157 = .ok (.bipush 62, 2) := by decide +kernel
theorem dX11_isSingle_159 : decode cX11_isSingle 159 = .ok (.invokevirtual 199, 3) := by decide +kernel
theorem dX11_isSingle_162 : decode cX11_isSingle 162 = .ok (.ifCond .eq 8, 3) := by decide +kernel
theorem dX11_isSingle_165 : decode cX11_isSingle 165 = .ok (.bipush 39, 2) := by decide +kernel
theorem dX11_isSingle_167 : decode cX11_isSingle 167 = .ok (.goto 48, 3) := by decide +kernel
theorem dX11_isSingle_170 : decode cX11_isSingle 170 = .ok (.aload_n 0, 1) := by decide +kernel
theorem dX11_isSingle_171 : decode cX11_isSingle 171 = .ok (.bipush 61, 2) := by decide +kernel
theorem dX11_isSingle_173 : decode cX11_isSingle 173 = .ok (.invokevirtual 199, 3) := by decide +kernel
theorem dX11_isSingle_176 : decode cX11_isSingle 176 = .ok (.ifCond .eq 8, 3) := by decide +kernel
theorem dX11_isSingle_179 : decode cX11_isSingle 179 = .ok (.bipush 42, 2) := by decide +kernel
theorem dX11_isSingle_181 : decode cX11_isSingle 181 = .ok (.goto 34, 3) := by decide +kernel
theorem dX11_isSingle_184 : decode cX11_isSingle 184 = .ok (.aload_n 0, 1) := by decide +kernel
theorem dX11_isSingle_185 : decode cX11_isSingle 185 = .ok (.sipush 300, 3) := by decide +kernel
theorem dX11_isSingle_188 : decode cX11_isSingle 188 = .ok (.invokevirtual 134, 3) := by decide +kernel
theorem dX11_isSingle_191 : decode cX11_isSingle 191 = .ok (.ifCond .eq 8, 3) := by decide +kernel
theorem dX11_isSingle_194 : decode cX11_isSingle 194 = .ok (.bipush 43, 2) := by decide +kernel
theorem dX11_isSingle_196 : decode cX11_isSingle 196 = .ok (.goto 19, 3) := by decide +kernel
theorem dX11_isSingle_199 : decode cX11_isSingle 199 = .ok (.aload_n 0, 1) := by decide +kernel
theorem dX11_isSingle_200 : decode cX11_isSingle 200 = .ok (.sipush 301, 3) := by decide +kernel
theorem dX11_isSingle_203 : decode cX11_isSingle 203 = .ok (.invokevirtual 134, 3) := by decide +kernel
theorem dX11_isSingle_206 : decode cX11_isSingle 206 = .ok (.ifCond .eq 8, 3) := by decide +kernel
theorem dX11_isSingle_209 : decode cX11_isSingle 209 = .ok (.bipush 44, 2) := by decide +kernel
theorem dX11_isSingle_211 : decode cX11_isSingle 211 = .ok (.goto 4, 3) := by decide +kernel
theorem dX11_isSingle_214 : decode cX11_isSingle 214 = .ok (.iconst (-1), 1) := by decide +kernel
theorem dX11_isSingle_215 : decode cX11_isSingle 215 = .ok (.istore_n 1, 1) := by decide +kernel
theorem dX11_isSingle_216 : decode cX11_isSingle 216 = .ok (.iload_n 1, 1) := by decide +kernel
theorem dX11_isSingle_217 : decode cX11_isSingle 217 = .ok (.iconst (-1), 1) := by decide +kernel
theorem dX11_isSingle_218 : decode cX11_isSingle 218 = .ok (.if_icmp .ne 5, 3) := by decide +kernel
theorem dX11_isSingle_221 : decode cX11_isSingle 221 = .ok (.iconst 0, 1) := by decide +kernel
theorem dX11_isSingle_222 : decode cX11_isSingle 222 = .ok (.ireturn, 1) := by decide +kernel
theorem dX11_isSingle_223 : decode cX11_isSingle 223 = .ok (.aload_n 0, 1) := by decide +kernel
theorem dX11_isSingle_224 : decode cX11_isSingle 224 = .ok (.dup, 1) := by decide +kernel
theorem dX11_isSingle_225 : decode cX11_isSingle 225 = .ok (.getfield 131, 3) := by decide +kernel
theorem dX11_isSingle_228 : decode cX11_isSingle 228 = .ok (.iconst 1, 1) := by decide +kernel
theorem dX11_isSingle_229 : decode cX11_isSingle 229 = .ok (.iadd, 1) := by decide +kernel
theorem dX11_isSingle_230 : decode cX11_isSingle 230 = .ok (.putfield 131, 3) := by decide +kernel
theorem dX11_isSingle_233 : decode cX11_isSingle 233 = .ok (.aload_n 0, 1) := by decide +kernel
theorem dX11_isSingle_234 : decode cX11_isSingle 234 = .ok (.invokevirtual 202, 3) := by decide +kernel
theorem dX11_isSingle_237 : decode cX11_isSingle 237 = .ok (.ifCond .ne 5, 3) := by decide +kernel
theorem dX11_isSingle_240 : decode cX11_isSingle 240 = .ok (.iconst 0, 1) := by decide +kernel
theorem dX11_isSingle_241 : decode cX11_isSingle 241 = .ok (.ireturn, 1) := by decide +kernel
theorem dX11_isSingle_242 : decode cX11_isSingle 242 = .ok (.aload_n 0, 1) := by decide +kernel
theorem dX11_isSingle_243 : decode cX11_isSingle 243 = .ok (.iload_n 1, 1) := by decide +kernel
theorem dX11_isSingle_244 : decode cX11_isSingle 244 = .ok (.invokevirtual 177, 3) := by decide +kernel
theorem dX11_isSingle_247 : decode cX11_isSingle 247 = .ok (.iconst 1, 1) := by decide +kernel
theorem dX11_isSingle_248 : decode cX11_isSingle 248 = .ok (.ireturn, 1) := by decide +kernel
theorem dX11_isSum_0 : decode cX11_isSum 0 = .ok (.aload_n 0, 1) := by decide +kernel
theorem dX11_isSum_1 : decode cX11_isSum 1 = .ok (.invokevirtual 205, 3) := by decide +kernel
theorem dX11_isSum_4 : decode cX11_isSum 4 = .ok (.ifCond .ne 5, 3) := by decide +kernel
theorem dX11_isSum_7 : decode cX11_isSum 7 = .ok (.iconst 0, 1) := by decide +kernel
theorem dX11_isSum_8 : decode cX11_isSum 8 = .ok (.ireturn, 1) := by decide +kernel
theorem dX11_isSum_9 : decode cX11_isSum 9 = .ok (.aload_n 0, 1) := by decide +kernel
theorem dX11_isSum_10 : decode cX11_isSum 10 = .ok (.bipush 43, 2) := by decide +kernel
theorem dX11_isSum_12 : decode cX11_isSum 12 = .ok (.invokevirtual 199, 3) := by decide +kernel
theorem dX11_isSum_15 : decode cX11_isSum 15 = .ok (.ifCond .ne 12, 3) := by decide +kernel
theorem dX11_isSum_18 : decode cX11_isSum 18 = .ok (.aload_n 0, 1) := by decide +kernel
theorem dX11_isSum_19 : decode cX11_isSum 19 = .ok (.bipush 45, 2) := by decide +kernel
theorem dX11_isSum_21 : decode cX11_isSum 21 = .ok (.invokevirtual 199, 3) := by decide +kernel
theorem dX11_isSum_24 : decode cX11_isSum 24 = .ok (.ifCond .eq 47, 3) := by decide +kernel
theorem dX11_isSum_27 : decode cX11_isSum 27 = .ok (.aload_n 0, 1) := by decide +kernel
theorem dX11_isSum_28 : decode cX11_isSum 28 = .ok (.bipush 43, 2) := by decide +kernel
theorem dX11_isSum_30 : decode cX11_isSum 30 = .ok (.invokevirtual 199, 3) := by decide +kernel
theorem dX11_isSum_33 : decode cX11_isSum 33 = .ok (.ifCond .eq 8, 3) := by decide +kernel
theorem dX11_isSum_36 : decode cX11_isSum 36 = .ok (.bipush 34, 2) := by decide +kernel
theorem dX11_isSum_38 : decode cX11_isSum 38 = .ok (.goto 5, 3) := by decide +kernel
theorem dX11_isSum_41 : decode cX11_isSum 41 = .ok (.bipush 35, 2) := by decide +kernel
theorem dX11_isSum_43 : decode cX11_isSum 43 = .ok (.istore_n 1, 1) := by decide +kernel
theorem dX11_isSum_44 : decode cX11_isSum 44 = .ok (.aload_n 0, 1) := by decide +kernel
theorem dX11_isSum_45 : decode cX11_isSum 45 = .ok (.dup, 1) := by decide +kernel
theorem dX11_isSum_46 : decode cX11_isSum 46 = .ok (.getfield 131, 3) := by decide +kernel
theorem dX11_isSum_49 : decode cX11_isSum 49 = .ok (.iconst 1, 1) := by decide +kernel
theorem dX11_isSum_50 : decode cX11_isSum 50 = .ok (.iadd, 1) := by decide +kernel
theorem dX11_isSum_51 : decode cX11_isSum 51 = .ok (.putfield 131, 3) := by decide +kernel
theorem dX11_isSum_54 : decode cX11_isSum 54 = .ok (.aload_n 0, 1) := by decide +kernel
theorem dX11_isSum_55 : decode cX11_isSum 55 = .ok (.invokevirtual 205, 3) := by decide +kernel
theorem dX11_isSum_58 : decode cX11_isSum 58 = .ok (.ifCond .ne 5, 3) := by decide +kernel
theorem dX11_isSum_61 : decode cX11_isSum 61 = .ok (.iconst 0, 1) := by decide +kernel
theorem dX11_isSum_62 : decode cX11_isSum 62 = .ok (.ireturn, 1) := by decide +kernel
theorem dX11_isSum_63 : decode cX11_isSum 63 = .ok (.aload_n 0, 1) := by decide +kernel
theorem dX11_isSum_64 : decode cX11_isSum 64 = .ok (.iload_n 1, 1) := by decide +kernel
theorem dX11_isSum_65 : decode cX11_isSum 65 = .ok (.invokevirtual 177, 3) := by decide +kernel
theorem dX11_isSum_68 : decode cX11_isSum 68 = .ok (.goto (-59), 3) := by decide +kernel
theorem dX11_isSum_71 : decode cX11_isSum 71 = .ok (.iconst 1, 1) := by decide +kernel
theorem dX11_isSum_72 : decode cX11_isSum 72 = .ok (.ireturn, 1) := by decide +kernel
theorem dX11_isProduct_0 : decode cX11_isProduct 0 = .ok (.aload_n 0, 1) := by decide +kernel
theorem dX11_isProduct_1 : decode cX11_isProduct 1 = .ok (.invokevirtual 208, 3) := by decide +kernel
theorem dX11_isProduct_4 : decode cX11_isProduct 4 = .ok (.ifCond .ne 5, 3) := by decide +kernel
theorem dX11_isProduct_7 : decode cX11_isProduct 7 = .ok (.iconst 0, 1) := by decide +kernel
theorem dX11_isProduct_8 : decode cX11_isProduct 8 = .ok (.ireturn, 1) := by decide +kernel
theorem dX11_isProduct_9 : decode cX11_isProduct 9 = .ok (.aload_n 0, 1) := by decide +kernel
theorem dX11_isProduct_10 : decode cX11_isProduct 10 = .ok (.bipush 42, 2) := by decide +kernel
theorem dX11_isProduct_12 : decode cX11_isProduct 12 = .ok (.invokevirtual 199, 3) := by decide +kernel
theorem dX11_isProduct_15 : decode cX11_isProduct 15 = .ok (.ifCond .ne 12, 3) := by decide +kernel
theorem dX11_isProduct_18 : decode cX11_isProduct 18 = .ok (.aload_n 0, 1) := by decide +kernel
theorem dX11_isProduct_19 : decode cX11_isProduct 19 = .ok (.bipush 47, 2) := by decide +kernel
theorem dX11_isProduct_21 : decode cX11_isProduct 21 = .ok (.invokevirtual 199, 3) := by decide +kernel
theorem dX11_isProduct_24 : decode cX11_isProduct 24 = .ok (.ifCond .eq 47, 3) := by decide +kernel
theorem dX11_isProduct_27 : decode cX11_isProduct 27 = .ok (.aload_n 0, 1) := by decide +kernel
theorem dX11_isProduct_28 : decode cX11_isProduct 28 = .ok (.bipush 42, 2) := by decide +kernel
theorem dX11_isProduct_30 : decode cX11_isProduct 30 = .ok (.invokevirtual 199, 3) := by decide +kernel
theorem dX11_isProduct_33 : decode cX11_isProduct 33 = .ok (.ifCond .eq 8, 3) := by decide +kernel
theorem dX11_isProduct_36 : decode cX11_isProduct 36 = .ok (.bipush 36, 2) := by decide +kernel
theorem dX11_isProduct_38 : decode cX11_isProduct 38 = .ok (.goto 5, 3) := by decide +kernel
theorem dX11_isProduct_41 : decode cX11_isProduct 41 = .ok (.bipush 37, 2) := by decide +kernel
theorem dX11_isProduct_43 : decode cX11_isProduct 43 = .ok (.istore_n 1, 1) := by decide +kernel
theorem dX11_isProduct_44 : decode cX11_isProduct 44 = .ok (.aload_n 0, 1) := by decide +kernel
theorem dX11_isProduct_45 : decode cX11_isProduct 45 = .ok (.dup, 1) := by decide +kernel
theorem dX11_isProduct_46 : decode cX11_isProduct 46 = .ok (.getfield 131, 3) := by decide +kernel
theorem dX11_isProduct_49 : decode cX11_isProduct 49 = .ok (.iconst 1, 1) := by decide +kernel
theorem dX11_isProduct_50 : decode cX11_isProduct 50 = .ok (.iadd, 1) := by decide +kernel
theorem dX11_isProduct_51 : decode cX11_isProduct 51 = .ok (.putfield 131, 3) := by decide +kernel
theorem dX11_isProduct_54 : decode cX11_isProduct 54 = .ok (.aload_n 0, 1) := by decide +kernel
theorem dX11_isProduct_55 : decode cX11_isProduct 55 = .ok (.invokevirtual 208, 3) := by decide +kernel
theorem dX11_isProduct_58 : decode cX11_isProduct 58 = .ok (.ifCond .ne 5, 3) := by decide +kernel
theorem dX11_isProduct_61 : decode cX11_isProduct 61 = .ok (.iconst 0, 1) := by decide +kernel
theorem dX11_isProduct_62 : decode cX11_isProduct 62 = .ok (.ireturn, 1) := by decide +kernel
theorem dX11_isProduct_63 : decode cX11_isProduct 63 = .ok (.aload_n 0, 1) := by decide +kernel
theorem dX11_isProduct_64 : decode cX11_isProduct 64 = .ok (.iload_n 1, 1) := by decide +kernel
theorem dX11_isProduct_65 : decode cX11_isProduct 65 = .ok (.invokevirtual 177, 3) := by decide +kernel
theorem dX11_isProduct_68 : decode cX11_isProduct 68 = .ok (.goto (-59), 3) := by decide +kernel
theorem dX11_isProduct_71 : decode cX11_isProduct 71 = .ok (.iconst 1, 1) := by decide +kernel
theorem dX11_isProduct_72 : decode cX11_isProduct 72 = .ok (.ireturn, 1) := by decide +kernel
theorem dX11_isInside_0 : decode cX11_isInside 0 = .ok (.aload_n 0, 1) := by decide +kernel
theorem dX11_isInside_1 : decode cX11_isInside 1 = .ok (.bipush 40, 2) := by decide +kernel
theorem dX11_isInside_3 : decode cX11_isInside 3 = .ok (.invokevirtual 199, 3) := by decide +kernel
theorem dX11_isInside_6 : decode cX11_isInside 6 = .ok (.ifCond .eq 37, 3) := by decide +kernel
theorem dX11_isInside_9 : decode cX11_isInside 9 = .ok (.aload_n 0, 1) := by decide +kernel
theorem dX11_isInside_10 : decode cX11_isInside 10 = .ok (.invokevirtual 196, 3) := by decide +kernel
theorem dX11_isInside_13 : decode cX11_isInside 13 = .ok (.ifCond .eq 30, 3) := by decide +kernel
theorem dX11_isInside_16 : decode cX11_isInside 16 = .ok (.aload_n 0, 1) := by decide +kernel
theorem dX11_isInside_17 : decode cX11_isInside 17 = .ok (.invokevirtual 202, 3) := by decide +kernel
theorem dX11_isInside_20 : decode cX11_isInside 20 = .ok (.ifCond .eq 23, 3) := by decide +kernel
theorem dX11_isInside_23 : decode cX11_isInside 23 = .ok (.iload_n 2, 1) := by decide +kernel
theorem dX11_isInside_24 : decode cX11_isInside 24 = .ok (.ifCond .eq 21, 3) := by decide +kernel
theorem dX11_isInside_27 : decode cX11_isInside 27 = .ok (.aload_n 0, 1) := by decide +kernel
theorem dX11_isInside_28 : decode cX11_isInside 28 = .ok (.bipush 44, 2) := by decide +kernel
theorem dX11_isInside_30 : decode cX11_isInside 30 = .ok (.invokevirtual 148, 3) := by decide +kernel
theorem dX11_isInside_33 : decode cX11_isInside 33 = .ok (.ifCond .eq 10, 3) := by decide +kernel
theorem dX11_isInside_36 : decode cX11_isInside 36 = .ok (.aload_n 0, 1) := by decide +kernel
theorem dX11_isInside_37 : decode cX11_isInside 37 = .ok (.invokevirtual 202, 3) := by decide +kernel
theorem dX11_isInside_40 : decode cX11_isInside 40 = .ok (.ifCond .ne 5, 3) := by decide +kernel
theorem dX11_isInside_43 : decode cX11_isInside 43 = .ok (.iconst 0, 1) := by decide +kernel
theorem dX11_isInside_44 : decode cX11_isInside 44 = .ok (.ireturn, 1) := by decide +kernel
theorem dX11_isInside_45 : decode cX11_isInside 45 = .ok (.aload_n 0, 1) := by decide +kernel
theorem dX11_isInside_46 : decode cX11_isInside 46 = .ok (.dup, 1) := by decide +kernel
theorem dX11_isInside_47 : decode cX11_isInside 47 = .ok (.getfield 184, 3) := by decide +kernel
theorem dX11_isInside_50 : decode cX11_isInside 50 = .ok (.iconst 1, 1) := by decide +kernel
theorem dX11_isInside_51 : decode cX11_isInside 51 = .ok (.isub, 1) := by decide +kernel
theorem dX11_isInside_52 : decode cX11_isInside 52 = .ok (.putfield 184, 3) := by decide +kernel
theorem dX11_isInside_55 : decode cX11_isInside 55 = .ok (.iload_n 2, 1) := by decide +kernel
theorem dX11_isInside_56 : decode cX11_isInside 56 = .ok (.ifCond .eq 8, 3) := by decide +kernel
theorem dX11_isInside_59 : decode cX11_isInside 59 = .ok (.aload_n 0, 1) := by decide +kernel
theorem dX11_isInside_60 : decode cX11_isInside 60 = .ok (.iload_n 1, 1) := by decide +kernel
theorem dX11_isInside_61 : decode cX11_isInside 61 = .ok (.invokevirtual 177, 3) := by decide +kernel
theorem dX11_isInside_64 : decode cX11_isInside 64 = .ok (.aload_n 0, 1) := by decide +kernel
theorem dX11_isInside_65 : decode cX11_isInside 65 = .ok (.bipush 41, 2) := by decide +kernel
theorem dX11_isInside_67 : decode cX11_isInside 67 = .ok (.invokevirtual 148, 3) := by decide +kernel
theorem dX11_isInside_70 : decode cX11_isInside 70 = .ok (.ireturn, 1) := by decide +kernel
theorem dX11_isValue_0 : decode cX11_isValue 0 = .ok (.aload_n 0, 1) := by decide +kernel
theorem dX11_isValue_1 : decode cX11_isValue 1 = .ok (.getfield 17, 3) := by decide +kernel
theorem dX11_isValue_4 : decode cX11_isValue 4 = .ok (.aload_n 0, 1) := by decide +kernel
theorem dX11_isValue_5 : decode cX11_isValue 5 = .ok (.getfield 131, 3) := by decide +kernel
theorem dX11_isValue_8 : decode cX11_isValue 8 = .ok (.iaload, 1) := by decide +kernel
theorem dX11_isValue_9 : decode cX11_isValue 9 = .ok (.istore_n 1, 1) := by decide +kernel
theorem dX11_isValue_10 : decode cX11_isValue 10 = .ok (.aload_n 0, 1) := by decide +kernel
theorem dX11_isValue_11 : decode cX11_isValue 11 = .ok (.bipush 41, 2) := by decide +kernel
theorem dX11_isValue_13 : decode cX11_isValue 13 = .ok (.invokevirtual 134, 3) := by decide +kernel
theorem dX11_isValue_16 : decode cX11_isValue 16 = .ok (.ifCond .eq 33, 3) := by decide +kernel
theorem dX11_isValue_19 : decode cX11_isValue 19 = .ok (.aload_n 0, 1) := by decide +kernel
theorem dX11_isValue_20 : decode cX11_isValue 20 = .ok (.bipush 32, 2) := by decide +kernel
theorem dX11_isValue_22 : decode cX11_isValue 22 = .ok (.invokevirtual 177, 3) := by decide +kernel
theorem dX11_isValue_25 : decode cX11_isValue 25 = .ok (.aload_n 0, 1) := by decide +kernel
theorem dX11_isValue_26 : decode cX11_isValue 26 = .ok (.aload_n 0, 1) := by decide +kernel
theorem dX11_isValue_27 : decode cX11_isValue 27 = .ok (.aload_n 0, 1) := by decide +kernel
theorem dX11_isValue_28 : decode cX11_isValue 28 = .ok (.getfield 131, 3) := by decide +kernel
theorem dX11_isValue_31 : decode cX11_isValue 31 = .ok (.invokevirtual 211, 3) := by decide +kernel
theorem dX11_isValue_34 : decode cX11_isValue 34 = .ok (.invokevirtual 177, 3) := by decide +kernel
theorem dX11_isValue_37 : decode cX11_isValue 37 = .ok (.aload_n 0, 1) := by decide +kernel
theorem dX11_isValue_38 : decode cX11_isValue 38 = .ok (.dup, 1) := by decide +kernel
theorem dX11_isValue_39 : decode cX11_isValue 39 = .ok (.getfield 131, 3) := by decide +kernel
theorem dX11_isValue_42 : decode cX11_isValue 42 = .ok (.iconst 1, 1) := by decide +kernel
theorem dX11_isValue_43 : decode cX11_isValue 43 = .ok (.iadd, 1) := by decide +kernel
theorem dX11_isValue_44 : decode cX11_isValue 44 = .ok (.putfield 131, 3) := by decide +kernel
theorem dX11_isValue_47 : decode cX11_isValue 47 = .ok (.iconst 1, 1) := by decide +kernel
theorem dX11_isValue_48 : decode cX11_isValue 48 = .ok (.ireturn, 1) := by decide +kernel
theorem dX11_isValue_49 : decode cX11_isValue 49 = .ok (.iload_n 1, 1) := by decide +kernel
theorem dX11_isValue_50 : decode cX11_isValue 50 = .ok (.bipush 11, 2) := by decide +kernel
theorem dX11_isValue_52 : decode cX11_isValue 52 = .ok (.if_icmp .lt 26, 3) := by decide +kernel
theorem dX11_isValue_55 : decode cX11_isValue 55 = .ok (.iload_n 1, 1) := by decide +kernel
theorem dX11_isValue_56 : decode cX11_isValue 56 = .ok (.bipush 13, 2) := by decide +kernel
theorem dX11_isValue_58 : decode cX11_isValue 58 = .ok (.if_icmp .gt 20, 3) := by decide +kernel
theorem dX11_isValue_61 : decode cX11_isValue 61 = .ok (.aload_n 0, 1) := by decide +kernel
theorem dX11_isValue_62 : decode cX11_isValue 62 = .ok (.iload_n 1, 1) := by decide +kernel
theorem dX11_isValue_63 : decode cX11_isValue 63 = .ok (.invokevirtual 177, 3) := by decide +kernel
theorem dX11_isValue_66 : decode cX11_isValue 66 = .ok (.aload_n 0, 1) := by decide +kernel
theorem dX11_isValue_67 : decode cX11_isValue 67 = .ok (.dup, 1) := by decide +kernel
theorem dX11_isValue_68 : decode cX11_isValue 68 = .ok (.getfield 131, 3) := by decide +kernel
theorem dX11_isValue_71 : decode cX11_isValue 71 = .ok (.iconst 1, 1) := by decide +kernel
theorem dX11_isValue_72 : decode cX11_isValue 72 = .ok (.iadd, 1) := by decide +kernel
theorem dX11_isValue_73 : decode cX11_isValue 73 = .ok (.putfield 131, 3) := by decide +kernel
theorem dX11_isValue_76 : decode cX11_isValue 76 = .ok (.iconst 1, 1) := by decide +kernel
theorem dX11_isValue_77 : decode cX11_isValue 77 = .ok (.ireturn, 1) := by decide +kernel
theorem dX11_isValue_78 : decode cX11_isValue 78 = .ok (.iload_n 1, 1) := by decide +kernel
theorem dX11_isValue_79 : decode cX11_isValue 79 = .ok (.iconst 1, 1) := by decide +kernel
theorem dX11_isValue_80 : decode cX11_isValue 80 = .ok (.if_icmp .eq 9, 3) := by decide +kernel
theorem dX11_isValue_83 : decode cX11_isValue 83 = .ok (.iload_n 1, 1) := by decide +kernel
theorem dX11_isValue_84 : decode cX11_isValue 84 = .ok (.bipush 14, 2) := by decide +kernel
theorem dX11_isValue_86 : decode cX11_isValue 86 = .ok (.if_icmp .ne 51, 3) := by decide +kernel
theorem dX11_isValue_89 : decode cX11_isValue 89 = .ok (.aload_n 0, 1) := by decide +kernel
theorem dX11_isValue_90 : decode cX11_isValue 90 = .ok (.iload_n 1, 1) := by decide +kernel
theorem dX11_isValue_91 : decode cX11_isValue 91 = .ok (.invokevirtual 177, 3) := by decide +kernel
theorem dX11_isValue_94 : decode cX11_isValue 94 = .ok (.aload_n 0, 1) := by decide +kernel
theorem dX11_isValue_95 : decode cX11_isValue 95 = .ok (.dup, 1) := by decide +kernel
theorem dX11_isValue_96 : decode cX11_isValue 96 = .ok (.getfield 131, 3) := by decide +kernel
theorem dX11_isValue_99 : decode cX11_isValue 99 = .ok (.iconst 1, 1) := by decide +kernel
theorem dX11_isValue_100 : decode cX11_isValue 100 = .ok (.iadd, 1) := by decide +kernel
theorem dX11_isValue_101 : decode cX11_isValue 101 = .ok (.putfield 131, 3) := by decide +kernel
theorem dX11_isValue_104 : decode cX11_isValue 104 = .ok (.aload_n 0, 1) := by decide +kernel
theorem dX11_isValue_105 : decode cX11_isValue 105 = .ok (.bipush 15, 2) := by decide +kernel
theorem dX11_isValue_107 : decode cX11_isValue 107 = .ok (.invokevirtual 137, 3) := by decide +kernel
theorem dX11_isValue_110 : decode cX11_isValue 110 = .ok (.ifCond .eq 25, 3) := by decide +kernel
theorem dX11_isValue_113 : decode cX11_isValue 113 = .ok (.aload_n 0, 1) := by decide +kernel
theorem dX11_isValue_114 : decode cX11_isValue 114 = .ok (.iload_n 1, 1) := by decide +kernel
theorem dX11_isValue_115 : decode cX11_isValue 115 = .ok (.iconst 1, 1) := by decide +kernel
theorem dX11_isValue_116 : decode cX11_isValue 116 = .ok (.if_icmp .ne 7, 3) := by decide +kernel
theorem dX11_isValue_119 : decode cX11_isValue 119 = .ok (.iconst 5, 1) := by decide +kernel
theorem dX11_isValue_120 : decode cX11_isValue 120 = .ok (.goto 5, 3) := by decide +kernel
theorem dX11_isValue_123 : decode cX11_isValue 123 = .ok (.bipush 6, 2) := by decide +kernel
theorem dX11_isValue_125 : decode cX11_isValue 125 = .ok (.invokevirtual 193, 3) := by decide +kernel
theorem dX11_isValue_128 : decode cX11_isValue 128 = .ok (.ifCond .eq 7, 3) := by decide +kernel
theorem dX11_isValue_131 : decode cX11_isValue 131 = .ok (.iconst 1, 1) := by decide +kernel
theorem dX11_isValue_132 : decode cX11_isValue 132 = .ok (.goto 4, 3) := by decide +kernel
theorem dX11_isValue_135 : decode cX11_isValue 135 = .ok (.iconst 0, 1) := by decide +kernel
theorem dX11_isValue_136 : decode cX11_isValue 136 = .ok (.ireturn, 1) := by decide +kernel
theorem dX11_isValue_137 : decode cX11_isValue 137 = .ok (.aload_n 0, 1) := by decide +kernel
theorem dX11_isValue_138 : decode cX11_isValue 138 = .ok (.bipush 45, 2) := by decide +kernel
theorem dX11_isValue_140 : decode cX11_isValue 140 = .ok (.invokevirtual 199, 3) := by decide +kernel
theorem dX11_isValue_143 : decode cX11_isValue 143 = .ok (.ifCond .eq 37, 3) := by decide +kernel
theorem dX11_isValue_146 : decode cX11_isValue 146 = .ok (.aload_n 0, 1) := by decide +kernel
theorem dX11_isValue_147 : decode cX11_isValue 147 = .ok (.invokevirtual 196, 3) := by decide +kernel
theorem dX11_isValue_150 : decode cX11_isValue 150 = .ok (.ifCond .eq 10, 3) := by decide +kernel
theorem dX11_isValue_153 : decode cX11_isValue 153 = .ok (.aload_n 0, 1) := by decide +kernel
theorem dX11_isValue_154 : decode cX11_isValue 154 = .ok (.invokevirtual 208, 3) := by decide +kernel
theorem dX11_isValue_157 : decode cX11_isValue 157 = .ok (.ifCond .ne 5, 3) := by decide +kernel
theorem dX11_isValue_160 : decode cX11_isValue 160 = .ok (.iconst 0, 1) := by decide +kernel
theorem dX11_isValue_161 : decode cX11_isValue 161 = .ok (.ireturn, 1) := by decide +kernel
theorem dX11_isValue_162 : decode cX11_isValue 162 = .ok (.aload_n 0, 1) := by decide +kernel
theorem dX11_isValue_163 : decode cX11_isValue 163 = .ok (.dup, 1) := by decide +kernel
theorem dX11_isValue_164 : decode cX11_isValue 164 = .ok (.getfield 184, 3) := by decide +kernel
theorem dX11_isValue_167 : decode cX11_isValue 167 = .ok (.iconst 1, 1) := by decide +kernel
theorem dX11_isValue_168 : decode cX11_isValue 168 = .ok (.isub, 1) := by decide +kernel
theorem dX11_isValue_169 : decode cX11_isValue 169 = .ok (.putfield 184, 3) := by decide +kernel
theorem dX11_isValue_172 : decode cX11_isValue 172 = .ok (.aload_n 0, 1) := by decide +kernel
theorem dX11_isValue_173 : decode cX11_isValue 173 = .ok (.bipush 33, 2) := by decide +kernel
theorem dX11_isValue_175 : decode cX11_isValue 175 = .ok (.invokevirtual 177, 3) := by decide +kernel
theorem dX11_isValue_178 : decode cX11_isValue 178 = .ok (.iconst 1, 1) := by decide +kernel
theorem dX11_isValue_179 : decode cX11_isValue 179 = .ok (.ireturn, 1) := by decide +kernel
theorem dX11_isValue_180 : decode cX11_isValue 180 = .ok (.aload_n 0, 1) := by decide +kernel
theorem dX11_isValue_181 : decode cX11_isValue 181 = .ok (.iload_n 1, 1) := by decide +kernel
theorem dX11_isValue_182 : decode cX11_isValue 182 = .ok (.aload_n 0, 1) := by decide +kernel
theorem dX11_isValue_183 : decode cX11_isValue 183 = .ok (.bipush 20, 2) := by decide +kernel
theorem dX11_isValue_185 : decode cX11_isValue 185 = .ok (.invokevirtual 137, 3) := by decide +kernel
theorem dX11_isValue_188 : decode cX11_isValue 188 = .ok (.ifCond .ne 12, 3) := by decide +kernel
theorem dX11_isValue_191 : decode cX11_isValue 191 = .ok (.aload_n 0, 1) := by decide +kernel
theorem dX11_isValue_192 : decode cX11_isValue 192 = .ok (.bipush 21, 2) := by decide +kernel
theorem dX11_isValue_194 : decode cX11_isValue 194 = .ok (.invokevirtual 137, 3) := by decide +kernel
theorem dX11_isValue_197 : decode cX11_isValue 197 = .ok (.ifCond .eq 7, 3) := by decide +kernel
theorem dX11_isValue_200 : decode cX11_isValue 200 = .ok (.iconst 1, 1) := by decide +kernel
theorem dX11_isValue_201 : decode cX11_isValue 201 = .ok (.goto 4, 3) := by decide +kernel
theorem dX11_isValue_204 : decode cX11_isValue 204 = .ok (.iconst 0, 1) := by decide +kernel
theorem dX11_isValue_205 : decode cX11_isValue 205 = .ok (.invokevirtual 214, 3) := by decide +kernel
theorem dX11_isValue_208 : decode cX11_isValue 208 = .ok (.ireturn, 1) := by decide +kernel
theorem dX11_numberAt_0 : decode cX11_numberAt 0 = .ok (.iconst 0, 1) := by decide +kernel
theorem dX11_numberAt_1 : decode cX11_numberAt 1 = .ok (.istore_n 2, 1) := by decide +kernel
theorem dX11_numberAt_2 : decode cX11_numberAt 2 = .ok (.iconst 0, 1) := by decide +kernel
theorem dX11_numberAt_3 : decode cX11_numberAt 3 = .ok (.istore_n 3, 1) := by decide +kernel
theorem dX11_numberAt_4 : decode cX11_numberAt 4 = .ok (.iload_n 3, 1) := by decide +kernel
theorem dX11_numberAt_5 : decode cX11_numberAt 5 = .ok (.aload_n 0, 1) := by decide +kernel
theorem dX11_numberAt_6 : decode cX11_numberAt 6 = .ok (.getfield 23, 3) := by decide +kernel
theorem dX11_numberAt_9 : decode cX11_numberAt 9 = .ok (.iload_n 1, 1) := by decide +kernel
theorem dX11_numberAt_10 : decode cX11_numberAt 10 = .ok (.iaload, 1) := by decide +kernel
theorem dX11_numberAt_11 : decode cX11_numberAt 11 = .ok (.if_icmp .ge 31, 3) := by decide +kernel
theorem dX11_numberAt_14 : decode cX11_numberAt 14 = .ok (.bipush 10, 2) := by decide +kernel
theorem dX11_numberAt_16 : decode cX11_numberAt 16 = .ok (.iload_n 2, 1) := by decide +kernel
theorem dX11_numberAt_17 : decode cX11_numberAt 17 = .ok (.imul, 1) := by decide +kernel
theorem dX11_numberAt_18 : decode cX11_numberAt 18 = .ok (.aload_n 0, 1) := by decide +kernel
theorem dX11_numberAt_19 : decode cX11_numberAt 19 = .ok (.getfield 9, 3) := by decide +kernel
theorem dX11_numberAt_22 : decode cX11_numberAt 22 = .ok (.aload_n 0, 1) := by decide +kernel
theorem dX11_numberAt_23 : decode cX11_numberAt 23 = .ok (.getfield 20, 3) := by decide +kernel
theorem dX11_numberAt_26 : decode cX11_numberAt 26 = .ok (.iload_n 1, 1) := by decide +kernel
theorem dX11_numberAt_27 : decode cX11_numberAt 27 = .ok (.iaload, 1) := by decide +kernel
theorem dX11_numberAt_28 : decode cX11_numberAt 28 = .ok (.iload_n 3, 1) := by decide +kernel
theorem dX11_numberAt_29 : decode cX11_numberAt 29 = .ok (.iadd, 1) := by decide +kernel
theorem dX11_numberAt_30 : decode cX11_numberAt 30 = .ok (.iaload, 1) := by decide +kernel
theorem dX11_numberAt_31 : decode cX11_numberAt 31 = .ok (.iadd, 1) := by decide +kernel
theorem dX11_numberAt_32 : decode cX11_numberAt 32 = .ok (.bipush 48, 2) := by decide +kernel
theorem dX11_numberAt_34 : decode cX11_numberAt 34 = .ok (.isub, 1) := by decide +kernel
theorem dX11_numberAt_35 : decode cX11_numberAt 35 = .ok (.istore_n 2, 1) := by decide +kernel
theorem dX11_numberAt_36 : decode cX11_numberAt 36 = .ok (.iinc 3 1, 3) := by decide +kernel
theorem dX11_numberAt_39 : decode cX11_numberAt 39 = .ok (.goto (-35), 3) := by decide +kernel
theorem dX11_numberAt_42 : decode cX11_numberAt 42 = .ok (.iload_n 2, 1) := by decide +kernel
theorem dX11_numberAt_43 : decode cX11_numberAt 43 = .ok (.ireturn, 1) := by decide +kernel
theorem dX11_isSame_0 : decode cX11_isSame 0 = .ok (.aload_n 0, 1) := by decide +kernel
theorem dX11_isSame_1 : decode cX11_isSame 1 = .ok (.getfield 23, 3) := by decide +kernel
theorem dX11_isSame_4 : decode cX11_isSame 4 = .ok (.iload_n 1, 1) := by decide +kernel
theorem dX11_isSame_5 : decode cX11_isSame 5 = .ok (.iaload, 1) := by decide +kernel
theorem dX11_isSame_6 : decode cX11_isSame 6 = .ok (.aload_n 0, 1) := by decide +kernel
theorem dX11_isSame_7 : decode cX11_isSame 7 = .ok (.getfield 23, 3) := by decide +kernel
theorem dX11_isSame_10 : decode cX11_isSame 10 = .ok (.iload_n 2, 1) := by decide +kernel
theorem dX11_isSame_11 : decode cX11_isSame 11 = .ok (.iaload, 1) := by decide +kernel
theorem dX11_isSame_12 : decode cX11_isSame 12 = .ok (.if_icmp .eq 5, 3) := by decide +kernel
theorem dX11_isSame_15 : decode cX11_isSame 15 = .ok (.iconst 0, 1) := by decide +kernel
theorem dX11_isSame_16 : decode cX11_isSame 16 = .ok (.ireturn, 1) := by decide +kernel
theorem dX11_isSame_17 : decode cX11_isSame 17 = .ok (.iconst 0, 1) := by decide +kernel
theorem dX11_isSame_18 : decode cX11_isSame 18 = .ok (.istore_n 3, 1) := by decide +kernel
theorem dX11_isSame_19 : decode cX11_isSame 19 = .ok (.iload_n 3, 1) := by decide +kernel
theorem dX11_isSame_20 : decode cX11_isSame 20 = .ok (.aload_n 0, 1) := by decide +kernel
theorem dX11_isSame_21 : decode cX11_isSame 21 = .ok (.getfield 23, 3) := by decide +kernel
theorem dX11_isSame_24 : decode cX11_isSame 24 = .ok (.iload_n 1, 1) := by decide +kernel
theorem dX11_isSame_25 : decode cX11_isSame 25 = .ok (.iaload, 1) := by decide +kernel
theorem dX11_isSame_26 : decode cX11_isSame 26 = .ok (.if_icmp .ge 40, 3) := by decide +kernel
theorem dX11_isSame_29 : decode cX11_isSame 29 = .ok (.aload_n 0, 1) := by decide +kernel
theorem dX11_isSame_30 : decode cX11_isSame 30 = .ok (.getfield 9, 3) := by decide +kernel
theorem dX11_isSame_33 : decode cX11_isSame 33 = .ok (.aload_n 0, 1) := by decide +kernel
theorem dX11_isSame_34 : decode cX11_isSame 34 = .ok (.getfield 20, 3) := by decide +kernel
theorem dX11_isSame_37 : decode cX11_isSame 37 = .ok (.iload_n 1, 1) := by decide +kernel
theorem dX11_isSame_38 : decode cX11_isSame 38 = .ok (.iaload, 1) := by decide +kernel
theorem dX11_isSame_39 : decode cX11_isSame 39 = .ok (.iload_n 3, 1) := by decide +kernel
theorem dX11_isSame_40 : decode cX11_isSame 40 = .ok (.iadd, 1) := by decide +kernel
theorem dX11_isSame_41 : decode cX11_isSame 41 = .ok (.iaload, 1) := by decide +kernel
theorem dX11_isSame_42 : decode cX11_isSame 42 = .ok (.aload_n 0, 1) := by decide +kernel
theorem dX11_isSame_43 : decode cX11_isSame 43 = .ok (.getfield 9, 3) := by decide +kernel
theorem dX11_isSame_46 : decode cX11_isSame 46 = .ok (.aload_n 0, 1) := by decide +kernel
theorem dX11_isSame_47 : decode cX11_isSame 47 = .ok (.getfield 20, 3) := by decide +kernel
theorem dX11_isSame_50 : decode cX11_isSame 50 = .ok (.iload_n 2, 1) := by decide +kernel
theorem dX11_isSame_51 : decode cX11_isSame 51 = .ok (.iaload, 1) := by decide +kernel
theorem dX11_isSame_52 : decode cX11_isSame 52 = .ok (.iload_n 3, 1) := by decide +kernel
theorem dX11_isSame_53 : decode cX11_isSame 53 = .ok (.iadd, 1) := by decide +kernel
theorem dX11_isSame_54 : decode cX11_isSame 54 = .ok (.iaload, 1) := by decide +kernel
theorem dX11_isSame_55 : decode cX11_isSame 55 = .ok (.if_icmp .eq 5, 3) := by decide +kernel
theorem dX11_isSame_58 : decode cX11_isSame 58 = .ok (.iconst 0, 1) := by decide +kernel
theorem dX11_isSame_59 : decode cX11_isSame 59 = .ok (.ireturn, 1) := by decide +kernel
theorem dX11_isSame_60 : decode cX11_isSame 60 = .ok (.iinc 3 1, 3) := by decide +kernel
theorem dX11_isSame_63 : decode cX11_isSame 63 = .ok (.goto (-44), 3) := by decide +kernel
theorem dX11_isSame_66 : decode cX11_isSame 66 = .ok (.iconst 1, 1) := by decide +kernel
theorem dX11_isSame_67 : decode cX11_isSame 67 = .ok (.ireturn, 1) := by decide +kernel
theorem dX11_told_0 : decode cX11_told 0 = .ok (.iconst 0, 1) := by decide +kernel
theorem dX11_told_1 : decode cX11_told 1 = .ok (.istore_n 3, 1) := by decide +kernel
theorem dX11_told_2 : decode cX11_told 2 = .ok (.iconst 0, 1) := by decide +kernel
theorem dX11_told_3 : decode cX11_told 3 = .ok (.istore 4, 2) := by decide +kernel
theorem dX11_told_5 : decode cX11_told 5 = .ok (.iload 4, 2) := by decide +kernel
theorem dX11_told_7 : decode cX11_told 7 = .ok (.iload_n 1, 1) := by decide +kernel
theorem dX11_told_8 : decode cX11_told 8 = .ok (.if_icmp .ge 38, 3) := by decide +kernel
theorem dX11_told_11 : decode cX11_told 11 = .ok (.aload_n 0, 1) := by decide +kernel
theorem dX11_told_12 : decode cX11_told 12 = .ok (.getfield 26, 3) := by decide +kernel
theorem dX11_told_15 : decode cX11_told 15 = .ok (.iload 4, 2) := by decide +kernel
theorem dX11_told_17 : decode cX11_told 17 = .ok (.iaload, 1) := by decide +kernel
theorem dX11_told_18 : decode cX11_told 18 = .ok (.iload_n 2, 1) := by decide +kernel
theorem dX11_told_19 : decode cX11_told 19 = .ok (.if_icmp .eq 6, 3) := by decide +kernel
theorem dX11_told_22 : decode cX11_told 22 = .ok (.goto 18, 3) := by decide +kernel
theorem dX11_told_25 : decode cX11_told 25 = .ok (.aload_n 0, 1) := by decide +kernel
theorem dX11_told_26 : decode cX11_told 26 = .ok (.iload 4, 2) := by decide +kernel
theorem dX11_told_28 : decode cX11_told 28 = .ok (.iload_n 1, 1) := by decide +kernel
theorem dX11_told_29 : decode cX11_told 29 = .ok (.invokevirtual 218, 3) := by decide +kernel
theorem dX11_told_32 : decode cX11_told 32 = .ok (.ifCond .eq 5, 3) := by decide +kernel
theorem dX11_told_35 : decode cX11_told 35 = .ok (.iload_n 3, 1) := by decide +kernel
theorem dX11_told_36 : decode cX11_told 36 = .ok (.ireturn, 1) := by decide +kernel
theorem dX11_told_37 : decode cX11_told 37 = .ok (.iinc 3 1, 3) := by decide +kernel
theorem dX11_told_40 : decode cX11_told 40 = .ok (.iinc 4 1, 3) := by decide +kernel
theorem dX11_told_43 : decode cX11_told 43 = .ok (.goto (-38), 3) := by decide +kernel
theorem dX11_told_46 : decode cX11_told 46 = .ok (.iconst (-1), 1) := by decide +kernel
theorem dX11_told_47 : decode cX11_told 47 = .ok (.ireturn, 1) := by decide +kernel
theorem dX11_inRange_0 : decode cX11_inRange 0 = .ok (.aload_n 0, 1) := by decide +kernel
theorem dX11_inRange_1 : decode cX11_inRange 1 = .ok (.iload_n 1, 1) := by decide +kernel
theorem dX11_inRange_2 : decode cX11_inRange 2 = .ok (.invokevirtual 211, 3) := by decide +kernel
theorem dX11_inRange_5 : decode cX11_inRange 5 = .ok (.iload_n 2, 1) := by decide +kernel
theorem dX11_inRange_6 : decode cX11_inRange 6 = .ok (.iload_n 3, 1) := by decide +kernel
theorem dX11_inRange_7 : decode cX11_inRange 7 = .ok (.invokestatic 66, 3) := by decide +kernel
theorem dX11_inRange_10 : decode cX11_inRange 10 = .ok (.ifCond .eq 7, 3) := by decide +kernel
theorem dX11_inRange_13 : decode cX11_inRange 13 = .ok (.iconst 0, 1) := by decide +kernel
theorem dX11_inRange_14 : decode cX11_inRange 14 = .ok (.goto 4, 3) := by decide +kernel
theorem dX11_inRange_17 : decode cX11_inRange 17 = .ok (.iconst 5, 1) := by decide +kernel
theorem dX11_inRange_18 : decode cX11_inRange 18 = .ok (.ireturn, 1) := by decide +kernel
theorem dX11_look_0 : decode cX11_look 0 = .ok (.aload_n 0, 1) := by decide +kernel
theorem dX11_look_1 : decode cX11_look 1 = .ok (.getfield 29, 3) := by decide +kernel
theorem dX11_look_4 : decode cX11_look 4 = .ok (.iload_n 1, 1) := by decide +kernel
theorem dX11_look_5 : decode cX11_look 5 = .ok (.aload_n 0, 1) := by decide +kernel
theorem dX11_look_6 : decode cX11_look 6 = .ok (.iload_n 1, 1) := by decide +kernel
theorem dX11_look_7 : decode cX11_look 7 = .ok (.iload_n 2, 1) := by decide +kernel
theorem dX11_look_8 : decode cX11_look 8 = .ok (.invokevirtual 221, 3) := by decide +kernel
theorem dX11_look_11 : decode cX11_look 11 = .ok (.iastore, 1) := by decide +kernel
theorem dX11_look_12 : decode cX11_look 12 = .ok (.aload_n 0, 1) := by decide +kernel
theorem dX11_look_13 : decode cX11_look 13 = .ok (.getfield 29, 3) := by decide +kernel
theorem dX11_look_16 : decode cX11_look 16 = .ok (.iload_n 1, 1) := by decide +kernel
theorem dX11_look_17 : decode cX11_look 17 = .ok (.iaload, 1) := by decide +kernel
theorem dX11_look_18 : decode cX11_look 18 = .ok (.iconst (-1), 1) := by decide +kernel
theorem dX11_look_19 : decode cX11_look 19 = .ok (.if_icmp .ne 7, 3) := by decide +kernel
theorem dX11_look_22 : decode cX11_look 22 = .ok (.iconst 3, 1) := by decide +kernel
theorem dX11_look_23 : decode cX11_look 23 = .ok (.goto 4, 3) := by decide +kernel
theorem dX11_look_26 : decode cX11_look 26 = .ok (.iconst 0, 1) := by decide +kernel
theorem dX11_look_27 : decode cX11_look 27 = .ok (.ireturn, 1) := by decide +kernel
theorem dX11_isNew_0 : decode cX11_isNew 0 = .ok (.aload_n 0, 1) := by decide +kernel
theorem dX11_isNew_1 : decode cX11_isNew 1 = .ok (.iload_n 1, 1) := by decide +kernel
theorem dX11_isNew_2 : decode cX11_isNew 2 = .ok (.iconst 1, 1) := by decide +kernel
theorem dX11_isNew_3 : decode cX11_isNew 3 = .ok (.invokevirtual 221, 3) := by decide +kernel
theorem dX11_isNew_6 : decode cX11_isNew 6 = .ok (.iconst (-1), 1) := by decide +kernel
theorem dX11_isNew_7 : decode cX11_isNew 7 = .ok (.if_icmp .ne 13, 3) := by decide +kernel
theorem dX11_isNew_10 : decode cX11_isNew 10 = .ok (.aload_n 0, 1) := by decide +kernel
theorem dX11_isNew_11 : decode cX11_isNew 11 = .ok (.iload_n 1, 1) := by decide +kernel
theorem dX11_isNew_12 : decode cX11_isNew 12 = .ok (.iconst 2, 1) := by decide +kernel
theorem dX11_isNew_13 : decode cX11_isNew 13 = .ok (.invokevirtual 221, 3) := by decide +kernel
theorem dX11_isNew_16 : decode cX11_isNew 16 = .ok (.iconst (-1), 1) := by decide +kernel
theorem dX11_isNew_17 : decode cX11_isNew 17 = .ok (.if_icmp .eq 7, 3) := by decide +kernel
theorem dX11_isNew_20 : decode cX11_isNew 20 = .ok (.iconst 2, 1) := by decide +kernel
theorem dX11_isNew_21 : decode cX11_isNew 21 = .ok (.goto 13, 3) := by decide +kernel
theorem dX11_isNew_24 : decode cX11_isNew 24 = .ok (.iload_n 2, 1) := by decide +kernel
theorem dX11_isNew_25 : decode cX11_isNew 25 = .ok (.iload_n 3, 1) := by decide +kernel
theorem dX11_isNew_26 : decode cX11_isNew 26 = .ok (.if_icmp .ne 7, 3) := by decide +kernel
theorem dX11_isNew_29 : decode cX11_isNew 29 = .ok (.iconst 4, 1) := by decide +kernel
theorem dX11_isNew_30 : decode cX11_isNew 30 = .ok (.goto 4, 3) := by decide +kernel
theorem dX11_isNew_33 : decode cX11_isNew 33 = .ok (.iconst 0, 1) := by decide +kernel
theorem dX11_isNew_34 : decode cX11_isNew 34 = .ok (.ireturn, 1) := by decide +kernel
theorem dX11_newDrone_0 : decode cX11_newDrone 0 = .ok (.aload_n 0, 1) := by decide +kernel
theorem dX11_newDrone_1 : decode cX11_newDrone 1 = .ok (.iload_n 1, 1) := by decide +kernel
theorem dX11_newDrone_2 : decode cX11_newDrone 2 = .ok (.aload_n 0, 1) := by decide +kernel
theorem dX11_newDrone_3 : decode cX11_newDrone 3 = .ok (.getfield 39, 3) := by decide +kernel
theorem dX11_newDrone_6 : decode cX11_newDrone 6 = .ok (.getfield 63, 3) := by decide +kernel
theorem dX11_newDrone_9 : decode cX11_newDrone 9 = .ok (.bipush 8, 2) := by decide +kernel
theorem dX11_newDrone_11 : decode cX11_newDrone 11 = .ok (.invokevirtual 224, 3) := by decide +kernel
theorem dX11_newDrone_14 : decode cX11_newDrone 14 = .ok (.istore_n 2, 1) := by decide +kernel
theorem dX11_newDrone_15 : decode cX11_newDrone 15 = .ok (.iload_n 2, 1) := by decide +kernel
theorem dX11_newDrone_16 : decode cX11_newDrone 16 = .ok (.ifCond .le 5, 3) := by decide +kernel
theorem dX11_newDrone_19 : decode cX11_newDrone 19 = .ok (.iload_n 2, 1) := by decide +kernel
theorem dX11_newDrone_20 : decode cX11_newDrone 20 = .ok (.ireturn, 1) := by decide +kernel
theorem dX11_newDrone_21 : decode cX11_newDrone 21 = .ok (.aload_n 0, 1) := by decide +kernel
theorem dX11_newDrone_22 : decode cX11_newDrone 22 = .ok (.getfield 39, 3) := by decide +kernel
theorem dX11_newDrone_25 : decode cX11_newDrone 25 = .ok (.getfield 228, 3) := by decide +kernel
theorem dX11_newDrone_28 : decode cX11_newDrone 28 = .ok (.aload_n 0, 1) := by decide +kernel
theorem dX11_newDrone_29 : decode cX11_newDrone 29 = .ok (.getfield 39, 3) := by decide +kernel
theorem dX11_newDrone_32 : decode cX11_newDrone 32 = .ok (.getfield 63, 3) := by decide +kernel
theorem dX11_newDrone_35 : decode cX11_newDrone 35 = .ok (.aload_n 0, 1) := by decide +kernel
theorem dX11_newDrone_36 : decode cX11_newDrone 36 = .ok (.iload_n 1, 1) := by decide +kernel
theorem dX11_newDrone_37 : decode cX11_newDrone 37 = .ok (.iconst 2, 1) := by decide +kernel
theorem dX11_newDrone_38 : decode cX11_newDrone 38 = .ok (.iadd, 1) := by decide +kernel
theorem dX11_newDrone_39 : decode cX11_newDrone 39 = .ok (.invokevirtual 211, 3) := by decide +kernel
theorem dX11_newDrone_42 : decode cX11_newDrone 42 = .ok (.iastore, 1) := by decide +kernel
theorem dX11_newDrone_43 : decode cX11_newDrone 43 = .ok (.aload_n 0, 1) := by decide +kernel
theorem dX11_newDrone_44 : decode cX11_newDrone 44 = .ok (.getfield 39, 3) := by decide +kernel
theorem dX11_newDrone_47 : decode cX11_newDrone 47 = .ok (.dup, 1) := by decide +kernel
theorem dX11_newDrone_48 : decode cX11_newDrone 48 = .ok (.getfield 63, 3) := by decide +kernel
theorem dX11_newDrone_51 : decode cX11_newDrone 51 = .ok (.iconst 1, 1) := by decide +kernel
theorem dX11_newDrone_52 : decode cX11_newDrone 52 = .ok (.iadd, 1) := by decide +kernel
theorem dX11_newDrone_53 : decode cX11_newDrone 53 = .ok (.putfield 63, 3) := by decide +kernel
theorem dX11_newDrone_56 : decode cX11_newDrone 56 = .ok (.iconst 0, 1) := by decide +kernel
theorem dX11_newDrone_57 : decode cX11_newDrone 57 = .ok (.ireturn, 1) := by decide +kernel
theorem dX11_newDeal_0 : decode cX11_newDeal 0 = .ok (.aload_n 0, 1) := by decide +kernel
theorem dX11_newDeal_1 : decode cX11_newDeal 1 = .ok (.iload_n 1, 1) := by decide +kernel
theorem dX11_newDeal_2 : decode cX11_newDeal 2 = .ok (.aload_n 0, 1) := by decide +kernel
theorem dX11_newDeal_3 : decode cX11_newDeal 3 = .ok (.getfield 39, 3) := by decide +kernel
theorem dX11_newDeal_6 : decode cX11_newDeal 6 = .ok (.getfield 70, 3) := by decide +kernel
theorem dX11_newDeal_9 : decode cX11_newDeal 9 = .ok (.bipush 6, 2) := by decide +kernel
theorem dX11_newDeal_11 : decode cX11_newDeal 11 = .ok (.invokevirtual 224, 3) := by decide +kernel
theorem dX11_newDeal_14 : decode cX11_newDeal 14 = .ok (.istore_n 2, 1) := by decide +kernel
theorem dX11_newDeal_15 : decode cX11_newDeal 15 = .ok (.iload_n 2, 1) := by decide +kernel
theorem dX11_newDeal_16 : decode cX11_newDeal 16 = .ok (.ifCond .ne 16, 3) := by decide +kernel
theorem dX11_newDeal_19 : decode cX11_newDeal 19 = .ok (.aload_n 0, 1) := by decide +kernel
theorem dX11_newDeal_20 : decode cX11_newDeal 20 = .ok (.getfield 39, 3) := by decide +kernel
theorem dX11_newDeal_23 : decode cX11_newDeal 23 = .ok (.dup, 1) := by decide +kernel
theorem dX11_newDeal_24 : decode cX11_newDeal 24 = .ok (.getfield 70, 3) := by decide +kernel
theorem dX11_newDeal_27 : decode cX11_newDeal 27 = .ok (.iconst 1, 1) := by decide +kernel
theorem dX11_newDeal_28 : decode cX11_newDeal 28 = .ok (.iadd, 1) := by decide +kernel
theorem dX11_newDeal_29 : decode cX11_newDeal 29 = .ok (.putfield 70, 3) := by decide +kernel
theorem dX11_newDeal_32 : decode cX11_newDeal 32 = .ok (.iload_n 2, 1) := by decide +kernel
theorem dX11_newDeal_33 : decode cX11_newDeal 33 = .ok (.ireturn, 1) := by decide +kernel
theorem dX11_newPart_0 : decode cX11_newPart 0 = .ok (.aload_n 0, 1) := by decide +kernel
theorem dX11_newPart_1 : decode cX11_newPart 1 = .ok (.iload_n 1, 1) := by decide +kernel
theorem dX11_newPart_2 : decode cX11_newPart 2 = .ok (.iconst 1, 1) := by decide +kernel
theorem dX11_newPart_3 : decode cX11_newPart 3 = .ok (.invokevirtual 231, 3) := by decide +kernel
theorem dX11_newPart_6 : decode cX11_newPart 6 = .ok (.ifCond .le 5, 3) := by decide +kernel
theorem dX11_newPart_9 : decode cX11_newPart 9 = .ok (.iconst 3, 1) := by decide +kernel
theorem dX11_newPart_10 : decode cX11_newPart 10 = .ok (.ireturn, 1) := by decide +kernel
theorem dX11_newPart_11 : decode cX11_newPart 11 = .ok (.aload_n 0, 1) := by decide +kernel
theorem dX11_newPart_12 : decode cX11_newPart 12 = .ok (.getfield 39, 3) := by decide +kernel
theorem dX11_newPart_15 : decode cX11_newPart 15 = .ok (.getfield 70, 3) := by decide +kernel
theorem dX11_newPart_18 : decode cX11_newPart 18 = .ok (.iconst 1, 1) := by decide +kernel
theorem dX11_newPart_19 : decode cX11_newPart 19 = .ok (.isub, 1) := by decide +kernel
theorem dX11_newPart_20 : decode cX11_newPart 20 = .ok (.istore_n 2, 1) := by decide +kernel
theorem dX11_newPart_21 : decode cX11_newPart 21 = .ok (.aload_n 0, 1) := by decide +kernel
theorem dX11_newPart_22 : decode cX11_newPart 22 = .ok (.getfield 39, 3) := by decide +kernel
theorem dX11_newPart_25 : decode cX11_newPart 25 = .ok (.getfield 77, 3) := by decide +kernel
theorem dX11_newPart_28 : decode cX11_newPart 28 = .ok (.iload_n 2, 1) := by decide +kernel
theorem dX11_newPart_29 : decode cX11_newPart 29 = .ok (.iaload, 1) := by decide +kernel
theorem dX11_newPart_30 : decode cX11_newPart 30 = .ok (.bipush 6, 2) := by decide +kernel
theorem dX11_newPart_32 : decode cX11_newPart 32 = .ok (.if_icmp .ne 5, 3) := by decide +kernel
theorem dX11_newPart_35 : decode cX11_newPart 35 = .ok (.iconst 4, 1) := by decide +kernel
theorem dX11_newPart_36 : decode cX11_newPart 36 = .ok (.ireturn, 1) := by decide +kernel
theorem dX11_newPart_37 : decode cX11_newPart 37 = .ok (.bipush 6, 2) := by decide +kernel
theorem dX11_newPart_39 : decode cX11_newPart 39 = .ok (.iload_n 2, 1) := by decide +kernel
theorem dX11_newPart_40 : decode cX11_newPart 40 = .ok (.imul, 1) := by decide +kernel
theorem dX11_newPart_41 : decode cX11_newPart 41 = .ok (.aload_n 0, 1) := by decide +kernel
theorem dX11_newPart_42 : decode cX11_newPart 42 = .ok (.getfield 39, 3) := by decide +kernel
theorem dX11_newPart_45 : decode cX11_newPart 45 = .ok (.getfield 77, 3) := by decide +kernel
theorem dX11_newPart_48 : decode cX11_newPart 48 = .ok (.iload_n 2, 1) := by decide +kernel
theorem dX11_newPart_49 : decode cX11_newPart 49 = .ok (.iaload, 1) := by decide +kernel
theorem dX11_newPart_50 : decode cX11_newPart 50 = .ok (.iadd, 1) := by decide +kernel
theorem dX11_newPart_51 : decode cX11_newPart 51 = .ok (.istore_n 3, 1) := by decide +kernel
theorem dX11_newPart_52 : decode cX11_newPart 52 = .ok (.bipush 6, 2) := by decide +kernel
theorem dX11_newPart_54 : decode cX11_newPart 54 = .ok (.iload_n 2, 1) := by decide +kernel
theorem dX11_newPart_55 : decode cX11_newPart 55 = .ok (.imul, 1) := by decide +kernel
theorem dX11_newPart_56 : decode cX11_newPart 56 = .ok (.istore 4, 2) := by decide +kernel
theorem dX11_newPart_58 : decode cX11_newPart 58 = .ok (.iload 4, 2) := by decide +kernel
theorem dX11_newPart_60 : decode cX11_newPart 60 = .ok (.iload_n 3, 1) := by decide +kernel
theorem dX11_newPart_61 : decode cX11_newPart 61 = .ok (.if_icmp .ge 30, 3) := by decide +kernel
theorem dX11_newPart_64 : decode cX11_newPart 64 = .ok (.aload_n 0, 1) := by decide +kernel
theorem dX11_newPart_65 : decode cX11_newPart 65 = .ok (.getfield 39, 3) := by decide +kernel
theorem dX11_newPart_68 : decode cX11_newPart 68 = .ok (.getfield 234, 3) := by decide +kernel
theorem dX11_newPart_71 : decode cX11_newPart 71 = .ok (.iload 4, 2) := by decide +kernel
theorem dX11_newPart_73 : decode cX11_newPart 73 = .ok (.iaload, 1) := by decide +kernel
theorem dX11_newPart_74 : decode cX11_newPart 74 = .ok (.aload_n 0, 1) := by decide +kernel
theorem dX11_newPart_75 : decode cX11_newPart 75 = .ok (.getfield 29, 3) := by decide +kernel
theorem dX11_newPart_78 : decode cX11_newPart 78 = .ok (.iload_n 1, 1) := by decide +kernel
theorem dX11_newPart_79 : decode cX11_newPart 79 = .ok (.iaload, 1) := by decide +kernel
theorem dX11_newPart_80 : decode cX11_newPart 80 = .ok (.if_icmp .ne 5, 3) := by decide +kernel
theorem dX11_newPart_83 : decode cX11_newPart 83 = .ok (.iconst 5, 1) := by decide +kernel
theorem dX11_newPart_84 : decode cX11_newPart 84 = .ok (.ireturn, 1) := by decide +kernel
theorem dX11_newPart_85 : decode cX11_newPart 85 = .ok (.iinc 4 1, 3) := by decide +kernel
theorem dX11_newPart_88 : decode cX11_newPart 88 = .ok (.goto (-30), 3) := by decide +kernel
theorem dX11_newPart_91 : decode cX11_newPart 91 = .ok (.aload_n 0, 1) := by decide +kernel
theorem dX11_newPart_92 : decode cX11_newPart 92 = .ok (.getfield 39, 3) := by decide +kernel
theorem dX11_newPart_95 : decode cX11_newPart 95 = .ok (.getfield 234, 3) := by decide +kernel
theorem dX11_newPart_98 : decode cX11_newPart 98 = .ok (.iload_n 3, 1) := by decide +kernel
theorem dX11_newPart_99 : decode cX11_newPart 99 = .ok (.aload_n 0, 1) := by decide +kernel
theorem dX11_newPart_100 : decode cX11_newPart 100 = .ok (.getfield 29, 3) := by decide +kernel
theorem dX11_newPart_103 : decode cX11_newPart 103 = .ok (.iload_n 1, 1) := by decide +kernel
theorem dX11_newPart_104 : decode cX11_newPart 104 = .ok (.iaload, 1) := by decide +kernel
theorem dX11_newPart_105 : decode cX11_newPart 105 = .ok (.iastore, 1) := by decide +kernel
theorem dX11_newPart_106 : decode cX11_newPart 106 = .ok (.aload_n 0, 1) := by decide +kernel
theorem dX11_newPart_107 : decode cX11_newPart 107 = .ok (.getfield 39, 3) := by decide +kernel
theorem dX11_newPart_110 : decode cX11_newPart 110 = .ok (.getfield 237, 3) := by decide +kernel
theorem dX11_newPart_113 : decode cX11_newPart 113 = .ok (.iload_n 3, 1) := by decide +kernel
theorem dX11_newPart_114 : decode cX11_newPart 114 = .ok (.aload_n 0, 1) := by decide +kernel
theorem dX11_newPart_115 : decode cX11_newPart 115 = .ok (.getfield 17, 3) := by decide +kernel
theorem dX11_newPart_118 : decode cX11_newPart 118 = .ok (.iload_n 1, 1) := by decide +kernel
theorem dX11_newPart_119 : decode cX11_newPart 119 = .ok (.iconst 1, 1) := by decide +kernel
theorem dX11_newPart_120 : decode cX11_newPart 120 = .ok (.iadd, 1) := by decide +kernel
theorem dX11_newPart_121 : decode cX11_newPart 121 = .ok (.iaload, 1) := by decide +kernel
theorem dX11_newPart_122 : decode cX11_newPart 122 = .ok (.iconst 5, 1) := by decide +kernel
theorem dX11_newPart_123 : decode cX11_newPart 123 = .ok (.if_icmp .ne 13, 3) := by decide +kernel
theorem dX11_newPart_126 : decode cX11_newPart 126 = .ok (.aload_n 0, 1) := by decide +kernel
theorem dX11_newPart_127 : decode cX11_newPart 127 = .ok (.iload_n 1, 1) := by decide +kernel
theorem dX11_newPart_128 : decode cX11_newPart 128 = .ok (.iconst 2, 1) := by decide +kernel
theorem dX11_newPart_129 : decode cX11_newPart 129 = .ok (.iadd, 1) := by decide +kernel
theorem dX11_newPart_130 : decode cX11_newPart 130 = .ok (.invokevirtual 211, 3) := by decide +kernel
theorem dX11_newPart_133 : decode cX11_newPart 133 = .ok (.goto 11, 3) := by decide +kernel
theorem dX11_newPart_136 : decode cX11_newPart 136 = .ok (.aload_n 0, 1) := by decide +kernel
theorem dX11_newPart_137 : decode cX11_newPart 137 = .ok (.iload_n 1, 1) := by decide +kernel
theorem dX11_newPart_138 : decode cX11_newPart 138 = .ok (.iconst 2, 1) := by decide +kernel
theorem dX11_newPart_139 : decode cX11_newPart 139 = .ok (.iadd, 1) := by decide +kernel
theorem dX11_newPart_140 : decode cX11_newPart 140 = .ok (.invokevirtual 211, 3) := by decide +kernel
theorem dX11_newPart_143 : decode cX11_newPart 143 = .ok (.ineg, 1) := by decide +kernel
theorem dX11_newPart_144 : decode cX11_newPart 144 = .ok (.iastore, 1) := by decide +kernel
theorem dX11_newPart_145 : decode cX11_newPart 145 = .ok (.aload_n 0, 1) := by decide +kernel
theorem dX11_newPart_146 : decode cX11_newPart 146 = .ok (.getfield 39, 3) := by decide +kernel
theorem dX11_newPart_149 : decode cX11_newPart 149 = .ok (.getfield 77, 3) := by decide +kernel
theorem dX11_newPart_152 : decode cX11_newPart 152 = .ok (.iload_n 2, 1) := by decide +kernel
theorem dX11_newPart_153 : decode cX11_newPart 153 = .ok (.dup2, 1) := by decide +kernel
theorem dX11_newPart_154 : decode cX11_newPart 154 = .ok (.iaload, 1) := by decide +kernel
theorem dX11_newPart_155 : decode cX11_newPart 155 = .ok (.iconst 1, 1) := by decide +kernel
theorem dX11_newPart_156 : decode cX11_newPart 156 = .ok (.iadd, 1) := by decide +kernel
theorem dX11_newPart_157 : decode cX11_newPart 157 = .ok (.iastore, 1) := by decide +kernel
theorem dX11_newPart_158 : decode cX11_newPart 158 = .ok (.iconst 0, 1) := by decide +kernel
theorem dX11_newPart_159 : decode cX11_newPart 159 = .ok (.ireturn, 1) := by decide +kernel
theorem dX11_newOrder_0 : decode cX11_newOrder 0 = .ok (.aload_n 0, 1) := by decide +kernel
theorem dX11_newOrder_1 : decode cX11_newOrder 1 = .ok (.getfield 39, 3) := by decide +kernel
theorem dX11_newOrder_4 : decode cX11_newOrder 4 = .ok (.getfield 240, 3) := by decide +kernel
theorem dX11_newOrder_7 : decode cX11_newOrder 7 = .ok (.bipush 16, 2) := by decide +kernel
theorem dX11_newOrder_9 : decode cX11_newOrder 9 = .ok (.if_icmp .ne 5, 3) := by decide +kernel
theorem dX11_newOrder_12 : decode cX11_newOrder 12 = .ok (.iconst 4, 1) := by decide +kernel
theorem dX11_newOrder_13 : decode cX11_newOrder 13 = .ok (.ireturn, 1) := by decide +kernel
theorem dX11_newOrder_14 : decode cX11_newOrder 14 = .ok (.aload_n 0, 1) := by decide +kernel
theorem dX11_newOrder_15 : decode cX11_newOrder 15 = .ok (.getfield 39, 3) := by decide +kernel
theorem dX11_newOrder_18 : decode cX11_newOrder 18 = .ok (.getfield 243, 3) := by decide +kernel
theorem dX11_newOrder_21 : decode cX11_newOrder 21 = .ok (.aload_n 0, 1) := by decide +kernel
theorem dX11_newOrder_22 : decode cX11_newOrder 22 = .ok (.getfield 39, 3) := by decide +kernel
theorem dX11_newOrder_25 : decode cX11_newOrder 25 = .ok (.getfield 240, 3) := by decide +kernel
theorem dX11_newOrder_28 : decode cX11_newOrder 28 = .ok (.aload_n 0, 1) := by decide +kernel
theorem dX11_newOrder_29 : decode cX11_newOrder 29 = .ok (.getfield 17, 3) := by decide +kernel
theorem dX11_newOrder_32 : decode cX11_newOrder 32 = .ok (.iload_n 1, 1) := by decide +kernel
theorem dX11_newOrder_33 : decode cX11_newOrder 33 = .ok (.iaload, 1) := by decide +kernel
theorem dX11_newOrder_34 : decode cX11_newOrder 34 = .ok (.iastore, 1) := by decide +kernel
theorem dX11_newOrder_35 : decode cX11_newOrder 35 = .ok (.aload_n 0, 1) := by decide +kernel
theorem dX11_newOrder_36 : decode cX11_newOrder 36 = .ok (.getfield 39, 3) := by decide +kernel
theorem dX11_newOrder_39 : decode cX11_newOrder 39 = .ok (.getfield 246, 3) := by decide +kernel
theorem dX11_newOrder_42 : decode cX11_newOrder 42 = .ok (.aload_n 0, 1) := by decide +kernel
theorem dX11_newOrder_43 : decode cX11_newOrder 43 = .ok (.getfield 39, 3) := by decide +kernel
theorem dX11_newOrder_46 : decode cX11_newOrder 46 = .ok (.getfield 240, 3) := by decide +kernel
theorem dX11_newOrder_49 : decode cX11_newOrder 49 = .ok (.bipush 8, 2) := by decide +kernel
theorem dX11_newOrder_51 : decode cX11_newOrder 51 = .ok (.iastore, 1) := by decide +kernel
theorem dX11_newOrder_52 : decode cX11_newOrder 52 = .ok (.aload_n 0, 1) := by decide +kernel
theorem dX11_newOrder_53 : decode cX11_newOrder 53 = .ok (.getfield 39, 3) := by decide +kernel
theorem dX11_newOrder_56 : decode cX11_newOrder 56 = .ok (.dup, 1) := by decide +kernel
theorem dX11_newOrder_57 : decode cX11_newOrder 57 = .ok (.getfield 240, 3) := by decide +kernel
theorem dX11_newOrder_60 : decode cX11_newOrder 60 = .ok (.iconst 1, 1) := by decide +kernel
theorem dX11_newOrder_61 : decode cX11_newOrder 61 = .ok (.iadd, 1) := by decide +kernel
theorem dX11_newOrder_62 : decode cX11_newOrder 62 = .ok (.putfield 240, 3) := by decide +kernel
theorem dX11_newOrder_65 : decode cX11_newOrder 65 = .ok (.iconst 0, 1) := by decide +kernel
theorem dX11_newOrder_66 : decode cX11_newOrder 66 = .ok (.ireturn, 1) := by decide +kernel
theorem dX11_ofOrder_0 : decode cX11_ofOrder 0 = .ok (.aload_n 0, 1) := by decide +kernel
theorem dX11_ofOrder_1 : decode cX11_ofOrder 1 = .ok (.iload_n 1, 1) := by decide +kernel
theorem dX11_ofOrder_2 : decode cX11_ofOrder 2 = .ok (.aload_n 0, 1) := by decide +kernel
theorem dX11_ofOrder_3 : decode cX11_ofOrder 3 = .ok (.getfield 17, 3) := by decide +kernel
theorem dX11_ofOrder_6 : decode cX11_ofOrder 6 = .ok (.iload_n 1, 1) := by decide +kernel
theorem dX11_ofOrder_7 : decode cX11_ofOrder 7 = .ok (.iconst 1, 1) := by decide +kernel
theorem dX11_ofOrder_8 : decode cX11_ofOrder 8 = .ok (.isub, 1) := by decide +kernel
theorem dX11_ofOrder_9 : decode cX11_ofOrder 9 = .ok (.iaload, 1) := by decide +kernel
theorem dX11_ofOrder_10 : decode cX11_ofOrder 10 = .ok (.bipush 6, 2) := by decide +kernel
theorem dX11_ofOrder_12 : decode cX11_ofOrder 12 = .ok (.if_icmp .ne 7, 3) := by decide +kernel
theorem dX11_ofOrder_15 : decode cX11_ofOrder 15 = .ok (.iconst 2, 1) := by decide +kernel
theorem dX11_ofOrder_16 : decode cX11_ofOrder 16 = .ok (.goto 4, 3) := by decide +kernel
theorem dX11_ofOrder_19 : decode cX11_ofOrder 19 = .ok (.iconst 1, 1) := by decide +kernel
theorem dX11_ofOrder_20 : decode cX11_ofOrder 20 = .ok (.invokevirtual 231, 3) := by decide +kernel
theorem dX11_ofOrder_23 : decode cX11_ofOrder 23 = .ok (.istore_n 2, 1) := by decide +kernel
theorem dX11_ofOrder_24 : decode cX11_ofOrder 24 = .ok (.aload_n 0, 1) := by decide +kernel
theorem dX11_ofOrder_25 : decode cX11_ofOrder 25 = .ok (.getfield 39, 3) := by decide +kernel
theorem dX11_ofOrder_28 : decode cX11_ofOrder 28 = .ok (.getfield 246, 3) := by decide +kernel
theorem dX11_ofOrder_31 : decode cX11_ofOrder 31 = .ok (.aload_n 0, 1) := by decide +kernel
theorem dX11_ofOrder_32 : decode cX11_ofOrder 32 = .ok (.getfield 39, 3) := by decide +kernel
theorem dX11_ofOrder_35 : decode cX11_ofOrder 35 = .ok (.getfield 240, 3) := by decide +kernel
theorem dX11_ofOrder_38 : decode cX11_ofOrder 38 = .ok (.iconst 1, 1) := by decide +kernel
theorem dX11_ofOrder_39 : decode cX11_ofOrder 39 = .ok (.isub, 1) := by decide +kernel
theorem dX11_ofOrder_40 : decode cX11_ofOrder 40 = .ok (.aload_n 0, 1) := by decide +kernel
theorem dX11_ofOrder_41 : decode cX11_ofOrder 41 = .ok (.getfield 29, 3) := by decide +kernel
theorem dX11_ofOrder_44 : decode cX11_ofOrder 44 = .ok (.iload_n 1, 1) := by decide +kernel
theorem dX11_ofOrder_45 : decode cX11_ofOrder 45 = .ok (.iaload, 1) := by decide +kernel
theorem dX11_ofOrder_46 : decode cX11_ofOrder 46 = .ok (.iastore, 1) := by decide +kernel
theorem dX11_ofOrder_47 : decode cX11_ofOrder 47 = .ok (.iload_n 2, 1) := by decide +kernel
theorem dX11_ofOrder_48 : decode cX11_ofOrder 48 = .ok (.ireturn, 1) := by decide +kernel
theorem dX11_errorOf_0 : decode cX11_errorOf 0 = .ok (.aload_n 0, 1) := by decide +kernel
theorem dX11_errorOf_1 : decode cX11_errorOf 1 = .ok (.getfield 26, 3) := by decide +kernel
theorem dX11_errorOf_4 : decode cX11_errorOf 4 = .ok (.iload_n 1, 1) := by decide +kernel
theorem dX11_errorOf_5 : decode cX11_errorOf 5 = .ok (.iaload, 1) := by decide +kernel
theorem dX11_errorOf_6 : decode cX11_errorOf 6 = .ok (.tableswitch 105 0 8 #[50, 52, 58, 64, 70, 76, 83, 90, 96], 50) := by decide +kernel
theorem dX11_errorOf_56 : decode cX11_errorOf 56 = .ok (.iconst 0, 1) := by decide +kernel
theorem dX11_errorOf_57 : decode cX11_errorOf 57 = .ok (.ireturn, 1) := by decide +kernel
theorem dX11_errorOf_58 : decode cX11_errorOf 58 = .ok (.aload_n 0, 1) := by decide +kernel
theorem dX11_errorOf_59 : decode cX11_errorOf 59 = .ok (.iload_n 1, 1) := by decide +kernel
theorem dX11_errorOf_60 : decode cX11_errorOf 60 = .ok (.invokevirtual 249, 3) := by decide +kernel
theorem dX11_errorOf_63 : decode cX11_errorOf 63 = .ok (.ireturn, 1) := by decide +kernel
theorem dX11_errorOf_64 : decode cX11_errorOf 64 = .ok (.aload_n 0, 1) := by decide +kernel
theorem dX11_errorOf_65 : decode cX11_errorOf 65 = .ok (.iload_n 1, 1) := by decide +kernel
theorem dX11_errorOf_66 : decode cX11_errorOf 66 = .ok (.invokevirtual 252, 3) := by decide +kernel
theorem dX11_errorOf_69 : decode cX11_errorOf 69 = .ok (.ireturn, 1) := by decide +kernel
theorem dX11_errorOf_70 : decode cX11_errorOf 70 = .ok (.aload_n 0, 1) := by decide +kernel
theorem dX11_errorOf_71 : decode cX11_errorOf 71 = .ok (.iload_n 1, 1) := by decide +kernel
theorem dX11_errorOf_72 : decode cX11_errorOf 72 = .ok (.invokevirtual 255, 3) := by decide +kernel
theorem dX11_errorOf_75 : decode cX11_errorOf 75 = .ok (.ireturn, 1) := by decide +kernel
theorem dX11_errorOf_76 : decode cX11_errorOf 76 = .ok (.aload_n 0, 1) := by decide +kernel
theorem dX11_errorOf_77 : decode cX11_errorOf 77 = .ok (.iload_n 1, 1) := by decide +kernel
theorem dX11_errorOf_78 : decode cX11_errorOf 78 = .ok (.invokevirtual 258, 3) := by decide +kernel
theorem dX11_errorOf_81 : decode cX11_errorOf 81 = .ok (.ireturn, 1) := by decide +kernel
theorem dX11_errorOf_82 : decode cX11_errorOf 82 = .ok (.aload_n 0, 1) := by decide +kernel
theorem dX11_errorOf_83 : decode cX11_errorOf 83 = .ok (.iload_n 1, 1) := by decide +kernel
theorem dX11_errorOf_84 : decode cX11_errorOf 84 = .ok (.iconst 1, 1) := by decide +kernel
theorem dX11_errorOf_85 : decode cX11_errorOf 85 = .ok (.invokevirtual 231, 3) := by decide +kernel
theorem dX11_errorOf_88 : decode cX11_errorOf 88 = .ok (.ireturn, 1) := by decide +kernel
theorem dX11_errorOf_89 : decode cX11_errorOf 89 = .ok (.aload_n 0, 1) := by decide +kernel
theorem dX11_errorOf_90 : decode cX11_errorOf 90 = .ok (.iload_n 1, 1) := by decide +kernel
theorem dX11_errorOf_91 : decode cX11_errorOf 91 = .ok (.iconst 2, 1) := by decide +kernel
theorem dX11_errorOf_92 : decode cX11_errorOf 92 = .ok (.invokevirtual 231, 3) := by decide +kernel
theorem dX11_errorOf_95 : decode cX11_errorOf 95 = .ok (.ireturn, 1) := by decide +kernel
theorem dX11_errorOf_96 : decode cX11_errorOf 96 = .ok (.aload_n 0, 1) := by decide +kernel
theorem dX11_errorOf_97 : decode cX11_errorOf 97 = .ok (.iload_n 1, 1) := by decide +kernel
theorem dX11_errorOf_98 : decode cX11_errorOf 98 = .ok (.invokevirtual 261, 3) := by decide +kernel
theorem dX11_errorOf_101 : decode cX11_errorOf 101 = .ok (.ireturn, 1) := by decide +kernel
theorem dX11_errorOf_102 : decode cX11_errorOf 102 = .ok (.aload_n 0, 1) := by decide +kernel
theorem dX11_errorOf_103 : decode cX11_errorOf 103 = .ok (.iload_n 1, 1) := by decide +kernel
theorem dX11_errorOf_104 : decode cX11_errorOf 104 = .ok (.iconst 0, 1) := by decide +kernel
theorem dX11_errorOf_105 : decode cX11_errorOf 105 = .ok (.bipush 60, 2) := by decide +kernel
theorem dX11_errorOf_107 : decode cX11_errorOf 107 = .ok (.invokevirtual 264, 3) := by decide +kernel
theorem dX11_errorOf_110 : decode cX11_errorOf 110 = .ok (.ireturn, 1) := by decide +kernel
theorem dX11_errorOf_111 : decode cX11_errorOf 111 = .ok (.aload_n 0, 1) := by decide +kernel
theorem dX11_errorOf_112 : decode cX11_errorOf 112 = .ok (.iload_n 1, 1) := by decide +kernel
theorem dX11_errorOf_113 : decode cX11_errorOf 113 = .ok (.iconst 1, 1) := by decide +kernel
theorem dX11_errorOf_114 : decode cX11_errorOf 114 = .ok (.bipush 20, 2) := by decide +kernel
theorem dX11_errorOf_116 : decode cX11_errorOf 116 = .ok (.invokevirtual 264, 3) := by decide +kernel
theorem dX11_errorOf_119 : decode cX11_errorOf 119 = .ok (.ireturn, 1) := by decide +kernel
theorem dX11_read_0 : decode cX11_read 0 = .ok (.aload_n 0, 1) := by decide +kernel
theorem dX11_read_1 : decode cX11_read 1 = .ok (.new 32, 3) := by decide +kernel
theorem dX11_read_4 : decode cX11_read 4 = .ok (.dup, 1) := by decide +kernel
theorem dX11_read_5 : decode cX11_read 5 = .ok (.invokespecial 34, 3) := by decide +kernel
theorem dX11_read_8 : decode cX11_read 8 = .ok (.putfield 39, 3) := by decide +kernel
theorem dX11_read_11 : decode cX11_read 11 = .ok (.aload_n 0, 1) := by decide +kernel
theorem dX11_read_12 : decode cX11_read 12 = .ok (.invokevirtual 267, 3) := by decide +kernel
theorem dX11_read_15 : decode cX11_read 15 = .ok (.aload_n 0, 1) := by decide +kernel
theorem dX11_read_16 : decode cX11_read 16 = .ok (.iconst 0, 1) := by decide +kernel
theorem dX11_read_17 : decode cX11_read 17 = .ok (.putfield 131, 3) := by decide +kernel
theorem dX11_read_20 : decode cX11_read 20 = .ok (.aload_n 0, 1) := by decide +kernel
theorem dX11_read_21 : decode cX11_read 21 = .ok (.iconst 0, 1) := by decide +kernel
theorem dX11_read_22 : decode cX11_read 22 = .ok (.putfield 184, 3) := by decide +kernel
theorem dX11_read_25 : decode cX11_read 25 = .ok (.aload_n 0, 1) := by decide +kernel
theorem dX11_read_26 : decode cX11_read 26 = .ok (.invokevirtual 270, 3) := by decide +kernel
theorem dX11_read_29 : decode cX11_read 29 = .ok (.ifCond .ne 18, 3) := by decide +kernel
theorem dX11_read_32 : decode cX11_read 32 = .ok (.aload_n 0, 1) := by decide +kernel
theorem dX11_read_33 : decode cX11_read 33 = .ok (.aload_n 0, 1) := by decide +kernel
theorem dX11_read_34 : decode cX11_read 34 = .ok (.getfield 20, 3) := by decide +kernel
theorem dX11_read_37 : decode cX11_read 37 = .ok (.aload_n 0, 1) := by decide +kernel
theorem dX11_read_38 : decode cX11_read 38 = .ok (.getfield 131, 3) := by decide +kernel
theorem dX11_read_41 : decode cX11_read 41 = .ok (.iaload, 1) := by decide +kernel
theorem dX11_read_42 : decode cX11_read 42 = .ok (.putfield 13, 3) := by decide +kernel
theorem dX11_read_45 : decode cX11_read 45 = .ok (.iconst 1, 1) := by decide +kernel
theorem dX11_read_46 : decode cX11_read 46 = .ok (.ireturn, 1) := by decide +kernel
theorem dX11_read_47 : decode cX11_read 47 = .ok (.aload_n 0, 1) := by decide +kernel
theorem dX11_read_48 : decode cX11_read 48 = .ok (.getfield 131, 3) := by decide +kernel
theorem dX11_read_51 : decode cX11_read 51 = .ok (.istore_n 1, 1) := by decide +kernel
theorem dX11_read_52 : decode cX11_read 52 = .ok (.aload_n 0, 1) := by decide +kernel
theorem dX11_read_53 : decode cX11_read 53 = .ok (.iconst 0, 1) := by decide +kernel
theorem dX11_read_54 : decode cX11_read 54 = .ok (.putfield 131, 3) := by decide +kernel
theorem dX11_read_57 : decode cX11_read 57 = .ok (.aload_n 0, 1) := by decide +kernel
theorem dX11_read_58 : decode cX11_read 58 = .ok (.getfield 131, 3) := by decide +kernel
theorem dX11_read_61 : decode cX11_read 61 = .ok (.iload_n 1, 1) := by decide +kernel
theorem dX11_read_62 : decode cX11_read 62 = .ok (.if_icmp .ge 47, 3) := by decide +kernel
theorem dX11_read_65 : decode cX11_read 65 = .ok (.aload_n 0, 1) := by decide +kernel
theorem dX11_read_66 : decode cX11_read 66 = .ok (.aload_n 0, 1) := by decide +kernel
theorem dX11_read_67 : decode cX11_read 67 = .ok (.getfield 131, 3) := by decide +kernel
theorem dX11_read_70 : decode cX11_read 70 = .ok (.invokevirtual 273, 3) := by decide +kernel
theorem dX11_read_73 : decode cX11_read 73 = .ok (.istore_n 2, 1) := by decide +kernel
theorem dX11_read_74 : decode cX11_read 74 = .ok (.iload_n 2, 1) := by decide +kernel
theorem dX11_read_75 : decode cX11_read 75 = .ok (.ifCond .ne 6, 3) := by decide +kernel
theorem dX11_read_78 : decode cX11_read 78 = .ok (.goto 18, 3) := by decide +kernel
theorem dX11_read_81 : decode cX11_read 81 = .ok (.aload_n 0, 1) := by decide +kernel
theorem dX11_read_82 : decode cX11_read 82 = .ok (.aload_n 0, 1) := by decide +kernel
theorem dX11_read_83 : decode cX11_read 83 = .ok (.getfield 20, 3) := by decide +kernel
theorem dX11_read_86 : decode cX11_read 86 = .ok (.aload_n 0, 1) := by decide +kernel
theorem dX11_read_87 : decode cX11_read 87 = .ok (.getfield 131, 3) := by decide +kernel
theorem dX11_read_90 : decode cX11_read 90 = .ok (.iaload, 1) := by decide +kernel
theorem dX11_read_91 : decode cX11_read 91 = .ok (.putfield 13, 3) := by decide +kernel
theorem dX11_read_94 : decode cX11_read 94 = .ok (.iload_n 2, 1) := by decide +kernel
theorem dX11_read_95 : decode cX11_read 95 = .ok (.ireturn, 1) := by decide +kernel
theorem dX11_read_96 : decode cX11_read 96 = .ok (.aload_n 0, 1) := by decide +kernel
theorem dX11_read_97 : decode cX11_read 97 = .ok (.dup, 1) := by decide +kernel
theorem dX11_read_98 : decode cX11_read 98 = .ok (.getfield 131, 3) := by decide +kernel
theorem dX11_read_101 : decode cX11_read 101 = .ok (.iconst 1, 1) := by decide +kernel
theorem dX11_read_102 : decode cX11_read 102 = .ok (.iadd, 1) := by decide +kernel
theorem dX11_read_103 : decode cX11_read 103 = .ok (.putfield 131, 3) := by decide +kernel
theorem dX11_read_106 : decode cX11_read 106 = .ok (.goto (-49), 3) := by decide +kernel
theorem dX11_read_109 : decode cX11_read 109 = .ok (.iconst 0, 1) := by decide +kernel
theorem dX11_read_110 : decode cX11_read 110 = .ok (.istore_n 2, 1) := by decide +kernel
theorem dX11_read_111 : decode cX11_read 111 = .ok (.iload_n 2, 1) := by decide +kernel
theorem dX11_read_112 : decode cX11_read 112 = .ok (.aload_n 0, 1) := by decide +kernel
theorem dX11_read_113 : decode cX11_read 113 = .ok (.getfield 39, 3) := by decide +kernel
theorem dX11_read_116 : decode cX11_read 116 = .ok (.getfield 190, 3) := by decide +kernel
theorem dX11_read_119 : decode cX11_read 119 = .ok (.if_icmp .ge 48, 3) := by decide +kernel
theorem dX11_read_122 : decode cX11_read 122 = .ok (.aload_n 0, 1) := by decide +kernel
theorem dX11_read_123 : decode cX11_read 123 = .ok (.getfield 39, 3) := by decide +kernel
theorem dX11_read_126 : decode cX11_read 126 = .ok (.getfield 140, 3) := by decide +kernel
theorem dX11_read_129 : decode cX11_read 129 = .ok (.aload_n 0, 1) := by decide +kernel
theorem dX11_read_130 : decode cX11_read 130 = .ok (.getfield 39, 3) := by decide +kernel
theorem dX11_read_133 : decode cX11_read 133 = .ok (.getfield 187, 3) := by decide +kernel
theorem dX11_read_136 : decode cX11_read 136 = .ok (.iload_n 2, 1) := by decide +kernel
theorem dX11_read_137 : decode cX11_read 137 = .ok (.iaload, 1) := by decide +kernel
theorem dX11_read_138 : decode cX11_read 138 = .ok (.aload_n 0, 1) := by decide +kernel
theorem dX11_read_139 : decode cX11_read 139 = .ok (.getfield 29, 3) := by decide +kernel
theorem dX11_read_142 : decode cX11_read 142 = .ok (.aload_n 0, 1) := by decide +kernel
theorem dX11_read_143 : decode cX11_read 143 = .ok (.getfield 39, 3) := by decide +kernel
theorem dX11_read_146 : decode cX11_read 146 = .ok (.getfield 140, 3) := by decide +kernel
theorem dX11_read_149 : decode cX11_read 149 = .ok (.aload_n 0, 1) := by decide +kernel
theorem dX11_read_150 : decode cX11_read 150 = .ok (.getfield 39, 3) := by decide +kernel
theorem dX11_read_153 : decode cX11_read 153 = .ok (.getfield 187, 3) := by decide +kernel
theorem dX11_read_156 : decode cX11_read 156 = .ok (.iload_n 2, 1) := by decide +kernel
theorem dX11_read_157 : decode cX11_read 157 = .ok (.iaload, 1) := by decide +kernel
theorem dX11_read_158 : decode cX11_read 158 = .ok (.iaload, 1) := by decide +kernel
theorem dX11_read_159 : decode cX11_read 159 = .ok (.iaload, 1) := by decide +kernel
theorem dX11_read_160 : decode cX11_read 160 = .ok (.iastore, 1) := by decide +kernel
theorem dX11_read_161 : decode cX11_read 161 = .ok (.iinc 2 1, 3) := by decide +kernel
theorem dX11_read_164 : decode cX11_read 164 = .ok (.goto (-53), 3) := by decide +kernel
theorem dX11_read_167 : decode cX11_read 167 = .ok (.iconst 0, 1) := by decide +kernel
theorem dX11_read_168 : decode cX11_read 168 = .ok (.ireturn, 1) := by decide +kernel
theorem dX11_feed_0 : decode cX11_feed 0 = .ok (.aload_n 0, 1) := by decide +kernel
theorem dX11_feed_1 : decode cX11_feed 1 = .ok (.iconst 0, 1) := by decide +kernel
theorem dX11_feed_2 : decode cX11_feed 2 = .ok (.putfield 60, 3) := by decide +kernel
theorem dX11_feed_5 : decode cX11_feed 5 = .ok (.aload_n 0, 1) := by decide +kernel
theorem dX11_feed_6 : decode cX11_feed 6 = .ok (.getfield 93, 3) := by decide +kernel
theorem dX11_feed_9 : decode cX11_feed 9 = .ok (.sipush 1980, 3) := by decide +kernel
theorem dX11_feed_12 : decode cX11_feed 12 = .ok (.if_icmp .le 9, 3) := by decide +kernel
theorem dX11_feed_15 : decode cX11_feed 15 = .ok (.aload_n 0, 1) := by decide +kernel
theorem dX11_feed_16 : decode cX11_feed 16 = .ok (.iconst 1, 1) := by decide +kernel
theorem dX11_feed_17 : decode cX11_feed 17 = .ok (.invokevirtual 276, 3) := by decide +kernel
theorem dX11_feed_20 : decode cX11_feed 20 = .ok (.ireturn, 1) := by decide +kernel
theorem dX11_feed_21 : decode cX11_feed 21 = .ok (.iconst 5, 1) := by decide +kernel
theorem dX11_feed_22 : decode cX11_feed 22 = .ok (.newarray .int, 2) := by decide +kernel
theorem dX11_feed_24 : decode cX11_feed 24 = .ok (.dup, 1) := by decide +kernel
theorem dX11_feed_25 : decode cX11_feed 25 = .ok (.iconst 0, 1) := by decide +kernel
theorem dX11_feed_26 : decode cX11_feed 26 = .ok (.iload_n 1, 1) := by decide +kernel
theorem dX11_feed_27 : decode cX11_feed 27 = .ok (.iastore, 1) := by decide +kernel
theorem dX11_feed_28 : decode cX11_feed 28 = .ok (.dup, 1) := by decide +kernel
theorem dX11_feed_29 : decode cX11_feed 29 = .ok (.iconst 1, 1) := by decide +kernel
theorem dX11_feed_30 : decode cX11_feed 30 = .ok (.iload_n 2, 1) := by decide +kernel
theorem dX11_feed_31 : decode cX11_feed 31 = .ok (.iastore, 1) := by decide +kernel
theorem dX11_feed_32 : decode cX11_feed 32 = .ok (.dup, 1) := by decide +kernel
theorem dX11_feed_33 : decode cX11_feed 33 = .ok (.iconst 2, 1) := by decide +kernel
theorem dX11_feed_34 : decode cX11_feed 34 = .ok (.iload_n 3, 1) := by decide +kernel
theorem dX11_feed_35 : decode cX11_feed 35 = .ok (.iastore, 1) := by decide +kernel
theorem dX11_feed_36 : decode cX11_feed 36 = .ok (.dup, 1) := by decide +kernel
theorem dX11_feed_37 : decode cX11_feed 37 = .ok (.iconst 3, 1) := by decide +kernel
theorem dX11_feed_38 : decode cX11_feed 38 = .ok (.iload 4, 2) := by decide +kernel
theorem dX11_feed_40 : decode cX11_feed 40 = .ok (.iastore, 1) := by decide +kernel
theorem dX11_feed_41 : decode cX11_feed 41 = .ok (.dup, 1) := by decide +kernel
theorem dX11_feed_42 : decode cX11_feed 42 = .ok (.iconst 4, 1) := by decide +kernel
theorem dX11_feed_43 : decode cX11_feed 43 = .ok (.iload 5, 2) := by decide +kernel
theorem dX11_feed_45 : decode cX11_feed 45 = .ok (.iastore, 1) := by decide +kernel
theorem dX11_feed_46 : decode cX11_feed 46 = .ok (.astore 6, 2) := by decide +kernel
theorem dX11_feed_48 : decode cX11_feed 48 = .ok (.iconst 0, 1) := by decide +kernel
theorem dX11_feed_49 : decode cX11_feed 49 = .ok (.istore 7, 2) := by decide +kernel
theorem dX11_feed_51 : decode cX11_feed 51 = .ok (.iload 7, 2) := by decide +kernel
theorem dX11_feed_53 : decode cX11_feed 53 = .ok (.bipush 20, 2) := by decide +kernel
theorem dX11_feed_55 : decode cX11_feed 55 = .ok (.if_icmp .ge 43, 3) := by decide +kernel
theorem dX11_feed_58 : decode cX11_feed 58 = .ok (.aload_n 0, 1) := by decide +kernel
theorem dX11_feed_59 : decode cX11_feed 59 = .ok (.getfield 9, 3) := by decide +kernel
theorem dX11_feed_62 : decode cX11_feed 62 = .ok (.aload_n 0, 1) := by decide +kernel
theorem dX11_feed_63 : decode cX11_feed 63 = .ok (.getfield 93, 3) := by decide +kernel
theorem dX11_feed_66 : decode cX11_feed 66 = .ok (.iload 7, 2) := by decide +kernel
theorem dX11_feed_68 : decode cX11_feed 68 = .ok (.iadd, 1) := by decide +kernel
theorem dX11_feed_69 : decode cX11_feed 69 = .ok (.aload 6, 2) := by decide +kernel
theorem dX11_feed_71 : decode cX11_feed 71 = .ok (.iload 7, 2) := by decide +kernel
theorem dX11_feed_73 : decode cX11_feed 73 = .ok (.iconst 4, 1) := by decide +kernel
theorem dX11_feed_74 : decode cX11_feed 74 = .ok (.idiv, 1) := by decide +kernel
theorem dX11_feed_75 : decode cX11_feed 75 = .ok (.iaload, 1) := by decide +kernel
theorem dX11_feed_76 : decode cX11_feed 76 = .ok (.bipush 24, 2) := by decide +kernel
theorem dX11_feed_78 : decode cX11_feed 78 = .ok (.bipush 8, 2) := by decide +kernel
theorem dX11_feed_80 : decode cX11_feed 80 = .ok (.iload 7, 2) := by decide +kernel
theorem dX11_feed_82 : decode cX11_feed 82 = .ok (.iconst 4, 1) := by decide +kernel
theorem dX11_feed_83 : decode cX11_feed 83 = .ok (.irem, 1) := by decide +kernel
theorem dX11_feed_84 : decode cX11_feed 84 = .ok (.imul, 1) := by decide +kernel
theorem dX11_feed_85 : decode cX11_feed 85 = .ok (.isub, 1) := by decide +kernel
theorem dX11_feed_86 : decode cX11_feed 86 = .ok (.ishr, 1) := by decide +kernel
theorem dX11_feed_87 : decode cX11_feed 87 = .ok (.sipush 255, 3) := by decide +kernel
theorem dX11_feed_90 : decode cX11_feed 90 = .ok (.iand, 1) := by decide +kernel
theorem dX11_feed_91 : decode cX11_feed 91 = .ok (.iastore, 1) := by decide +kernel
theorem dX11_feed_92 : decode cX11_feed 92 = .ok (.iinc 7 1, 3) := by decide +kernel
theorem dX11_feed_95 : decode cX11_feed 95 = .ok (.goto (-44), 3) := by decide +kernel
theorem dX11_feed_98 : decode cX11_feed 98 = .ok (.aload_n 0, 1) := by decide +kernel
theorem dX11_feed_99 : decode cX11_feed 99 = .ok (.dup, 1) := by decide +kernel
theorem dX11_feed_100 : decode cX11_feed 100 = .ok (.getfield 93, 3) := by decide +kernel
theorem dX11_feed_103 : decode cX11_feed 103 = .ok (.bipush 20, 2) := by decide +kernel
theorem dX11_feed_105 : decode cX11_feed 105 = .ok (.iadd, 1) := by decide +kernel
theorem dX11_feed_106 : decode cX11_feed 106 = .ok (.putfield 93, 3) := by decide +kernel
theorem dX11_feed_109 : decode cX11_feed 109 = .ok (.aload_n 0, 1) := by decide +kernel
theorem dX11_feed_110 : decode cX11_feed 110 = .ok (.getfield 93, 3) := by decide +kernel
theorem dX11_feed_113 : decode cX11_feed 113 = .ok (.ireturn, 1) := by decide +kernel
theorem dX11_trim_0 : decode cX11_trim 0 = .ok (.aload_n 0, 1) := by decide +kernel
theorem dX11_trim_1 : decode cX11_trim 1 = .ok (.iconst 0, 1) := by decide +kernel
theorem dX11_trim_2 : decode cX11_trim 2 = .ok (.putfield 60, 3) := by decide +kernel
theorem dX11_trim_5 : decode cX11_trim 5 = .ok (.iload_n 1, 1) := by decide +kernel
theorem dX11_trim_6 : decode cX11_trim 6 = .ok (.iconst 0, 1) := by decide +kernel
theorem dX11_trim_7 : decode cX11_trim 7 = .ok (.aload_n 0, 1) := by decide +kernel
theorem dX11_trim_8 : decode cX11_trim 8 = .ok (.getfield 93, 3) := by decide +kernel
theorem dX11_trim_11 : decode cX11_trim 11 = .ok (.invokestatic 66, 3) := by decide +kernel
theorem dX11_trim_14 : decode cX11_trim 14 = .ok (.ifCond .ne 9, 3) := by decide +kernel
theorem dX11_trim_17 : decode cX11_trim 17 = .ok (.aload_n 0, 1) := by decide +kernel
theorem dX11_trim_18 : decode cX11_trim 18 = .ok (.iconst 1, 1) := by decide +kernel
theorem dX11_trim_19 : decode cX11_trim 19 = .ok (.invokevirtual 276, 3) := by decide +kernel
theorem dX11_trim_22 : decode cX11_trim 22 = .ok (.ireturn, 1) := by decide +kernel
theorem dX11_trim_23 : decode cX11_trim 23 = .ok (.aload_n 0, 1) := by decide +kernel
theorem dX11_trim_24 : decode cX11_trim 24 = .ok (.iload_n 1, 1) := by decide +kernel
theorem dX11_trim_25 : decode cX11_trim 25 = .ok (.putfield 93, 3) := by decide +kernel
theorem dX11_trim_28 : decode cX11_trim 28 = .ok (.iload_n 1, 1) := by decide +kernel
theorem dX11_trim_29 : decode cX11_trim 29 = .ok (.ireturn, 1) := by decide +kernel
theorem dX11_teach_0 : decode cX11_teach 0 = .ok (.aload_n 0, 1) := by decide +kernel
theorem dX11_teach_1 : decode cX11_teach 1 = .ok (.iconst 0, 1) := by decide +kernel
theorem dX11_teach_2 : decode cX11_teach 2 = .ok (.putfield 60, 3) := by decide +kernel
theorem dX11_teach_5 : decode cX11_teach 5 = .ok (.aload_n 0, 1) := by decide +kernel
theorem dX11_teach_6 : decode cX11_teach 6 = .ok (.iconst (-1), 1) := by decide +kernel
theorem dX11_teach_7 : decode cX11_teach 7 = .ok (.putfield 13, 3) := by decide +kernel
theorem dX11_teach_10 : decode cX11_teach 10 = .ok (.aload_n 0, 1) := by decide +kernel
theorem dX11_teach_11 : decode cX11_teach 11 = .ok (.invokevirtual 279, 3) := by decide +kernel
theorem dX11_teach_14 : decode cX11_teach 14 = .ok (.istore_n 1, 1) := by decide +kernel
theorem dX11_teach_15 : decode cX11_teach 15 = .ok (.aload_n 0, 1) := by decide +kernel
theorem dX11_teach_16 : decode cX11_teach 16 = .ok (.iconst 0, 1) := by decide +kernel
theorem dX11_teach_17 : decode cX11_teach 17 = .ok (.putfield 93, 3) := by decide +kernel
theorem dX11_teach_20 : decode cX11_teach 20 = .ok (.iload_n 1, 1) := by decide +kernel
theorem dX11_teach_21 : decode cX11_teach 21 = .ok (.ifCond .le 5, 3) := by decide +kernel
theorem dX11_teach_24 : decode cX11_teach 24 = .ok (.iload_n 1, 1) := by decide +kernel
theorem dX11_teach_25 : decode cX11_teach 25 = .ok (.ireturn, 1) := by decide +kernel
theorem dX11_teach_26 : decode cX11_teach 26 = .ok (.aload_n 0, 1) := by decide +kernel
theorem dX11_teach_27 : decode cX11_teach 27 = .ok (.aload_n 0, 1) := by decide +kernel
theorem dX11_teach_28 : decode cX11_teach 28 = .ok (.getfield 39, 3) := by decide +kernel
theorem dX11_teach_31 : decode cX11_teach 31 = .ok (.putfield 35, 3) := by decide +kernel
theorem dX11_teach_34 : decode cX11_teach 34 = .ok (.aload_n 0, 1) := by decide +kernel
theorem dX11_teach_35 : decode cX11_teach 35 = .ok (.getfield 50, 3) := by decide +kernel
theorem dX11_teach_38 : decode cX11_teach 38 = .ok (.invokevirtual 57, 3) := by decide +kernel
theorem dX11_teach_41 : decode cX11_teach 41 = .ok (.iconst 0, 1) := by decide +kernel
theorem dX11_teach_42 : decode cX11_teach 42 = .ok (.ireturn, 1) := by decide +kernel
theorem dX11_errorAt_0 : decode cX11_errorAt 0 = .ok (.aload_n 0, 1) := by decide +kernel
theorem dX11_errorAt_1 : decode cX11_errorAt 1 = .ok (.aload_n 0, 1) := by decide +kernel
theorem dX11_errorAt_2 : decode cX11_errorAt 2 = .ok (.getfield 13, 3) := by decide +kernel
theorem dX11_errorAt_5 : decode cX11_errorAt 5 = .ok (.invokevirtual 282, 3) := by decide +kernel
theorem dX11_errorAt_8 : decode cX11_errorAt 8 = .ok (.ireturn, 1) := by decide +kernel
theorem dX11_drones_0 : decode cX11_drones 0 = .ok (.aload_n 0, 1) := by decide +kernel
theorem dX11_drones_1 : decode cX11_drones 1 = .ok (.aload_n 0, 1) := by decide +kernel
theorem dX11_drones_2 : decode cX11_drones 2 = .ok (.getfield 35, 3) := by decide +kernel
theorem dX11_drones_5 : decode cX11_drones 5 = .ok (.getfield 63, 3) := by decide +kernel
theorem dX11_drones_8 : decode cX11_drones 8 = .ok (.invokevirtual 282, 3) := by decide +kernel
theorem dX11_drones_11 : decode cX11_drones 11 = .ok (.ireturn, 1) := by decide +kernel
theorem dX11_deals_0 : decode cX11_deals 0 = .ok (.aload_n 0, 1) := by decide +kernel
theorem dX11_deals_1 : decode cX11_deals 1 = .ok (.aload_n 0, 1) := by decide +kernel
theorem dX11_deals_2 : decode cX11_deals 2 = .ok (.getfield 35, 3) := by decide +kernel
theorem dX11_deals_5 : decode cX11_deals 5 = .ok (.getfield 70, 3) := by decide +kernel
theorem dX11_deals_8 : decode cX11_deals 8 = .ok (.invokevirtual 282, 3) := by decide +kernel
theorem dX11_deals_11 : decode cX11_deals 11 = .ok (.ireturn, 1) := by decide +kernel
theorem dX11_day_0 : decode cX11_day 0 = .ok (.aload_n 0, 1) := by decide +kernel
theorem dX11_day_1 : decode cX11_day 1 = .ok (.aload_n 0, 1) := by decide +kernel
theorem dX11_day_2 : decode cX11_day 2 = .ok (.getfield 50, 3) := by decide +kernel
theorem dX11_day_5 : decode cX11_day 5 = .ok (.getfield 285, 3) := by decide +kernel
theorem dX11_day_8 : decode cX11_day 8 = .ok (.invokevirtual 282, 3) := by decide +kernel
theorem dX11_day_11 : decode cX11_day 11 = .ok (.ireturn, 1) := by decide +kernel
theorem dX11_ordersCarriedOut_0 : decode cX11_ordersCarriedOut 0 = .ok (.aload_n 0, 1) := by decide +kernel
theorem dX11_ordersCarriedOut_1 : decode cX11_ordersCarriedOut 1 = .ok (.aload_n 0, 1) := by decide +kernel
theorem dX11_ordersCarriedOut_2 : decode cX11_ordersCarriedOut 2 = .ok (.getfield 50, 3) := by decide +kernel
theorem dX11_ordersCarriedOut_5 : decode cX11_ordersCarriedOut 5 = .ok (.getfield 288, 3) := by decide +kernel
theorem dX11_ordersCarriedOut_8 : decode cX11_ordersCarriedOut 8 = .ok (.invokevirtual 282, 3) := by decide +kernel
theorem dX11_ordersCarriedOut_11 : decode cX11_ordersCarriedOut 11 = .ok (.ireturn, 1) := by decide +kernel
theorem dX11_blocked_0 : decode cX11_blocked 0 = .ok (.aload_n 0, 1) := by decide +kernel
theorem dX11_blocked_1 : decode cX11_blocked 1 = .ok (.aload_n 0, 1) := by decide +kernel
theorem dX11_blocked_2 : decode cX11_blocked 2 = .ok (.getfield 50, 3) := by decide +kernel
theorem dX11_blocked_5 : decode cX11_blocked 5 = .ok (.invokevirtual 291, 3) := by decide +kernel
theorem dX11_blocked_8 : decode cX11_blocked 8 = .ok (.invokevirtual 282, 3) := by decide +kernel
theorem dX11_blocked_11 : decode cX11_blocked 11 = .ok (.ireturn, 1) := by decide +kernel
theorem dX11_honey_0 : decode cX11_honey 0 = .ok (.aload_n 0, 1) := by decide +kernel
theorem dX11_honey_1 : decode cX11_honey 1 = .ok (.aload_n 0, 1) := by decide +kernel
theorem dX11_honey_2 : decode cX11_honey 2 = .ok (.getfield 50, 3) := by decide +kernel
theorem dX11_honey_5 : decode cX11_honey 5 = .ok (.invokevirtual 294, 3) := by decide +kernel
theorem dX11_honey_8 : decode cX11_honey 8 = .ok (.invokevirtual 282, 3) := by decide +kernel
theorem dX11_honey_11 : decode cX11_honey 11 = .ok (.ireturn, 1) := by decide +kernel
theorem dX11_isQueenAwake_0 : decode cX11_isQueenAwake 0 = .ok (.aload_n 0, 1) := by decide +kernel
theorem dX11_isQueenAwake_1 : decode cX11_isQueenAwake 1 = .ok (.iconst 0, 1) := by decide +kernel
theorem dX11_isQueenAwake_2 : decode cX11_isQueenAwake 2 = .ok (.putfield 60, 3) := by decide +kernel
theorem dX11_isQueenAwake_5 : decode cX11_isQueenAwake 5 = .ok (.aload_n 0, 1) := by decide +kernel
theorem dX11_isQueenAwake_6 : decode cX11_isQueenAwake 6 = .ok (.getfield 50, 3) := by decide +kernel
theorem dX11_isQueenAwake_9 : decode cX11_isQueenAwake 9 = .ok (.getfield 297, 3) := by decide +kernel
theorem dX11_isQueenAwake_12 : decode cX11_isQueenAwake 12 = .ok (.bipush 8, 2) := by decide +kernel
theorem dX11_isQueenAwake_14 : decode cX11_isQueenAwake 14 = .ok (.baload, 1) := by decide +kernel
theorem dX11_isQueenAwake_15 : decode cX11_isQueenAwake 15 = .ok (.ifCond .ne 7, 3) := by decide +kernel
theorem dX11_isQueenAwake_18 : decode cX11_isQueenAwake 18 = .ok (.iconst 1, 1) := by decide +kernel
theorem dX11_isQueenAwake_19 : decode cX11_isQueenAwake 19 = .ok (.goto 4, 3) := by decide +kernel
theorem dX11_isQueenAwake_22 : decode cX11_isQueenAwake 22 = .ok (.iconst 0, 1) := by decide +kernel
theorem dX11_isQueenAwake_23 : decode cX11_isQueenAwake 23 = .ok (.ireturn, 1) := by decide +kernel
theorem dX11_isKnown_0 : decode cX11_isKnown 0 = .ok (.aload_n 0, 1) := by decide +kernel
theorem dX11_isKnown_1 : decode cX11_isKnown 1 = .ok (.iload_n 1, 1) := by decide +kernel
theorem dX11_isKnown_2 : decode cX11_isKnown 2 = .ok (.ifCond .eq 7, 3) := by decide +kernel
theorem dX11_isKnown_5 : decode cX11_isKnown 5 = .ok (.iconst 0, 1) := by decide +kernel
theorem dX11_isKnown_6 : decode cX11_isKnown 6 = .ok (.goto 4, 3) := by decide +kernel
theorem dX11_isKnown_9 : decode cX11_isKnown 9 = .ok (.iconst 1, 1) := by decide +kernel
theorem dX11_isKnown_10 : decode cX11_isKnown 10 = .ok (.putfield 60, 3) := by decide +kernel
theorem dX11_isKnown_13 : decode cX11_isKnown 13 = .ok (.iload_n 1, 1) := by decide +kernel
theorem dX11_isKnown_14 : decode cX11_isKnown 14 = .ok (.ireturn, 1) := by decide +kernel
theorem dX11_honeyOf_0 : decode cX11_honeyOf 0 = .ok (.aload_n 0, 1) := by decide +kernel
theorem dX11_honeyOf_1 : decode cX11_honeyOf 1 = .ok (.aload_n 0, 1) := by decide +kernel
theorem dX11_honeyOf_2 : decode cX11_honeyOf 2 = .ok (.iload_n 1, 1) := by decide +kernel
theorem dX11_honeyOf_3 : decode cX11_honeyOf 3 = .ok (.invokevirtual 301, 3) := by decide +kernel
theorem dX11_honeyOf_6 : decode cX11_honeyOf 6 = .ok (.invokevirtual 304, 3) := by decide +kernel
theorem dX11_honeyOf_9 : decode cX11_honeyOf 9 = .ok (.ifCond .eq 15, 3) := by decide +kernel
theorem dX11_honeyOf_12 : decode cX11_honeyOf 12 = .ok (.aload_n 0, 1) := by decide +kernel
theorem dX11_honeyOf_13 : decode cX11_honeyOf 13 = .ok (.getfield 50, 3) := by decide +kernel
theorem dX11_honeyOf_16 : decode cX11_honeyOf 16 = .ok (.getfield 308, 3) := by decide +kernel
theorem dX11_honeyOf_19 : decode cX11_honeyOf 19 = .ok (.iload_n 1, 1) := by decide +kernel
theorem dX11_honeyOf_20 : decode cX11_honeyOf 20 = .ok (.iaload, 1) := by decide +kernel
theorem dX11_honeyOf_21 : decode cX11_honeyOf 21 = .ok (.goto 4, 3) := by decide +kernel
theorem dX11_honeyOf_24 : decode cX11_honeyOf 24 = .ok (.iconst 0, 1) := by decide +kernel
theorem dX11_honeyOf_25 : decode cX11_honeyOf 25 = .ok (.ireturn, 1) := by decide +kernel
theorem dX11_isAwake_0 : decode cX11_isAwake 0 = .ok (.aload_n 0, 1) := by decide +kernel
theorem dX11_isAwake_1 : decode cX11_isAwake 1 = .ok (.aload_n 0, 1) := by decide +kernel
theorem dX11_isAwake_2 : decode cX11_isAwake 2 = .ok (.iload_n 1, 1) := by decide +kernel
theorem dX11_isAwake_3 : decode cX11_isAwake 3 = .ok (.invokevirtual 301, 3) := by decide +kernel
theorem dX11_isAwake_6 : decode cX11_isAwake 6 = .ok (.invokevirtual 304, 3) := by decide +kernel
theorem dX11_isAwake_9 : decode cX11_isAwake 9 = .ok (.ifCond .eq 19, 3) := by decide +kernel
theorem dX11_isAwake_12 : decode cX11_isAwake 12 = .ok (.aload_n 0, 1) := by decide +kernel
theorem dX11_isAwake_13 : decode cX11_isAwake 13 = .ok (.getfield 50, 3) := by decide +kernel
theorem dX11_isAwake_16 : decode cX11_isAwake 16 = .ok (.getfield 297, 3) := by decide +kernel
theorem dX11_isAwake_19 : decode cX11_isAwake 19 = .ok (.iload_n 1, 1) := by decide +kernel
theorem dX11_isAwake_20 : decode cX11_isAwake 20 = .ok (.baload, 1) := by decide +kernel
theorem dX11_isAwake_21 : decode cX11_isAwake 21 = .ok (.ifCond .ne 7, 3) := by decide +kernel
theorem dX11_isAwake_24 : decode cX11_isAwake 24 = .ok (.iconst 1, 1) := by decide +kernel
theorem dX11_isAwake_25 : decode cX11_isAwake 25 = .ok (.goto 4, 3) := by decide +kernel
theorem dX11_isAwake_28 : decode cX11_isAwake 28 = .ok (.iconst 0, 1) := by decide +kernel
theorem dX11_isAwake_29 : decode cX11_isAwake 29 = .ok (.ireturn, 1) := by decide +kernel
theorem dX11_blockedBy_0 : decode cX11_blockedBy 0 = .ok (.aload_n 0, 1) := by decide +kernel
theorem dX11_blockedBy_1 : decode cX11_blockedBy 1 = .ok (.aload_n 0, 1) := by decide +kernel
theorem dX11_blockedBy_2 : decode cX11_blockedBy 2 = .ok (.iload_n 1, 1) := by decide +kernel
theorem dX11_blockedBy_3 : decode cX11_blockedBy 3 = .ok (.invokevirtual 301, 3) := by decide +kernel
theorem dX11_blockedBy_6 : decode cX11_blockedBy 6 = .ok (.invokevirtual 304, 3) := by decide +kernel
theorem dX11_blockedBy_9 : decode cX11_blockedBy 9 = .ok (.ifCond .eq 15, 3) := by decide +kernel
theorem dX11_blockedBy_12 : decode cX11_blockedBy 12 = .ok (.aload_n 0, 1) := by decide +kernel
theorem dX11_blockedBy_13 : decode cX11_blockedBy 13 = .ok (.getfield 50, 3) := by decide +kernel
theorem dX11_blockedBy_16 : decode cX11_blockedBy 16 = .ok (.getfield 309, 3) := by decide +kernel
theorem dX11_blockedBy_19 : decode cX11_blockedBy 19 = .ok (.iload_n 1, 1) := by decide +kernel
theorem dX11_blockedBy_20 : decode cX11_blockedBy 20 = .ok (.iaload, 1) := by decide +kernel
theorem dX11_blockedBy_21 : decode cX11_blockedBy 21 = .ok (.goto 4, 3) := by decide +kernel
theorem dX11_blockedBy_24 : decode cX11_blockedBy 24 = .ok (.iconst 0, 1) := by decide +kernel
theorem dX11_blockedBy_25 : decode cX11_blockedBy 25 = .ok (.ireturn, 1) := by decide +kernel
theorem dX11_logOf_0 : decode cX11_logOf 0 = .ok (.aload_n 0, 1) := by decide +kernel
theorem dX11_logOf_1 : decode cX11_logOf 1 = .ok (.aload_n 0, 1) := by decide +kernel
theorem dX11_logOf_2 : decode cX11_logOf 2 = .ok (.iload_n 1, 1) := by decide +kernel
theorem dX11_logOf_3 : decode cX11_logOf 3 = .ok (.invokevirtual 301, 3) := by decide +kernel
theorem dX11_logOf_6 : decode cX11_logOf 6 = .ok (.invokevirtual 304, 3) := by decide +kernel
theorem dX11_logOf_9 : decode cX11_logOf 9 = .ok (.ifCond .eq 15, 3) := by decide +kernel
theorem dX11_logOf_12 : decode cX11_logOf 12 = .ok (.aload_n 0, 1) := by decide +kernel
theorem dX11_logOf_13 : decode cX11_logOf 13 = .ok (.getfield 50, 3) := by decide +kernel
theorem dX11_logOf_16 : decode cX11_logOf 16 = .ok (.getfield 312, 3) := by decide +kernel
theorem dX11_logOf_19 : decode cX11_logOf 19 = .ok (.iload_n 1, 1) := by decide +kernel
theorem dX11_logOf_20 : decode cX11_logOf 20 = .ok (.iaload, 1) := by decide +kernel
theorem dX11_logOf_21 : decode cX11_logOf 21 = .ok (.goto 4, 3) := by decide +kernel
theorem dX11_logOf_24 : decode cX11_logOf 24 = .ok (.iconst 0, 1) := by decide +kernel
theorem dX11_logOf_25 : decode cX11_logOf 25 = .ok (.ireturn, 1) := by decide +kernel
theorem dX11_stateOf_0 : decode cX11_stateOf 0 = .ok (.aload_n 0, 1) := by decide +kernel
theorem dX11_stateOf_1 : decode cX11_stateOf 1 = .ok (.aload_n 0, 1) := by decide +kernel
theorem dX11_stateOf_2 : decode cX11_stateOf 2 = .ok (.iload_n 1, 1) := by decide +kernel
theorem dX11_stateOf_3 : decode cX11_stateOf 3 = .ok (.invokevirtual 73, 3) := by decide +kernel
theorem dX11_stateOf_6 : decode cX11_stateOf 6 = .ok (.invokevirtual 304, 3) := by decide +kernel
theorem dX11_stateOf_9 : decode cX11_stateOf 9 = .ok (.ifCond .eq 15, 3) := by decide +kernel
theorem dX11_stateOf_12 : decode cX11_stateOf 12 = .ok (.aload_n 0, 1) := by decide +kernel
theorem dX11_stateOf_13 : decode cX11_stateOf 13 = .ok (.getfield 50, 3) := by decide +kernel
theorem dX11_stateOf_16 : decode cX11_stateOf 16 = .ok (.getfield 315, 3) := by decide +kernel
theorem dX11_stateOf_19 : decode cX11_stateOf 19 = .ok (.iload_n 1, 1) := by decide +kernel
theorem dX11_stateOf_20 : decode cX11_stateOf 20 = .ok (.iaload, 1) := by decide +kernel
theorem dX11_stateOf_21 : decode cX11_stateOf 21 = .ok (.goto 4, 3) := by decide +kernel
theorem dX11_stateOf_24 : decode cX11_stateOf 24 = .ok (.iconst 0, 1) := by decide +kernel
theorem dX11_stateOf_25 : decode cX11_stateOf 25 = .ok (.ireturn, 1) := by decide +kernel
theorem dX11_waitsOf_0 : decode cX11_waitsOf 0 = .ok (.aload_n 0, 1) := by decide +kernel
theorem dX11_waitsOf_1 : decode cX11_waitsOf 1 = .ok (.aload_n 0, 1) := by decide +kernel
theorem dX11_waitsOf_2 : decode cX11_waitsOf 2 = .ok (.iload_n 1, 1) := by decide +kernel
theorem dX11_waitsOf_3 : decode cX11_waitsOf 3 = .ok (.invokevirtual 73, 3) := by decide +kernel
theorem dX11_waitsOf_6 : decode cX11_waitsOf 6 = .ok (.invokevirtual 304, 3) := by decide +kernel
theorem dX11_waitsOf_9 : decode cX11_waitsOf 9 = .ok (.ifCond .eq 14, 3) := by decide +kernel
theorem dX11_waitsOf_12 : decode cX11_waitsOf 12 = .ok (.aload_n 0, 1) := by decide +kernel
theorem dX11_waitsOf_13 : decode cX11_waitsOf 13 = .ok (.getfield 50, 3) := by decide +kernel
theorem dX11_waitsOf_16 : decode cX11_waitsOf 16 = .ok (.iload_n 1, 1) := by decide +kernel
theorem dX11_waitsOf_17 : decode cX11_waitsOf 17 = .ok (.invokevirtual 318, 3) := by decide +kernel
theorem dX11_waitsOf_20 : decode cX11_waitsOf 20 = .ok (.goto 4, 3) := by decide +kernel
theorem dX11_waitsOf_23 : decode cX11_waitsOf 23 = .ok (.iconst 0, 1) := by decide +kernel
theorem dX11_waitsOf_24 : decode cX11_waitsOf 24 = .ok (.ireturn, 1) := by decide +kernel
theorem dX11_partsOf_0 : decode cX11_partsOf 0 = .ok (.aload_n 0, 1) := by decide +kernel
theorem dX11_partsOf_1 : decode cX11_partsOf 1 = .ok (.aload_n 0, 1) := by decide +kernel
theorem dX11_partsOf_2 : decode cX11_partsOf 2 = .ok (.iload_n 1, 1) := by decide +kernel
theorem dX11_partsOf_3 : decode cX11_partsOf 3 = .ok (.invokevirtual 73, 3) := by decide +kernel
theorem dX11_partsOf_6 : decode cX11_partsOf 6 = .ok (.invokevirtual 304, 3) := by decide +kernel
theorem dX11_partsOf_9 : decode cX11_partsOf 9 = .ok (.ifCond .eq 15, 3) := by decide +kernel
theorem dX11_partsOf_12 : decode cX11_partsOf 12 = .ok (.aload_n 0, 1) := by decide +kernel
theorem dX11_partsOf_13 : decode cX11_partsOf 13 = .ok (.getfield 35, 3) := by decide +kernel
theorem dX11_partsOf_16 : decode cX11_partsOf 16 = .ok (.getfield 77, 3) := by decide +kernel
theorem dX11_partsOf_19 : decode cX11_partsOf 19 = .ok (.iload_n 1, 1) := by decide +kernel
theorem dX11_partsOf_20 : decode cX11_partsOf 20 = .ok (.iaload, 1) := by decide +kernel
theorem dX11_partsOf_21 : decode cX11_partsOf 21 = .ok (.goto 4, 3) := by decide +kernel
theorem dX11_partsOf_24 : decode cX11_partsOf 24 = .ok (.iconst 0, 1) := by decide +kernel
theorem dX11_partsOf_25 : decode cX11_partsOf 25 = .ok (.ireturn, 1) := by decide +kernel
theorem dX11_droneIn_0 : decode cX11_droneIn 0 = .ok (.aload_n 0, 1) := by decide +kernel
theorem dX11_droneIn_1 : decode cX11_droneIn 1 = .ok (.aload_n 0, 1) := by decide +kernel
theorem dX11_droneIn_2 : decode cX11_droneIn 2 = .ok (.iload_n 1, 1) := by decide +kernel
theorem dX11_droneIn_3 : decode cX11_droneIn 3 = .ok (.iload_n 2, 1) := by decide +kernel
theorem dX11_droneIn_4 : decode cX11_droneIn 4 = .ok (.invokevirtual 321, 3) := by decide +kernel
theorem dX11_droneIn_7 : decode cX11_droneIn 7 = .ok (.invokevirtual 304, 3) := by decide +kernel
theorem dX11_droneIn_10 : decode cX11_droneIn 10 = .ok (.ifCond .eq 20, 3) := by decide +kernel
theorem dX11_droneIn_13 : decode cX11_droneIn 13 = .ok (.aload_n 0, 1) := by decide +kernel
theorem dX11_droneIn_14 : decode cX11_droneIn 14 = .ok (.getfield 35, 3) := by decide +kernel
theorem dX11_droneIn_17 : decode cX11_droneIn 17 = .ok (.getfield 234, 3) := by decide +kernel
theorem dX11_droneIn_20 : decode cX11_droneIn 20 = .ok (.bipush 6, 2) := by decide +kernel
theorem dX11_droneIn_22 : decode cX11_droneIn 22 = .ok (.iload_n 1, 1) := by decide +kernel
theorem dX11_droneIn_23 : decode cX11_droneIn 23 = .ok (.imul, 1) := by decide +kernel
theorem dX11_droneIn_24 : decode cX11_droneIn 24 = .ok (.iload_n 2, 1) := by decide +kernel
theorem dX11_droneIn_25 : decode cX11_droneIn 25 = .ok (.iadd, 1) := by decide +kernel
theorem dX11_droneIn_26 : decode cX11_droneIn 26 = .ok (.iaload, 1) := by decide +kernel
theorem dX11_droneIn_27 : decode cX11_droneIn 27 = .ok (.goto 4, 3) := by decide +kernel
theorem dX11_droneIn_30 : decode cX11_droneIn 30 = .ok (.iconst 0, 1) := by decide +kernel
theorem dX11_droneIn_31 : decode cX11_droneIn 31 = .ok (.ireturn, 1) := by decide +kernel
theorem dX11_changeIn_0 : decode cX11_changeIn 0 = .ok (.aload_n 0, 1) := by decide +kernel
theorem dX11_changeIn_1 : decode cX11_changeIn 1 = .ok (.aload_n 0, 1) := by decide +kernel
theorem dX11_changeIn_2 : decode cX11_changeIn 2 = .ok (.iload_n 1, 1) := by decide +kernel
theorem dX11_changeIn_3 : decode cX11_changeIn 3 = .ok (.iload_n 2, 1) := by decide +kernel
theorem dX11_changeIn_4 : decode cX11_changeIn 4 = .ok (.invokevirtual 321, 3) := by decide +kernel
theorem dX11_changeIn_7 : decode cX11_changeIn 7 = .ok (.invokevirtual 304, 3) := by decide +kernel
theorem dX11_changeIn_10 : decode cX11_changeIn 10 = .ok (.ifCond .eq 20, 3) := by decide +kernel
theorem dX11_changeIn_13 : decode cX11_changeIn 13 = .ok (.aload_n 0, 1) := by decide +kernel
theorem dX11_changeIn_14 : decode cX11_changeIn 14 = .ok (.getfield 35, 3) := by decide +kernel
theorem dX11_changeIn_17 : decode cX11_changeIn 17 = .ok (.getfield 237, 3) := by decide +kernel
theorem dX11_changeIn_20 : decode cX11_changeIn 20 = .ok (.bipush 6, 2) := by decide +kernel
theorem dX11_changeIn_22 : decode cX11_changeIn 22 = .ok (.iload_n 1, 1) := by decide +kernel
theorem dX11_changeIn_23 : decode cX11_changeIn 23 = .ok (.imul, 1) := by decide +kernel
theorem dX11_changeIn_24 : decode cX11_changeIn 24 = .ok (.iload_n 2, 1) := by decide +kernel
theorem dX11_changeIn_25 : decode cX11_changeIn 25 = .ok (.iadd, 1) := by decide +kernel
theorem dX11_changeIn_26 : decode cX11_changeIn 26 = .ok (.iaload, 1) := by decide +kernel
theorem dX11_changeIn_27 : decode cX11_changeIn 27 = .ok (.goto 4, 3) := by decide +kernel
theorem dX11_changeIn_30 : decode cX11_changeIn 30 = .ok (.iconst 0, 1) := by decide +kernel
theorem dX11_changeIn_31 : decode cX11_changeIn 31 = .ok (.ireturn, 1) := by decide +kernel
theorem dX11_voteIn_0 : decode cX11_voteIn 0 = .ok (.aload_n 0, 1) := by decide +kernel
theorem dX11_voteIn_1 : decode cX11_voteIn 1 = .ok (.aload_n 0, 1) := by decide +kernel
theorem dX11_voteIn_2 : decode cX11_voteIn 2 = .ok (.iload_n 1, 1) := by decide +kernel
theorem dX11_voteIn_3 : decode cX11_voteIn 3 = .ok (.iload_n 2, 1) := by decide +kernel
theorem dX11_voteIn_4 : decode cX11_voteIn 4 = .ok (.invokevirtual 321, 3) := by decide +kernel
theorem dX11_voteIn_7 : decode cX11_voteIn 7 = .ok (.invokevirtual 304, 3) := by decide +kernel
theorem dX11_voteIn_10 : decode cX11_voteIn 10 = .ok (.ifCond .eq 20, 3) := by decide +kernel
theorem dX11_voteIn_13 : decode cX11_voteIn 13 = .ok (.aload_n 0, 1) := by decide +kernel
theorem dX11_voteIn_14 : decode cX11_voteIn 14 = .ok (.getfield 50, 3) := by decide +kernel
theorem dX11_voteIn_17 : decode cX11_voteIn 17 = .ok (.getfield 324, 3) := by decide +kernel
theorem dX11_voteIn_20 : decode cX11_voteIn 20 = .ok (.bipush 6, 2) := by decide +kernel
theorem dX11_voteIn_22 : decode cX11_voteIn 22 = .ok (.iload_n 1, 1) := by decide +kernel
theorem dX11_voteIn_23 : decode cX11_voteIn 23 = .ok (.imul, 1) := by decide +kernel
theorem dX11_voteIn_24 : decode cX11_voteIn 24 = .ok (.iload_n 2, 1) := by decide +kernel
theorem dX11_voteIn_25 : decode cX11_voteIn 25 = .ok (.iadd, 1) := by decide +kernel
theorem dX11_voteIn_26 : decode cX11_voteIn 26 = .ok (.iaload, 1) := by decide +kernel
theorem dX11_voteIn_27 : decode cX11_voteIn 27 = .ok (.goto 4, 3) := by decide +kernel
theorem dX11_voteIn_30 : decode cX11_voteIn 30 = .ok (.iconst 0, 1) := by decide +kernel
theorem dX11_voteIn_31 : decode cX11_voteIn 31 = .ok (.ireturn, 1) := by decide +kernel
theorem dX11_hasHeard_0 : decode cX11_hasHeard 0 = .ok (.aload_n 0, 1) := by decide +kernel
theorem dX11_hasHeard_1 : decode cX11_hasHeard 1 = .ok (.aload_n 0, 1) := by decide +kernel
theorem dX11_hasHeard_2 : decode cX11_hasHeard 2 = .ok (.iload_n 1, 1) := by decide +kernel
theorem dX11_hasHeard_3 : decode cX11_hasHeard 3 = .ok (.iload_n 2, 1) := by decide +kernel
theorem dX11_hasHeard_4 : decode cX11_hasHeard 4 = .ok (.invokevirtual 321, 3) := by decide +kernel
theorem dX11_hasHeard_7 : decode cX11_hasHeard 7 = .ok (.invokevirtual 304, 3) := by decide +kernel
theorem dX11_hasHeard_10 : decode cX11_hasHeard 10 = .ok (.ifCond .eq 24, 3) := by decide +kernel
theorem dX11_hasHeard_13 : decode cX11_hasHeard 13 = .ok (.aload_n 0, 1) := by decide +kernel
theorem dX11_hasHeard_14 : decode cX11_hasHeard 14 = .ok (.getfield 50, 3) := by decide +kernel
theorem dX11_hasHeard_17 : decode cX11_hasHeard 17 = .ok (.getfield 327, 3) := by decide +kernel
theorem dX11_hasHeard_20 : decode cX11_hasHeard 20 = .ok (.bipush 6, 2) := by decide +kernel
theorem dX11_hasHeard_22 : decode cX11_hasHeard 22 = .ok (.iload_n 1, 1) := by decide +kernel
theorem dX11_hasHeard_23 : decode cX11_hasHeard 23 = .ok (.imul, 1) := by decide +kernel
theorem dX11_hasHeard_24 : decode cX11_hasHeard 24 = .ok (.iload_n 2, 1) := by decide +kernel
theorem dX11_hasHeard_25 : decode cX11_hasHeard 25 = .ok (.iadd, 1) := by decide +kernel
theorem dX11_hasHeard_26 : decode cX11_hasHeard 26 = .ok (.baload, 1) := by decide +kernel
theorem dX11_hasHeard_27 : decode cX11_hasHeard 27 = .ok (.ifCond .eq 7, 3) := by decide +kernel
theorem dX11_hasHeard_30 : decode cX11_hasHeard 30 = .ok (.iconst 1, 1) := by decide +kernel
theorem dX11_hasHeard_31 : decode cX11_hasHeard 31 = .ok (.goto 4, 3) := by decide +kernel
theorem dX11_hasHeard_34 : decode cX11_hasHeard 34 = .ok (.iconst 0, 1) := by decide +kernel
theorem dX11_hasHeard_35 : decode cX11_hasHeard 35 = .ok (.ireturn, 1) := by decide +kernel
theorem dX11_votesFor_0 : decode cX11_votesFor 0 = .ok (.aload_n 0, 1) := by decide +kernel
theorem dX11_votesFor_1 : decode cX11_votesFor 1 = .ok (.aload_n 0, 1) := by decide +kernel
theorem dX11_votesFor_2 : decode cX11_votesFor 2 = .ok (.iload_n 1, 1) := by decide +kernel
theorem dX11_votesFor_3 : decode cX11_votesFor 3 = .ok (.invokevirtual 73, 3) := by decide +kernel
theorem dX11_votesFor_6 : decode cX11_votesFor 6 = .ok (.invokevirtual 304, 3) := by decide +kernel
theorem dX11_votesFor_9 : decode cX11_votesFor 9 = .ok (.ifCond .eq 15, 3) := by decide +kernel
theorem dX11_votesFor_12 : decode cX11_votesFor 12 = .ok (.aload_n 0, 1) := by decide +kernel
theorem dX11_votesFor_13 : decode cX11_votesFor 13 = .ok (.getfield 50, 3) := by decide +kernel
theorem dX11_votesFor_16 : decode cX11_votesFor 16 = .ok (.iload_n 1, 1) := by decide +kernel
theorem dX11_votesFor_17 : decode cX11_votesFor 17 = .ok (.iconst 1, 1) := by decide +kernel
theorem dX11_votesFor_18 : decode cX11_votesFor 18 = .ok (.invokevirtual 330, 3) := by decide +kernel
theorem dX11_votesFor_21 : decode cX11_votesFor 21 = .ok (.goto 4, 3) := by decide +kernel
theorem dX11_votesFor_24 : decode cX11_votesFor 24 = .ok (.iconst 0, 1) := by decide +kernel
theorem dX11_votesFor_25 : decode cX11_votesFor 25 = .ok (.ireturn, 1) := by decide +kernel
theorem dX11_wouldAgree_0 : decode cX11_wouldAgree 0 = .ok (.aload_n 0, 1) := by decide +kernel
theorem dX11_wouldAgree_1 : decode cX11_wouldAgree 1 = .ok (.aload_n 0, 1) := by decide +kernel
theorem dX11_wouldAgree_2 : decode cX11_wouldAgree 2 = .ok (.iload_n 1, 1) := by decide +kernel
theorem dX11_wouldAgree_3 : decode cX11_wouldAgree 3 = .ok (.invokevirtual 73, 3) := by decide +kernel
theorem dX11_wouldAgree_6 : decode cX11_wouldAgree 6 = .ok (.invokevirtual 304, 3) := by decide +kernel
theorem dX11_wouldAgree_9 : decode cX11_wouldAgree 9 = .ok (.ifCond .eq 18, 3) := by decide +kernel
theorem dX11_wouldAgree_12 : decode cX11_wouldAgree 12 = .ok (.aload_n 0, 1) := by decide +kernel
theorem dX11_wouldAgree_13 : decode cX11_wouldAgree 13 = .ok (.getfield 50, 3) := by decide +kernel
theorem dX11_wouldAgree_16 : decode cX11_wouldAgree 16 = .ok (.iload_n 1, 1) := by decide +kernel
theorem dX11_wouldAgree_17 : decode cX11_wouldAgree 17 = .ok (.invokevirtual 333, 3) := by decide +kernel
theorem dX11_wouldAgree_20 : decode cX11_wouldAgree 20 = .ok (.ifCond .eq 7, 3) := by decide +kernel
theorem dX11_wouldAgree_23 : decode cX11_wouldAgree 23 = .ok (.iconst 1, 1) := by decide +kernel
theorem dX11_wouldAgree_24 : decode cX11_wouldAgree 24 = .ok (.goto 4, 3) := by decide +kernel
theorem dX11_wouldAgree_27 : decode cX11_wouldAgree 27 = .ok (.iconst 0, 1) := by decide +kernel
theorem dX11_wouldAgree_28 : decode cX11_wouldAgree 28 = .ok (.ireturn, 1) := by decide +kernel
theorem dX11_begin_0 : decode cX11_begin 0 = .ok (.aload_n 0, 1) := by decide +kernel
theorem dX11_begin_1 : decode cX11_begin 1 = .ok (.aload_n 0, 1) := by decide +kernel
theorem dX11_begin_2 : decode cX11_begin 2 = .ok (.iload_n 1, 1) := by decide +kernel
theorem dX11_begin_3 : decode cX11_begin 3 = .ok (.invokevirtual 73, 3) := by decide +kernel
theorem dX11_begin_6 : decode cX11_begin 6 = .ok (.invokevirtual 304, 3) := by decide +kernel
theorem dX11_begin_9 : decode cX11_begin 9 = .ok (.ifCond .ne 5, 3) := by decide +kernel
theorem dX11_begin_12 : decode cX11_begin 12 = .ok (.iconst 0, 1) := by decide +kernel
theorem dX11_begin_13 : decode cX11_begin 13 = .ok (.ireturn, 1) := by decide +kernel
theorem dX11_begin_14 : decode cX11_begin 14 = .ok (.aload_n 0, 1) := by decide +kernel
theorem dX11_begin_15 : decode cX11_begin 15 = .ok (.getfield 50, 3) := by decide +kernel
theorem dX11_begin_18 : decode cX11_begin 18 = .ok (.iload_n 1, 1) := by decide +kernel
theorem dX11_begin_19 : decode cX11_begin 19 = .ok (.invokevirtual 336, 3) := by decide +kernel
theorem dX11_begin_22 : decode cX11_begin 22 = .ok (.ifCond .ne 9, 3) := by decide +kernel
theorem dX11_begin_25 : decode cX11_begin 25 = .ok (.aload_n 0, 1) := by decide +kernel
theorem dX11_begin_26 : decode cX11_begin 26 = .ok (.iconst 2, 1) := by decide +kernel
theorem dX11_begin_27 : decode cX11_begin 27 = .ok (.invokevirtual 276, 3) := by decide +kernel
theorem dX11_begin_30 : decode cX11_begin 30 = .ok (.ireturn, 1) := by decide +kernel
theorem dX11_begin_31 : decode cX11_begin 31 = .ok (.aload_n 0, 1) := by decide +kernel
theorem dX11_begin_32 : decode cX11_begin 32 = .ok (.getfield 50, 3) := by decide +kernel
theorem dX11_begin_35 : decode cX11_begin 35 = .ok (.iload_n 1, 1) := by decide +kernel
theorem dX11_begin_36 : decode cX11_begin 36 = .ok (.invokevirtual 339, 3) := by decide +kernel
theorem dX11_begin_39 : decode cX11_begin 39 = .ok (.aload_n 0, 1) := by decide +kernel
theorem dX11_begin_40 : decode cX11_begin 40 = .ok (.getfield 50, 3) := by decide +kernel
theorem dX11_begin_43 : decode cX11_begin 43 = .ok (.invokevirtual 342, 3) := by decide +kernel
theorem dX11_begin_46 : decode cX11_begin 46 = .ok (.ireturn, 1) := by decide +kernel
theorem dX11_turn_0 : decode cX11_turn 0 = .ok (.aload_n 0, 1) := by decide +kernel
theorem dX11_turn_1 : decode cX11_turn 1 = .ok (.aload_n 0, 1) := by decide +kernel
theorem dX11_turn_2 : decode cX11_turn 2 = .ok (.iload_n 1, 1) := by decide +kernel
theorem dX11_turn_3 : decode cX11_turn 3 = .ok (.invokevirtual 301, 3) := by decide +kernel
theorem dX11_turn_6 : decode cX11_turn 6 = .ok (.invokevirtual 304, 3) := by decide +kernel
theorem dX11_turn_9 : decode cX11_turn 9 = .ok (.ifCond .ne 5, 3) := by decide +kernel
theorem dX11_turn_12 : decode cX11_turn 12 = .ok (.iconst 0, 1) := by decide +kernel
theorem dX11_turn_13 : decode cX11_turn 13 = .ok (.ireturn, 1) := by decide +kernel
theorem dX11_turn_14 : decode cX11_turn 14 = .ok (.aload_n 0, 1) := by decide +kernel
theorem dX11_turn_15 : decode cX11_turn 15 = .ok (.getfield 50, 3) := by decide +kernel
theorem dX11_turn_18 : decode cX11_turn 18 = .ok (.getfield 297, 3) := by decide +kernel
theorem dX11_turn_21 : decode cX11_turn 21 = .ok (.iload_n 1, 1) := by decide +kernel
theorem dX11_turn_22 : decode cX11_turn 22 = .ok (.baload, 1) := by decide +kernel
theorem dX11_turn_23 : decode cX11_turn 23 = .ok (.iload_n 2, 1) := by decide +kernel
theorem dX11_turn_24 : decode cX11_turn 24 = .ok (.if_icmp .eq 9, 3) := by decide +kernel
theorem dX11_turn_27 : decode cX11_turn 27 = .ok (.aload_n 0, 1) := by decide +kernel
theorem dX11_turn_28 : decode cX11_turn 28 = .ok (.iconst 2, 1) := by decide +kernel
theorem dX11_turn_29 : decode cX11_turn 29 = .ok (.invokevirtual 276, 3) := by decide +kernel
theorem dX11_turn_32 : decode cX11_turn 32 = .ok (.ireturn, 1) := by decide +kernel
theorem dX11_turn_33 : decode cX11_turn 33 = .ok (.aload_n 0, 1) := by decide +kernel
theorem dX11_turn_34 : decode cX11_turn 34 = .ok (.getfield 50, 3) := by decide +kernel
theorem dX11_turn_37 : decode cX11_turn 37 = .ok (.iload_n 1, 1) := by decide +kernel
theorem dX11_turn_38 : decode cX11_turn 38 = .ok (.invokevirtual 345, 3) := by decide +kernel
theorem dX11_turn_41 : decode cX11_turn 41 = .ok (.pop, 1) := by decide +kernel
theorem dX11_turn_42 : decode cX11_turn 42 = .ok (.aload_n 0, 1) := by decide +kernel
theorem dX11_turn_43 : decode cX11_turn 43 = .ok (.getfield 50, 3) := by decide +kernel
theorem dX11_turn_46 : decode cX11_turn 46 = .ok (.invokevirtual 348, 3) := by decide +kernel
theorem dX11_turn_49 : decode cX11_turn 49 = .ok (.ireturn, 1) := by decide +kernel
theorem dX11_crash_0 : decode cX11_crash 0 = .ok (.aload_n 0, 1) := by decide +kernel
theorem dX11_crash_1 : decode cX11_crash 1 = .ok (.iload_n 1, 1) := by decide +kernel
theorem dX11_crash_2 : decode cX11_crash 2 = .ok (.iconst 0, 1) := by decide +kernel
theorem dX11_crash_3 : decode cX11_crash 3 = .ok (.invokevirtual 351, 3) := by decide +kernel
theorem dX11_crash_6 : decode cX11_crash 6 = .ok (.ireturn, 1) := by decide +kernel
theorem dX11_wake_0 : decode cX11_wake 0 = .ok (.aload_n 0, 1) := by decide +kernel
theorem dX11_wake_1 : decode cX11_wake 1 = .ok (.iload_n 1, 1) := by decide +kernel
theorem dX11_wake_2 : decode cX11_wake 2 = .ok (.iconst 1, 1) := by decide +kernel
theorem dX11_wake_3 : decode cX11_wake 3 = .ok (.invokevirtual 351, 3) := by decide +kernel
theorem dX11_wake_6 : decode cX11_wake 6 = .ok (.ireturn, 1) := by decide +kernel
theorem dX11_crashQueen_0 : decode cX11_crashQueen 0 = .ok (.aload_n 0, 1) := by decide +kernel
theorem dX11_crashQueen_1 : decode cX11_crashQueen 1 = .ok (.iconst 0, 1) := by decide +kernel
theorem dX11_crashQueen_2 : decode cX11_crashQueen 2 = .ok (.putfield 60, 3) := by decide +kernel
theorem dX11_crashQueen_5 : decode cX11_crashQueen 5 = .ok (.aload_n 0, 1) := by decide +kernel
theorem dX11_crashQueen_6 : decode cX11_crashQueen 6 = .ok (.getfield 50, 3) := by decide +kernel
theorem dX11_crashQueen_9 : decode cX11_crashQueen 9 = .ok (.getfield 297, 3) := by decide +kernel
theorem dX11_crashQueen_12 : decode cX11_crashQueen 12 = .ok (.bipush 8, 2) := by decide +kernel
theorem dX11_crashQueen_14 : decode cX11_crashQueen 14 = .ok (.baload, 1) := by decide +kernel
theorem dX11_crashQueen_15 : decode cX11_crashQueen 15 = .ok (.ifCond .eq 9, 3) := by decide +kernel
theorem dX11_crashQueen_18 : decode cX11_crashQueen 18 = .ok (.aload_n 0, 1) := by decide +kernel
theorem dX11_crashQueen_19 : decode cX11_crashQueen 19 = .ok (.iconst 1, 1) := by decide +kernel
theorem dX11_crashQueen_20 : decode cX11_crashQueen 20 = .ok (.invokevirtual 276, 3) := by decide +kernel
theorem dX11_crashQueen_23 : decode cX11_crashQueen 23 = .ok (.ireturn, 1) := by decide +kernel
theorem dX11_crashQueen_24 : decode cX11_crashQueen 24 = .ok (.aload_n 0, 1) := by decide +kernel
theorem dX11_crashQueen_25 : decode cX11_crashQueen 25 = .ok (.getfield 50, 3) := by decide +kernel
theorem dX11_crashQueen_28 : decode cX11_crashQueen 28 = .ok (.bipush 8, 2) := by decide +kernel
theorem dX11_crashQueen_30 : decode cX11_crashQueen 30 = .ok (.invokevirtual 345, 3) := by decide +kernel
theorem dX11_crashQueen_33 : decode cX11_crashQueen 33 = .ok (.pop, 1) := by decide +kernel
theorem dX11_crashQueen_34 : decode cX11_crashQueen 34 = .ok (.aload_n 0, 1) := by decide +kernel
theorem dX11_crashQueen_35 : decode cX11_crashQueen 35 = .ok (.getfield 50, 3) := by decide +kernel
theorem dX11_crashQueen_38 : decode cX11_crashQueen 38 = .ok (.invokevirtual 342, 3) := by decide +kernel
theorem dX11_crashQueen_41 : decode cX11_crashQueen 41 = .ok (.ireturn, 1) := by decide +kernel
theorem dX11_wakeQueen_0 : decode cX11_wakeQueen 0 = .ok (.aload_n 0, 1) := by decide +kernel
theorem dX11_wakeQueen_1 : decode cX11_wakeQueen 1 = .ok (.iconst 0, 1) := by decide +kernel
theorem dX11_wakeQueen_2 : decode cX11_wakeQueen 2 = .ok (.putfield 60, 3) := by decide +kernel
theorem dX11_wakeQueen_5 : decode cX11_wakeQueen 5 = .ok (.aload_n 0, 1) := by decide +kernel
theorem dX11_wakeQueen_6 : decode cX11_wakeQueen 6 = .ok (.getfield 50, 3) := by decide +kernel
theorem dX11_wakeQueen_9 : decode cX11_wakeQueen 9 = .ok (.getfield 297, 3) := by decide +kernel
theorem dX11_wakeQueen_12 : decode cX11_wakeQueen 12 = .ok (.bipush 8, 2) := by decide +kernel
theorem dX11_wakeQueen_14 : decode cX11_wakeQueen 14 = .ok (.baload, 1) := by decide +kernel
theorem dX11_wakeQueen_15 : decode cX11_wakeQueen 15 = .ok (.ifCond .eq 15, 3) := by decide +kernel
theorem dX11_wakeQueen_18 : decode cX11_wakeQueen 18 = .ok (.aload_n 0, 1) := by decide +kernel
theorem dX11_wakeQueen_19 : decode cX11_wakeQueen 19 = .ok (.getfield 50, 3) := by decide +kernel
theorem dX11_wakeQueen_22 : decode cX11_wakeQueen 22 = .ok (.bipush 8, 2) := by decide +kernel
theorem dX11_wakeQueen_24 : decode cX11_wakeQueen 24 = .ok (.invokevirtual 345, 3) := by decide +kernel
theorem dX11_wakeQueen_27 : decode cX11_wakeQueen 27 = .ok (.goto 8, 3) := by decide +kernel
theorem dX11_wakeQueen_30 : decode cX11_wakeQueen 30 = .ok (.aload_n 0, 1) := by decide +kernel
theorem dX11_wakeQueen_31 : decode cX11_wakeQueen 31 = .ok (.iconst 1, 1) := by decide +kernel
theorem dX11_wakeQueen_32 : decode cX11_wakeQueen 32 = .ok (.invokevirtual 276, 3) := by decide +kernel
theorem dX11_wakeQueen_35 : decode cX11_wakeQueen 35 = .ok (.ireturn, 1) := by decide +kernel
theorem dX11_areDays_0 : decode cX11_areDays 0 = .ok (.iload_n 0, 1) := by decide +kernel
theorem dX11_areDays_1 : decode cX11_areDays 1 = .ok (.iconst 1, 1) := by decide +kernel
theorem dX11_areDays_2 : decode cX11_areDays 2 = .ok (.bipush 30, 2) := by decide +kernel
theorem dX11_areDays_4 : decode cX11_areDays 4 = .ok (.invokestatic 66, 3) := by decide +kernel
theorem dX11_areDays_7 : decode cX11_areDays 7 = .ok (.ireturn, 1) := by decide +kernel
theorem dX11_passDays_0 : decode cX11_passDays 0 = .ok (.aload_n 0, 1) := by decide +kernel
theorem dX11_passDays_1 : decode cX11_passDays 1 = .ok (.iconst 0, 1) := by decide +kernel
theorem dX11_passDays_2 : decode cX11_passDays 2 = .ok (.putfield 60, 3) := by decide +kernel
theorem dX11_passDays_5 : decode cX11_passDays 5 = .ok (.iload_n 1, 1) := by decide +kernel
theorem dX11_passDays_6 : decode cX11_passDays 6 = .ok (.invokestatic 354, 3) := by decide +kernel
theorem dX11_passDays_9 : decode cX11_passDays 9 = .ok (.ifCond .ne 9, 3) := by decide +kernel
theorem dX11_passDays_12 : decode cX11_passDays 12 = .ok (.aload_n 0, 1) := by decide +kernel
theorem dX11_passDays_13 : decode cX11_passDays 13 = .ok (.iconst 1, 1) := by decide +kernel
theorem dX11_passDays_14 : decode cX11_passDays 14 = .ok (.invokevirtual 276, 3) := by decide +kernel
theorem dX11_passDays_17 : decode cX11_passDays 17 = .ok (.ireturn, 1) := by decide +kernel
theorem dX11_passDays_18 : decode cX11_passDays 18 = .ok (.aload_n 0, 1) := by decide +kernel
theorem dX11_passDays_19 : decode cX11_passDays 19 = .ok (.getfield 50, 3) := by decide +kernel
theorem dX11_passDays_22 : decode cX11_passDays 22 = .ok (.getfield 357, 3) := by decide +kernel
theorem dX11_passDays_25 : decode cX11_passDays 25 = .ok (.istore_n 2, 1) := by decide +kernel
theorem dX11_passDays_26 : decode cX11_passDays 26 = .ok (.aload_n 0, 1) := by decide +kernel
theorem dX11_passDays_27 : decode cX11_passDays 27 = .ok (.getfield 50, 3) := by decide +kernel
theorem dX11_passDays_30 : decode cX11_passDays 30 = .ok (.iload_n 1, 1) := by decide +kernel
theorem dX11_passDays_31 : decode cX11_passDays 31 = .ok (.invokevirtual 360, 3) := by decide +kernel
theorem dX11_passDays_34 : decode cX11_passDays 34 = .ok (.getfield 357, 3) := by decide +kernel
theorem dX11_passDays_37 : decode cX11_passDays 37 = .ok (.iload_n 2, 1) := by decide +kernel
theorem dX11_passDays_38 : decode cX11_passDays 38 = .ok (.isub, 1) := by decide +kernel
theorem dX11_passDays_39 : decode cX11_passDays 39 = .ok (.ireturn, 1) := by decide +kernel
theorem dX11_honeyAfter_0 : decode cX11_honeyAfter 0 = .ok (.aload_n 0, 1) := by decide +kernel
theorem dX11_honeyAfter_1 : decode cX11_honeyAfter 1 = .ok (.aload_n 0, 1) := by decide +kernel
theorem dX11_honeyAfter_2 : decode cX11_honeyAfter 2 = .ok (.iload_n 1, 1) := by decide +kernel
theorem dX11_honeyAfter_3 : decode cX11_honeyAfter 3 = .ok (.invokevirtual 301, 3) := by decide +kernel
theorem dX11_honeyAfter_6 : decode cX11_honeyAfter 6 = .ok (.invokevirtual 304, 3) := by decide +kernel
theorem dX11_honeyAfter_9 : decode cX11_honeyAfter 9 = .ok (.ifCond .ne 5, 3) := by decide +kernel
theorem dX11_honeyAfter_12 : decode cX11_honeyAfter 12 = .ok (.iconst 0, 1) := by decide +kernel
theorem dX11_honeyAfter_13 : decode cX11_honeyAfter 13 = .ok (.ireturn, 1) := by decide +kernel
theorem dX11_honeyAfter_14 : decode cX11_honeyAfter 14 = .ok (.iload_n 2, 1) := by decide +kernel
theorem dX11_honeyAfter_15 : decode cX11_honeyAfter 15 = .ok (.invokestatic 354, 3) := by decide +kernel
theorem dX11_honeyAfter_18 : decode cX11_honeyAfter 18 = .ok (.ifCond .eq 19, 3) := by decide +kernel
theorem dX11_honeyAfter_21 : decode cX11_honeyAfter 21 = .ok (.aload_n 0, 1) := by decide +kernel
theorem dX11_honeyAfter_22 : decode cX11_honeyAfter 22 = .ok (.invokevirtual 364, 3) := by decide +kernel
theorem dX11_honeyAfter_25 : decode cX11_honeyAfter 25 = .ok (.iload_n 2, 1) := by decide +kernel
theorem dX11_honeyAfter_26 : decode cX11_honeyAfter 26 = .ok (.invokevirtual 360, 3) := by decide +kernel
theorem dX11_honeyAfter_29 : decode cX11_honeyAfter 29 = .ok (.getfield 308, 3) := by decide +kernel
theorem dX11_honeyAfter_32 : decode cX11_honeyAfter 32 = .ok (.iload_n 1, 1) := by decide +kernel
theorem dX11_honeyAfter_33 : decode cX11_honeyAfter 33 = .ok (.iaload, 1) := by decide +kernel
theorem dX11_honeyAfter_34 : decode cX11_honeyAfter 34 = .ok (.goto 8, 3) := by decide +kernel
theorem dX11_honeyAfter_37 : decode cX11_honeyAfter 37 = .ok (.aload_n 0, 1) := by decide +kernel
theorem dX11_honeyAfter_38 : decode cX11_honeyAfter 38 = .ok (.iconst 2, 1) := by decide +kernel
theorem dX11_honeyAfter_39 : decode cX11_honeyAfter 39 = .ok (.invokevirtual 276, 3) := by decide +kernel
theorem dX11_honeyAfter_42 : decode cX11_honeyAfter 42 = .ok (.ireturn, 1) := by decide +kernel
theorem dX11_stateAfter_0 : decode cX11_stateAfter 0 = .ok (.aload_n 0, 1) := by decide +kernel
theorem dX11_stateAfter_1 : decode cX11_stateAfter 1 = .ok (.aload_n 0, 1) := by decide +kernel
theorem dX11_stateAfter_2 : decode cX11_stateAfter 2 = .ok (.iload_n 1, 1) := by decide +kernel
theorem dX11_stateAfter_3 : decode cX11_stateAfter 3 = .ok (.invokevirtual 73, 3) := by decide +kernel
theorem dX11_stateAfter_6 : decode cX11_stateAfter 6 = .ok (.invokevirtual 304, 3) := by decide +kernel
theorem dX11_stateAfter_9 : decode cX11_stateAfter 9 = .ok (.ifCond .ne 5, 3) := by decide +kernel
theorem dX11_stateAfter_12 : decode cX11_stateAfter 12 = .ok (.iconst 0, 1) := by decide +kernel
theorem dX11_stateAfter_13 : decode cX11_stateAfter 13 = .ok (.ireturn, 1) := by decide +kernel
theorem dX11_stateAfter_14 : decode cX11_stateAfter 14 = .ok (.iload_n 2, 1) := by decide +kernel
theorem dX11_stateAfter_15 : decode cX11_stateAfter 15 = .ok (.invokestatic 354, 3) := by decide +kernel
theorem dX11_stateAfter_18 : decode cX11_stateAfter 18 = .ok (.ifCond .eq 19, 3) := by decide +kernel
theorem dX11_stateAfter_21 : decode cX11_stateAfter 21 = .ok (.aload_n 0, 1) := by decide +kernel
theorem dX11_stateAfter_22 : decode cX11_stateAfter 22 = .ok (.invokevirtual 364, 3) := by decide +kernel
theorem dX11_stateAfter_25 : decode cX11_stateAfter 25 = .ok (.iload_n 2, 1) := by decide +kernel
theorem dX11_stateAfter_26 : decode cX11_stateAfter 26 = .ok (.invokevirtual 360, 3) := by decide +kernel
theorem dX11_stateAfter_29 : decode cX11_stateAfter 29 = .ok (.getfield 315, 3) := by decide +kernel
theorem dX11_stateAfter_32 : decode cX11_stateAfter 32 = .ok (.iload_n 1, 1) := by decide +kernel
theorem dX11_stateAfter_33 : decode cX11_stateAfter 33 = .ok (.iaload, 1) := by decide +kernel
theorem dX11_stateAfter_34 : decode cX11_stateAfter 34 = .ok (.goto 8, 3) := by decide +kernel
theorem dX11_stateAfter_37 : decode cX11_stateAfter 37 = .ok (.aload_n 0, 1) := by decide +kernel
theorem dX11_stateAfter_38 : decode cX11_stateAfter 38 = .ok (.iconst 2, 1) := by decide +kernel
theorem dX11_stateAfter_39 : decode cX11_stateAfter 39 = .ok (.invokevirtual 276, 3) := by decide +kernel
theorem dX11_stateAfter_42 : decode cX11_stateAfter 42 = .ok (.ireturn, 1) := by decide +kernel
theorem dX11_daysUntilFree_0 : decode cX11_daysUntilFree 0 = .ok (.aload_n 0, 1) := by decide +kernel
theorem dX11_daysUntilFree_1 : decode cX11_daysUntilFree 1 = .ok (.aload_n 0, 1) := by decide +kernel
theorem dX11_daysUntilFree_2 : decode cX11_daysUntilFree 2 = .ok (.iload_n 1, 1) := by decide +kernel
theorem dX11_daysUntilFree_3 : decode cX11_daysUntilFree 3 = .ok (.invokevirtual 301, 3) := by decide +kernel
theorem dX11_daysUntilFree_6 : decode cX11_daysUntilFree 6 = .ok (.invokevirtual 304, 3) := by decide +kernel
theorem dX11_daysUntilFree_9 : decode cX11_daysUntilFree 9 = .ok (.ifCond .eq 14, 3) := by decide +kernel
theorem dX11_daysUntilFree_12 : decode cX11_daysUntilFree 12 = .ok (.aload_n 0, 1) := by decide +kernel
theorem dX11_daysUntilFree_13 : decode cX11_daysUntilFree 13 = .ok (.invokevirtual 364, 3) := by decide +kernel
theorem dX11_daysUntilFree_16 : decode cX11_daysUntilFree 16 = .ok (.iload_n 1, 1) := by decide +kernel
theorem dX11_daysUntilFree_17 : decode cX11_daysUntilFree 17 = .ok (.invokevirtual 368, 3) := by decide +kernel
theorem dX11_daysUntilFree_20 : decode cX11_daysUntilFree 20 = .ok (.goto 4, 3) := by decide +kernel
theorem dX11_daysUntilFree_23 : decode cX11_daysUntilFree 23 = .ok (.iconst 0, 1) := by decide +kernel
theorem dX11_daysUntilFree_24 : decode cX11_daysUntilFree 24 = .ok (.ireturn, 1) := by decide +kernel
theorem dX11_best_0 : decode cX11_best 0 = .ok (.iconst (-1), 1) := by decide +kernel
theorem dX11_best_1 : decode cX11_best 1 = .ok (.istore_n 1, 1) := by decide +kernel
theorem dX11_best_2 : decode cX11_best 2 = .ok (.iconst 0, 1) := by decide +kernel
theorem dX11_best_3 : decode cX11_best 3 = .ok (.istore_n 2, 1) := by decide +kernel
theorem dX11_best_4 : decode cX11_best 4 = .ok (.iconst 0, 1) := by decide +kernel
theorem dX11_best_5 : decode cX11_best 5 = .ok (.istore_n 3, 1) := by decide +kernel
theorem dX11_best_6 : decode cX11_best 6 = .ok (.iload_n 3, 1) := by decide +kernel
theorem dX11_best_7 : decode cX11_best 7 = .ok (.aload_n 0, 1) := by decide +kernel
theorem dX11_best_8 : decode cX11_best 8 = .ok (.getfield 35, 3) := by decide +kernel
theorem dX11_best_11 : decode cX11_best 11 = .ok (.getfield 63, 3) := by decide +kernel
theorem dX11_best_14 : decode cX11_best 14 = .ok (.if_icmp .ge 65, 3) := by decide +kernel
theorem dX11_best_17 : decode cX11_best 17 = .ok (.aload_n 0, 1) := by decide +kernel
theorem dX11_best_18 : decode cX11_best 18 = .ok (.getfield 50, 3) := by decide +kernel
theorem dX11_best_21 : decode cX11_best 21 = .ok (.getfield 297, 3) := by decide +kernel
theorem dX11_best_24 : decode cX11_best 24 = .ok (.iload_n 3, 1) := by decide +kernel
theorem dX11_best_25 : decode cX11_best 25 = .ok (.baload, 1) := by decide +kernel
theorem dX11_best_26 : decode cX11_best 26 = .ok (.ifCond .ne 6, 3) := by decide +kernel
theorem dX11_best_29 : decode cX11_best 29 = .ok (.goto 44, 3) := by decide +kernel
theorem dX11_best_32 : decode cX11_best 32 = .ok (.aload_n 0, 1) := by decide +kernel
theorem dX11_best_33 : decode cX11_best 33 = .ok (.invokevirtual 364, 3) := by decide +kernel
theorem dX11_best_36 : decode cX11_best 36 = .ok (.iload_n 3, 1) := by decide +kernel
theorem dX11_best_37 : decode cX11_best 37 = .ok (.invokevirtual 345, 3) := by decide +kernel
theorem dX11_best_40 : decode cX11_best 40 = .ok (.pop, 1) := by decide +kernel
theorem dX11_best_41 : decode cX11_best 41 = .ok (.aload_n 0, 1) := by decide +kernel
theorem dX11_best_42 : decode cX11_best 42 = .ok (.getfield 54, 3) := by decide +kernel
theorem dX11_best_45 : decode cX11_best 45 = .ok (.iconst 3, 1) := by decide +kernel
theorem dX11_best_46 : decode cX11_best 46 = .ok (.invokevirtual 360, 3) := by decide +kernel
theorem dX11_best_49 : decode cX11_best 49 = .ok (.invokevirtual 291, 3) := by decide +kernel
theorem dX11_best_52 : decode cX11_best 52 = .ok (.istore 4, 2) := by decide +kernel
theorem dX11_best_54 : decode cX11_best 54 = .ok (.iload_n 1, 1) := by decide +kernel
theorem dX11_best_55 : decode cX11_best 55 = .ok (.iconst (-1), 1) := by decide +kernel
theorem dX11_best_56 : decode cX11_best 56 = .ok (.if_icmp .eq 12, 3) := by decide +kernel
theorem dX11_best_59 : decode cX11_best 59 = .ok (.iload 4, 2) := by decide +kernel
theorem dX11_best_61 : decode cX11_best 61 = .ok (.iload_n 2, 1) := by decide +kernel
theorem dX11_best_62 : decode cX11_best 62 = .ok (.if_icmp .lt 6, 3) := by decide +kernel
theorem dX11_best_65 : decode cX11_best 65 = .ok (.goto 8, 3) := by decide +kernel
theorem dX11_best_68 : decode cX11_best 68 = .ok (.iload_n 3, 1) := by decide +kernel
theorem dX11_best_69 : decode cX11_best 69 = .ok (.istore_n 1, 1) := by decide +kernel
theorem dX11_best_70 : decode cX11_best 70 = .ok (.iload 4, 2) := by decide +kernel
theorem dX11_best_72 : decode cX11_best 72 = .ok (.istore_n 2, 1) := by decide +kernel
theorem dX11_best_73 : decode cX11_best 73 = .ok (.iinc 3 1, 3) := by decide +kernel
theorem dX11_best_76 : decode cX11_best 76 = .ok (.goto (-70), 3) := by decide +kernel
theorem dX11_best_79 : decode cX11_best 79 = .ok (.iload_n 1, 1) := by decide +kernel
theorem dX11_best_80 : decode cX11_best 80 = .ok (.ireturn, 1) := by decide +kernel
theorem dX11_bestToWake_0 : decode cX11_bestToWake 0 = .ok (.aload_n 0, 1) := by decide +kernel
theorem dX11_bestToWake_1 : decode cX11_bestToWake 1 = .ok (.aload_n 0, 1) := by decide +kernel
theorem dX11_bestToWake_2 : decode cX11_bestToWake 2 = .ok (.invokevirtual 371, 3) := by decide +kernel
theorem dX11_bestToWake_5 : decode cX11_bestToWake 5 = .ok (.invokevirtual 282, 3) := by decide +kernel
theorem dX11_bestToWake_8 : decode cX11_bestToWake 8 = .ok (.ireturn, 1) := by decide +kernel
theorem dX11_meanHoney_0 : decode cX11_meanHoney 0 = .ok (.aload_n 0, 1) := by decide +kernel
theorem dX11_meanHoney_1 : decode cX11_meanHoney 1 = .ok (.iconst 0, 1) := by decide +kernel
theorem dX11_meanHoney_2 : decode cX11_meanHoney 2 = .ok (.putfield 60, 3) := by decide +kernel
theorem dX11_meanHoney_5 : decode cX11_meanHoney 5 = .ok (.aload_n 0, 1) := by decide +kernel
theorem dX11_meanHoney_6 : decode cX11_meanHoney 6 = .ok (.getfield 35, 3) := by decide +kernel
theorem dX11_meanHoney_9 : decode cX11_meanHoney 9 = .ok (.getfield 63, 3) := by decide +kernel
theorem dX11_meanHoney_12 : decode cX11_meanHoney 12 = .ok (.ifCond .ne 7, 3) := by decide +kernel
theorem dX11_meanHoney_15 : decode cX11_meanHoney 15 = .ok (.dconst 0, 1) := by decide +kernel
theorem dX11_meanHoney_16 : decode cX11_meanHoney 16 = .ok (.goto 20, 3) := by decide +kernel
theorem dX11_meanHoney_19 : decode cX11_meanHoney 19 = .ok (.aload_n 0, 1) := by decide +kernel
theorem dX11_meanHoney_20 : decode cX11_meanHoney 20 = .ok (.getfield 50, 3) := by decide +kernel
theorem dX11_meanHoney_23 : decode cX11_meanHoney 23 = .ok (.invokevirtual 294, 3) := by decide +kernel
theorem dX11_meanHoney_26 : decode cX11_meanHoney 26 = .ok (.i2d, 1) := by decide +kernel
theorem dX11_meanHoney_27 : decode cX11_meanHoney 27 = .ok (.aload_n 0, 1) := by decide +kernel
theorem dX11_meanHoney_28 : decode cX11_meanHoney 28 = .ok (.getfield 35, 3) := by decide +kernel
theorem dX11_meanHoney_31 : decode cX11_meanHoney 31 = .ok (.getfield 63, 3) := by decide +kernel
theorem dX11_meanHoney_34 : decode cX11_meanHoney 34 = .ok (.i2d, 1) := by decide +kernel
theorem dX11_meanHoney_35 : decode cX11_meanHoney 35 = .ok (.ddiv, 1) := by decide +kernel
theorem dX11_meanHoney_36 : decode cX11_meanHoney 36 = .ok (.dreturn, 1) := by decide +kernel
theorem dX11_digest_0 : decode cX11_digest 0 = .ok (.aload_n 0, 1) := by decide +kernel
theorem dX11_digest_1 : decode cX11_digest 1 = .ok (.iconst 0, 1) := by decide +kernel
theorem dX11_digest_2 : decode cX11_digest 2 = .ok (.putfield 60, 3) := by decide +kernel
theorem dX11_digest_5 : decode cX11_digest 5 = .ok (.bipush 8, 2) := by decide +kernel
theorem dX11_digest_7 : decode cX11_digest 7 = .ok (.newarray .int, 2) := by decide +kernel
theorem dX11_digest_9 : decode cX11_digest 9 = .ok (.dup, 1) := by decide +kernel
theorem dX11_digest_10 : decode cX11_digest 10 = .ok (.iconst 0, 1) := by decide +kernel
theorem dX11_digest_11 : decode cX11_digest 11 = .ok (.aload_n 0, 1) := by decide +kernel
theorem dX11_digest_12 : decode cX11_digest 12 = .ok (.getfield 35, 3) := by decide +kernel
theorem dX11_digest_15 : decode cX11_digest 15 = .ok (.getfield 63, 3) := by decide +kernel
theorem dX11_digest_18 : decode cX11_digest 18 = .ok (.iastore, 1) := by decide +kernel
theorem dX11_digest_19 : decode cX11_digest 19 = .ok (.dup, 1) := by decide +kernel
theorem dX11_digest_20 : decode cX11_digest 20 = .ok (.iconst 1, 1) := by decide +kernel
theorem dX11_digest_21 : decode cX11_digest 21 = .ok (.aload_n 0, 1) := by decide +kernel
theorem dX11_digest_22 : decode cX11_digest 22 = .ok (.getfield 35, 3) := by decide +kernel
theorem dX11_digest_25 : decode cX11_digest 25 = .ok (.getfield 70, 3) := by decide +kernel
theorem dX11_digest_28 : decode cX11_digest 28 = .ok (.iastore, 1) := by decide +kernel
theorem dX11_digest_29 : decode cX11_digest 29 = .ok (.dup, 1) := by decide +kernel
theorem dX11_digest_30 : decode cX11_digest 30 = .ok (.iconst 2, 1) := by decide +kernel
theorem dX11_digest_31 : decode cX11_digest 31 = .ok (.aload_n 0, 1) := by decide +kernel
theorem dX11_digest_32 : decode cX11_digest 32 = .ok (.getfield 50, 3) := by decide +kernel
theorem dX11_digest_35 : decode cX11_digest 35 = .ok (.getfield 285, 3) := by decide +kernel
theorem dX11_digest_38 : decode cX11_digest 38 = .ok (.iastore, 1) := by decide +kernel
theorem dX11_digest_39 : decode cX11_digest 39 = .ok (.dup, 1) := by decide +kernel
theorem dX11_digest_40 : decode cX11_digest 40 = .ok (.iconst 3, 1) := by decide +kernel
theorem dX11_digest_41 : decode cX11_digest 41 = .ok (.aload_n 0, 1) := by decide +kernel
theorem dX11_digest_42 : decode cX11_digest 42 = .ok (.getfield 50, 3) := by decide +kernel
theorem dX11_digest_45 : decode cX11_digest 45 = .ok (.getfield 288, 3) := by decide +kernel
theorem dX11_digest_48 : decode cX11_digest 48 = .ok (.iastore, 1) := by decide +kernel
theorem dX11_digest_49 : decode cX11_digest 49 = .ok (.dup, 1) := by decide +kernel
theorem dX11_digest_50 : decode cX11_digest 50 = .ok (.iconst 4, 1) := by decide +kernel
theorem dX11_digest_51 : decode cX11_digest 51 = .ok (.aload_n 0, 1) := by decide +kernel
theorem dX11_digest_52 : decode cX11_digest 52 = .ok (.getfield 50, 3) := by decide +kernel
theorem dX11_digest_55 : decode cX11_digest 55 = .ok (.invokevirtual 291, 3) := by decide +kernel
theorem dX11_digest_58 : decode cX11_digest 58 = .ok (.iastore, 1) := by decide +kernel
theorem dX11_digest_59 : decode cX11_digest 59 = .ok (.dup, 1) := by decide +kernel
theorem dX11_digest_60 : decode cX11_digest 60 = .ok (.iconst 5, 1) := by decide +kernel
theorem dX11_digest_61 : decode cX11_digest 61 = .ok (.aload_n 0, 1) := by decide +kernel
theorem dX11_digest_62 : decode cX11_digest 62 = .ok (.getfield 50, 3) := by decide +kernel
theorem dX11_digest_65 : decode cX11_digest 65 = .ok (.invokevirtual 294, 3) := by decide +kernel
theorem dX11_digest_68 : decode cX11_digest 68 = .ok (.iastore, 1) := by decide +kernel
theorem dX11_digest_69 : decode cX11_digest 69 = .ok (.dup, 1) := by decide +kernel
theorem dX11_digest_70 : decode cX11_digest 70 = .ok (.bipush 6, 2) := by decide +kernel
theorem dX11_digest_72 : decode cX11_digest 72 = .ok (.aload_n 0, 1) := by decide +kernel
theorem dX11_digest_73 : decode cX11_digest 73 = .ok (.getfield 50, 3) := by decide +kernel
theorem dX11_digest_76 : decode cX11_digest 76 = .ok (.getfield 297, 3) := by decide +kernel
theorem dX11_digest_79 : decode cX11_digest 79 = .ok (.bipush 8, 2) := by decide +kernel
theorem dX11_digest_81 : decode cX11_digest 81 = .ok (.baload, 1) := by decide +kernel
theorem dX11_digest_82 : decode cX11_digest 82 = .ok (.ifCond .eq 7, 3) := by decide +kernel
theorem dX11_digest_85 : decode cX11_digest 85 = .ok (.iconst 0, 1) := by decide +kernel
theorem dX11_digest_86 : decode cX11_digest 86 = .ok (.goto 4, 3) := by decide +kernel
theorem dX11_digest_89 : decode cX11_digest 89 = .ok (.iconst 1, 1) := by decide +kernel
theorem dX11_digest_90 : decode cX11_digest 90 = .ok (.iastore, 1) := by decide +kernel
theorem dX11_digest_91 : decode cX11_digest 91 = .ok (.dup, 1) := by decide +kernel
theorem dX11_digest_92 : decode cX11_digest 92 = .ok (.bipush 7, 2) := by decide +kernel
theorem dX11_digest_94 : decode cX11_digest 94 = .ok (.aload_n 0, 1) := by decide +kernel
theorem dX11_digest_95 : decode cX11_digest 95 = .ok (.invokevirtual 371, 3) := by decide +kernel
theorem dX11_digest_98 : decode cX11_digest 98 = .ok (.iastore, 1) := by decide +kernel
theorem dX11_digest_99 : decode cX11_digest 99 = .ok (.astore_n 1, 1) := by decide +kernel
theorem dX11_digest_100 : decode cX11_digest 100 = .ok (.ldc2_w 374, 3) := by decide +kernel
theorem dX11_digest_103 : decode cX11_digest 103 = .ok (.lstore_n 2, 1) := by decide +kernel
theorem dX11_digest_104 : decode cX11_digest 104 = .ok (.aload_n 1, 1) := by decide +kernel
theorem dX11_digest_105 : decode cX11_digest 105 = .ok (.astore 4, 2) := by decide +kernel
theorem dX11_digest_107 : decode cX11_digest 107 = .ok (.aload 4, 2) := by decide +kernel
theorem dX11_digest_109 : decode cX11_digest 109 = .ok (.arraylength, 1) := by decide +kernel
theorem dX11_digest_110 : decode cX11_digest 110 = .ok (.istore 5, 2) := by decide +kernel
theorem dX11_digest_112 : decode cX11_digest 112 = .ok (.iconst 0, 1) := by decide +kernel
theorem dX11_digest_113 : decode cX11_digest 113 = .ok (.istore 6, 2) := by decide +kernel
theorem dX11_digest_115 : decode cX11_digest 115 = .ok (.iload 6, 2) := by decide +kernel
theorem dX11_digest_117 : decode cX11_digest 117 = .ok (.iload 5, 2) := by decide +kernel
theorem dX11_digest_119 : decode cX11_digest 119 = .ok (.if_icmp .ge 26, 3) := by decide +kernel
theorem dX11_digest_122 : decode cX11_digest 122 = .ok (.aload 4, 2) := by decide +kernel
theorem dX11_digest_124 : decode cX11_digest 124 = .ok (.iload 6, 2) := by decide +kernel
theorem dX11_digest_126 : decode cX11_digest 126 = .ok (.iaload, 1) := by decide +kernel
theorem dX11_digest_127 : decode cX11_digest 127 = .ok (.istore 7, 2) := by decide +kernel
theorem dX11_digest_129 : decode cX11_digest 129 = .ok (.lload_n 2, 1) := by decide +kernel
theorem dX11_digest_130 : decode cX11_digest 130 = .ok (.ldc2_w 376, 3) := by decide +kernel
theorem dX11_digest_133 : decode cX11_digest 133 = .ok (.lmul, 1) := by decide +kernel
theorem dX11_digest_134 : decode cX11_digest 134 = .ok (.iload 7, 2) := by decide +kernel
theorem dX11_digest_136 : decode cX11_digest 136 = .ok (.i2l, 1) := by decide +kernel
theorem dX11_digest_137 : decode cX11_digest 137 = .ok (.ladd, 1) := by decide +kernel
theorem dX11_digest_138 : decode cX11_digest 138 = .ok (.lstore_n 2, 1) := by decide +kernel
theorem dX11_digest_139 : decode cX11_digest 139 = .ok (.iinc 6 1, 3) := by decide +kernel
theorem dX11_digest_142 : decode cX11_digest 142 = .ok (.goto (-27), 3) := by decide +kernel
theorem dX11_digest_145 : decode cX11_digest 145 = .ok (.iconst 0, 1) := by decide +kernel
theorem dX11_digest_146 : decode cX11_digest 146 = .ok (.istore 4, 2) := by decide +kernel
theorem dX11_digest_148 : decode cX11_digest 148 = .ok (.iload 4, 2) := by decide +kernel
theorem dX11_digest_150 : decode cX11_digest 150 = .ok (.aload_n 0, 1) := by decide +kernel
theorem dX11_digest_151 : decode cX11_digest 151 = .ok (.getfield 35, 3) := by decide +kernel
theorem dX11_digest_154 : decode cX11_digest 154 = .ok (.getfield 63, 3) := by decide +kernel
theorem dX11_digest_157 : decode cX11_digest 157 = .ok (.if_icmp .ge 128, 3) := by decide +kernel
theorem dX11_digest_160 : decode cX11_digest 160 = .ok (.iconst 5, 1) := by decide +kernel
theorem dX11_digest_161 : decode cX11_digest 161 = .ok (.newarray .int, 2) := by decide +kernel
theorem dX11_digest_163 : decode cX11_digest 163 = .ok (.dup, 1) := by decide +kernel
theorem dX11_digest_164 : decode cX11_digest 164 = .ok (.iconst 0, 1) := by decide +kernel
theorem dX11_digest_165 : decode cX11_digest 165 = .ok (.aload_n 0, 1) := by decide +kernel
theorem dX11_digest_166 : decode cX11_digest 166 = .ok (.getfield 50, 3) := by decide +kernel
theorem dX11_digest_169 : decode cX11_digest 169 = .ok (.getfield 308, 3) := by decide +kernel
theorem dX11_digest_172 : decode cX11_digest 172 = .ok (.iload 4, 2) := by decide +kernel
theorem dX11_digest_174 : decode cX11_digest 174 = .ok (.iaload, 1) := by decide +kernel
theorem dX11_digest_175 : decode cX11_digest 175 = .ok (.iastore, 1) := by decide +kernel
theorem dX11_digest_176 : decode cX11_digest 176 = .ok (.dup, 1) := by decide +kernel
theorem dX11_digest_177 : decode cX11_digest 177 = .ok (.iconst 1, 1) := by decide +kernel
theorem dX11_digest_178 : decode cX11_digest 178 = .ok (.aload_n 0, 1) := by decide +kernel
theorem dX11_digest_179 : decode cX11_digest 179 = .ok (.getfield 50, 3) := by decide +kernel
theorem dX11_digest_182 : decode cX11_digest 182 = .ok (.getfield 297, 3) := by decide +kernel
theorem dX11_digest_185 : decode cX11_digest 185 = .ok (.iload 4, 2) := by decide +kernel
theorem dX11_digest_187 : decode cX11_digest 187 = .ok (.baload, 1) := by decide +kernel
theorem dX11_digest_188 : decode cX11_digest 188 = .ok (.ifCond .eq 7, 3) := by decide +kernel
theorem dX11_digest_191 : decode cX11_digest 191 = .ok (.iconst 0, 1) := by decide +kernel
theorem dX11_digest_192 : decode cX11_digest 192 = .ok (.goto 4, 3) := by decide +kernel
theorem dX11_digest_195 : decode cX11_digest 195 = .ok (.iconst 1, 1) := by decide +kernel
theorem dX11_digest_196 : decode cX11_digest 196 = .ok (.iastore, 1) := by decide +kernel
theorem dX11_digest_197 : decode cX11_digest 197 = .ok (.dup, 1) := by decide +kernel
theorem dX11_digest_198 : decode cX11_digest 198 = .ok (.iconst 2, 1) := by decide +kernel
theorem dX11_digest_199 : decode cX11_digest 199 = .ok (.aload_n 0, 1) := by decide +kernel
theorem dX11_digest_200 : decode cX11_digest 200 = .ok (.getfield 50, 3) := by decide +kernel
theorem dX11_digest_203 : decode cX11_digest 203 = .ok (.getfield 309, 3) := by decide +kernel
theorem dX11_digest_206 : decode cX11_digest 206 = .ok (.iload 4, 2) := by decide +kernel
theorem dX11_digest_208 : decode cX11_digest 208 = .ok (.iaload, 1) := by decide +kernel
theorem dX11_digest_209 : decode cX11_digest 209 = .ok (.iastore, 1) := by decide +kernel
theorem dX11_digest_210 : decode cX11_digest 210 = .ok (.dup, 1) := by decide +kernel
theorem dX11_digest_211 : decode cX11_digest 211 = .ok (.iconst 3, 1) := by decide +kernel
theorem dX11_digest_212 : decode cX11_digest 212 = .ok (.aload_n 0, 1) := by decide +kernel
theorem dX11_digest_213 : decode cX11_digest 213 = .ok (.getfield 50, 3) := by decide +kernel
theorem dX11_digest_216 : decode cX11_digest 216 = .ok (.getfield 312, 3) := by decide +kernel
theorem dX11_digest_219 : decode cX11_digest 219 = .ok (.iload 4, 2) := by decide +kernel
theorem dX11_digest_221 : decode cX11_digest 221 = .ok (.iaload, 1) := by decide +kernel
theorem dX11_digest_222 : decode cX11_digest 222 = .ok (.iastore, 1) := by decide +kernel
theorem dX11_digest_223 : decode cX11_digest 223 = .ok (.dup, 1) := by decide +kernel
theorem dX11_digest_224 : decode cX11_digest 224 = .ok (.iconst 4, 1) := by decide +kernel
theorem dX11_digest_225 : decode cX11_digest 225 = .ok (.aload_n 0, 1) := by decide +kernel
theorem dX11_digest_226 : decode cX11_digest 226 = .ok (.invokevirtual 364, 3) := by decide +kernel
theorem dX11_digest_229 : decode cX11_digest 229 = .ok (.iload 4, 2) := by decide +kernel
theorem dX11_digest_231 : decode cX11_digest 231 = .ok (.invokevirtual 368, 3) := by decide +kernel
theorem dX11_digest_234 : decode cX11_digest 234 = .ok (.iastore, 1) := by decide +kernel
theorem dX11_digest_235 : decode cX11_digest 235 = .ok (.astore 5, 2) := by decide +kernel
theorem dX11_digest_237 : decode cX11_digest 237 = .ok (.aload 5, 2) := by decide +kernel
theorem dX11_digest_239 : decode cX11_digest 239 = .ok (.astore 6, 2) := by decide +kernel
theorem dX11_digest_241 : decode cX11_digest 241 = .ok (.aload 6, 2) := by decide +kernel
theorem dX11_digest_243 : decode cX11_digest 243 = .ok (.arraylength, 1) := by decide +kernel
theorem dX11_digest_244 : decode cX11_digest 244 = .ok (.istore 7, 2) := by decide +kernel
theorem dX11_digest_246 : decode cX11_digest 246 = .ok (.iconst 0, 1) := by decide +kernel
theorem dX11_digest_247 : decode cX11_digest 247 = .ok (.istore 8, 2) := by decide +kernel
theorem dX11_digest_249 : decode cX11_digest 249 = .ok (.iload 8, 2) := by decide +kernel
theorem dX11_digest_251 : decode cX11_digest 251 = .ok (.iload 7, 2) := by decide +kernel
theorem dX11_digest_253 : decode cX11_digest 253 = .ok (.if_icmp .ge 26, 3) := by decide +kernel
theorem dX11_digest_256 : decode cX11_digest 256 = .ok (.aload 6, 2) := by decide +kernel
theorem dX11_digest_258 : decode cX11_digest 258 = .ok (.iload 8, 2) := by decide +kernel
theorem dX11_digest_260 : decode cX11_digest 260 = .ok (.iaload, 1) := by decide +kernel
theorem dX11_digest_261 : decode cX11_digest 261 = .ok (.istore 9, 2) := by decide +kernel
theorem dX11_digest_263 : decode cX11_digest 263 = .ok (.lload_n 2, 1) := by decide +kernel
theorem dX11_digest_264 : decode cX11_digest 264 = .ok (.ldc2_w 376, 3) := by decide +kernel
theorem dX11_digest_267 : decode cX11_digest 267 = .ok (.lmul, 1) := by decide +kernel
theorem dX11_digest_268 : decode cX11_digest 268 = .ok (.iload 9, 2) := by decide +kernel
theorem dX11_digest_270 : decode cX11_digest 270 = .ok (.i2l, 1) := by decide +kernel
theorem dX11_digest_271 : decode cX11_digest 271 = .ok (.ladd, 1) := by decide +kernel
theorem dX11_digest_272 : decode cX11_digest 272 = .ok (.lstore_n 2, 1) := by decide +kernel
theorem dX11_digest_273 : decode cX11_digest 273 = .ok (.iinc 8 1, 3) := by decide +kernel
theorem dX11_digest_276 : decode cX11_digest 276 = .ok (.goto (-27), 3) := by decide +kernel
theorem dX11_digest_279 : decode cX11_digest 279 = .ok (.iinc 4 1, 3) := by decide +kernel
theorem dX11_digest_282 : decode cX11_digest 282 = .ok (.goto (-134), 3) := by decide +kernel
theorem dX11_digest_285 : decode cX11_digest 285 = .ok (.iconst 0, 1) := by decide +kernel
theorem dX11_digest_286 : decode cX11_digest 286 = .ok (.istore 4, 2) := by decide +kernel
theorem dX11_digest_288 : decode cX11_digest 288 = .ok (.iload 4, 2) := by decide +kernel
theorem dX11_digest_290 : decode cX11_digest 290 = .ok (.aload_n 0, 1) := by decide +kernel
theorem dX11_digest_291 : decode cX11_digest 291 = .ok (.getfield 35, 3) := by decide +kernel
theorem dX11_digest_294 : decode cX11_digest 294 = .ok (.getfield 70, 3) := by decide +kernel
theorem dX11_digest_297 : decode cX11_digest 297 = .ok (.if_icmp .ge 190, 3) := by decide +kernel
theorem dX11_digest_300 : decode cX11_digest 300 = .ok (.iconst 4, 1) := by decide +kernel
theorem dX11_digest_301 : decode cX11_digest 301 = .ok (.newarray .int, 2) := by decide +kernel
theorem dX11_digest_303 : decode cX11_digest 303 = .ok (.dup, 1) := by decide +kernel
theorem dX11_digest_304 : decode cX11_digest 304 = .ok (.iconst 0, 1) := by decide +kernel
theorem dX11_digest_305 : decode cX11_digest 305 = .ok (.aload_n 0, 1) := by decide +kernel
theorem dX11_digest_306 : decode cX11_digest 306 = .ok (.getfield 50, 3) := by decide +kernel
theorem dX11_digest_309 : decode cX11_digest 309 = .ok (.getfield 315, 3) := by decide +kernel
theorem dX11_digest_312 : decode cX11_digest 312 = .ok (.iload 4, 2) := by decide +kernel
theorem dX11_digest_314 : decode cX11_digest 314 = .ok (.iaload, 1) := by decide +kernel
theorem dX11_digest_315 : decode cX11_digest 315 = .ok (.iastore, 1) := by decide +kernel
theorem dX11_digest_316 : decode cX11_digest 316 = .ok (.dup, 1) := by decide +kernel
theorem dX11_digest_317 : decode cX11_digest 317 = .ok (.iconst 1, 1) := by decide +kernel
theorem dX11_digest_318 : decode cX11_digest 318 = .ok (.aload_n 0, 1) := by decide +kernel
theorem dX11_digest_319 : decode cX11_digest 319 = .ok (.getfield 50, 3) := by decide +kernel
theorem dX11_digest_322 : decode cX11_digest 322 = .ok (.iload 4, 2) := by decide +kernel
theorem dX11_digest_324 : decode cX11_digest 324 = .ok (.invokevirtual 318, 3) := by decide +kernel
theorem dX11_digest_327 : decode cX11_digest 327 = .ok (.iastore, 1) := by decide +kernel
theorem dX11_digest_328 : decode cX11_digest 328 = .ok (.dup, 1) := by decide +kernel
theorem dX11_digest_329 : decode cX11_digest 329 = .ok (.iconst 2, 1) := by decide +kernel
theorem dX11_digest_330 : decode cX11_digest 330 = .ok (.aload_n 0, 1) := by decide +kernel
theorem dX11_digest_331 : decode cX11_digest 331 = .ok (.getfield 50, 3) := by decide +kernel
theorem dX11_digest_334 : decode cX11_digest 334 = .ok (.iload 4, 2) := by decide +kernel
theorem dX11_digest_336 : decode cX11_digest 336 = .ok (.iconst 1, 1) := by decide +kernel
theorem dX11_digest_337 : decode cX11_digest 337 = .ok (.invokevirtual 330, 3) := by decide +kernel
theorem dX11_digest_340 : decode cX11_digest 340 = .ok (.iastore, 1) := by decide +kernel
theorem dX11_digest_341 : decode cX11_digest 341 = .ok (.dup, 1) := by decide +kernel
theorem dX11_digest_342 : decode cX11_digest 342 = .ok (.iconst 3, 1) := by decide +kernel
theorem dX11_digest_343 : decode cX11_digest 343 = .ok (.aload_n 0, 1) := by decide +kernel
theorem dX11_digest_344 : decode cX11_digest 344 = .ok (.getfield 50, 3) := by decide +kernel
theorem dX11_digest_347 : decode cX11_digest 347 = .ok (.iload 4, 2) := by decide +kernel
theorem dX11_digest_349 : decode cX11_digest 349 = .ok (.invokevirtual 333, 3) := by decide +kernel
theorem dX11_digest_352 : decode cX11_digest 352 = .ok (.ifCond .eq 7, 3) := by decide +kernel
theorem dX11_digest_355 : decode cX11_digest 355 = .ok (.iconst 1, 1) := by decide +kernel
theorem dX11_digest_356 : decode cX11_digest 356 = .ok (.goto 4, 3) := by decide +kernel
theorem dX11_digest_359 : decode cX11_digest 359 = .ok (.iconst 0, 1) := by decide +kernel
theorem dX11_digest_360 : decode cX11_digest 360 = .ok (.iastore, 1) := by decide +kernel
theorem dX11_digest_361 : decode cX11_digest 361 = .ok (.astore 5, 2) := by decide +kernel
theorem dX11_digest_363 : decode cX11_digest 363 = .ok (.aload 5, 2) := by decide +kernel
theorem dX11_digest_365 : decode cX11_digest 365 = .ok (.astore 6, 2) := by decide +kernel
theorem dX11_digest_367 : decode cX11_digest 367 = .ok (.aload 6, 2) := by decide +kernel
theorem dX11_digest_369 : decode cX11_digest 369 = .ok (.arraylength, 1) := by decide +kernel
theorem dX11_digest_370 : decode cX11_digest 370 = .ok (.istore 7, 2) := by decide +kernel
theorem dX11_digest_372 : decode cX11_digest 372 = .ok (.iconst 0, 1) := by decide +kernel
theorem dX11_digest_373 : decode cX11_digest 373 = .ok (.istore 8, 2) := by decide +kernel
theorem dX11_digest_375 : decode cX11_digest 375 = .ok (.iload 8, 2) := by decide +kernel
theorem dX11_digest_377 : decode cX11_digest 377 = .ok (.iload 7, 2) := by decide +kernel
theorem dX11_digest_379 : decode cX11_digest 379 = .ok (.if_icmp .ge 26, 3) := by decide +kernel
theorem dX11_digest_382 : decode cX11_digest 382 = .ok (.aload 6, 2) := by decide +kernel
theorem dX11_digest_384 : decode cX11_digest 384 = .ok (.iload 8, 2) := by decide +kernel
theorem dX11_digest_386 : decode cX11_digest 386 = .ok (.iaload, 1) := by decide +kernel
theorem dX11_digest_387 : decode cX11_digest 387 = .ok (.istore 9, 2) := by decide +kernel
theorem dX11_digest_389 : decode cX11_digest 389 = .ok (.lload_n 2, 1) := by decide +kernel
theorem dX11_digest_390 : decode cX11_digest 390 = .ok (.ldc2_w 376, 3) := by decide +kernel
theorem dX11_digest_393 : decode cX11_digest 393 = .ok (.lmul, 1) := by decide +kernel
theorem dX11_digest_394 : decode cX11_digest 394 = .ok (.iload 9, 2) := by decide +kernel
theorem dX11_digest_396 : decode cX11_digest 396 = .ok (.i2l, 1) := by decide +kernel
theorem dX11_digest_397 : decode cX11_digest 397 = .ok (.ladd, 1) := by decide +kernel
theorem dX11_digest_398 : decode cX11_digest 398 = .ok (.lstore_n 2, 1) := by decide +kernel
theorem dX11_digest_399 : decode cX11_digest 399 = .ok (.iinc 8 1, 3) := by decide +kernel
theorem dX11_digest_402 : decode cX11_digest 402 = .ok (.goto (-27), 3) := by decide +kernel
theorem dX11_digest_405 : decode cX11_digest 405 = .ok (.bipush 6, 2) := by decide +kernel
theorem dX11_digest_407 : decode cX11_digest 407 = .ok (.iload 4, 2) := by decide +kernel
theorem dX11_digest_409 : decode cX11_digest 409 = .ok (.imul, 1) := by decide +kernel
theorem dX11_digest_410 : decode cX11_digest 410 = .ok (.istore 6, 2) := by decide +kernel
theorem dX11_digest_412 : decode cX11_digest 412 = .ok (.iload 6, 2) := by decide +kernel
theorem dX11_digest_414 : decode cX11_digest 414 = .ok (.bipush 6, 2) := by decide +kernel
theorem dX11_digest_416 : decode cX11_digest 416 = .ok (.iload 4, 2) := by decide +kernel
theorem dX11_digest_418 : decode cX11_digest 418 = .ok (.imul, 1) := by decide +kernel
theorem dX11_digest_419 : decode cX11_digest 419 = .ok (.aload_n 0, 1) := by decide +kernel
theorem dX11_digest_420 : decode cX11_digest 420 = .ok (.getfield 35, 3) := by decide +kernel
theorem dX11_digest_423 : decode cX11_digest 423 = .ok (.getfield 77, 3) := by decide +kernel
theorem dX11_digest_426 : decode cX11_digest 426 = .ok (.iload 4, 2) := by decide +kernel
theorem dX11_digest_428 : decode cX11_digest 428 = .ok (.iaload, 1) := by decide +kernel
theorem dX11_digest_429 : decode cX11_digest 429 = .ok (.iadd, 1) := by decide +kernel
theorem dX11_digest_430 : decode cX11_digest 430 = .ok (.if_icmp .ge 51, 3) := by decide +kernel
theorem dX11_digest_433 : decode cX11_digest 433 = .ok (.lload_n 2, 1) := by decide +kernel
theorem dX11_digest_434 : decode cX11_digest 434 = .ok (.ldc2_w 376, 3) := by decide +kernel
theorem dX11_digest_437 : decode cX11_digest 437 = .ok (.lmul, 1) := by decide +kernel
theorem dX11_digest_438 : decode cX11_digest 438 = .ok (.aload_n 0, 1) := by decide +kernel
theorem dX11_digest_439 : decode cX11_digest 439 = .ok (.getfield 50, 3) := by decide +kernel
theorem dX11_digest_442 : decode cX11_digest 442 = .ok (.getfield 324, 3) := by decide +kernel
theorem dX11_digest_445 : decode cX11_digest 445 = .ok (.iload 6, 2) := by decide +kernel
theorem dX11_digest_447 : decode cX11_digest 447 = .ok (.iaload, 1) := by decide +kernel
theorem dX11_digest_448 : decode cX11_digest 448 = .ok (.i2l, 1) := by decide +kernel
theorem dX11_digest_449 : decode cX11_digest 449 = .ok (.ladd, 1) := by decide +kernel
theorem dX11_digest_450 : decode cX11_digest 450 = .ok (.ldc2_w 376, 3) := by decide +kernel
theorem dX11_digest_453 : decode cX11_digest 453 = .ok (.lmul, 1) := by decide +kernel
theorem dX11_digest_454 : decode cX11_digest 454 = .ok (.aload_n 0, 1) := by decide +kernel
theorem dX11_digest_455 : decode cX11_digest 455 = .ok (.getfield 50, 3) := by decide +kernel
theorem dX11_digest_458 : decode cX11_digest 458 = .ok (.getfield 327, 3) := by decide +kernel
theorem dX11_digest_461 : decode cX11_digest 461 = .ok (.iload 6, 2) := by decide +kernel
theorem dX11_digest_463 : decode cX11_digest 463 = .ok (.baload, 1) := by decide +kernel
theorem dX11_digest_464 : decode cX11_digest 464 = .ok (.ifCond .eq 7, 3) := by decide +kernel
theorem dX11_digest_467 : decode cX11_digest 467 = .ok (.iconst 1, 1) := by decide +kernel
theorem dX11_digest_468 : decode cX11_digest 468 = .ok (.goto 4, 3) := by decide +kernel
theorem dX11_digest_471 : decode cX11_digest 471 = .ok (.iconst 0, 1) := by decide +kernel
theorem dX11_digest_472 : decode cX11_digest 472 = .ok (.i2l, 1) := by decide +kernel
theorem dX11_digest_473 : decode cX11_digest 473 = .ok (.ladd, 1) := by decide +kernel
theorem dX11_digest_474 : decode cX11_digest 474 = .ok (.lstore_n 2, 1) := by decide +kernel
theorem dX11_digest_475 : decode cX11_digest 475 = .ok (.iinc 6 1, 3) := by decide +kernel
theorem dX11_digest_478 : decode cX11_digest 478 = .ok (.goto (-66), 3) := by decide +kernel
theorem dX11_digest_481 : decode cX11_digest 481 = .ok (.iinc 4 1, 3) := by decide +kernel
theorem dX11_digest_484 : decode cX11_digest 484 = .ok (.goto (-196), 3) := by decide +kernel
theorem dX11_digest_487 : decode cX11_digest 487 = .ok (.lload_n 2, 1) := by decide +kernel
theorem dX11_digest_488 : decode cX11_digest 488 = .ok (.lreturn, 1) := by decide +kernel
