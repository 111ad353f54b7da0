theorem dX6_advance_115 : decode cX6_advance 115 = .ok (.goto (-35), 3) := by decide +kernel
theorem dX6_advance_118 : decode cX6_advance 118 = .ok (.aload_n 0, 1) := by decide +kernel
theorem dX6_advance_119 : decode cX6_advance 119 = .ok (.iconst 1, 1) := by decide +kernel
theorem dX6_advance_120 : decode cX6_advance 120 = .ok (.putfield 53, 3) := by decide +kernel
theorem dX6_advance_123 : decode cX6_advance 123 = .ok (.goto 131, 3) := by decide +kernel
theorem dX6_advance_126 : decode cX6_advance 126 = .ok (.aload_n 0, 1) := by decide +kernel
theorem dX6_advance_127 : decode cX6_advance 127 = .ok (.aload_n 0, 1) := by decide +kernel
theorem dX6_advance_128 : decode cX6_advance 128 = .ok (.getfield 84, 3) := by decide +kernel
theorem dX6_advance_131 : decode cX6_advance 131 = .ok (.invokevirtual 87, 3) := by decide +kernel
theorem dX6_advance_134 : decode cX6_advance 134 = .ok (.invokestatic 95, 3) := by decide +kernel
theorem dX6_advance_137 : decode cX6_advance 137 = .ok (.ifCond .eq 66, 3) := by decide +kernel
theorem dX6_advance_140 : decode cX6_advance 140 = .ok (.aload_n 0, 1) := by decide +kernel
theorem dX6_advance_141 : decode cX6_advance 141 = .ok (.getfield 22, 3) := by decide +kernel
theorem dX6_advance_144 : decode cX6_advance 144 = .ok (.aload_n 0, 1) := by decide +kernel
theorem dX6_advance_145 : decode cX6_advance 145 = .ok (.getfield 15, 3) := by decide +kernel
theorem dX6_advance_148 : decode cX6_advance 148 = .ok (.if_icmp .ge 30, 3) := by decide +kernel
theorem dX6_advance_151 : decode cX6_advance 151 = .ok (.aload_n 0, 1) := by decide +kernel
theorem dX6_advance_152 : decode cX6_advance 152 = .ok (.aload_n 0, 1) := by decide +kernel
theorem dX6_advance_153 : decode cX6_advance 153 = .ok (.getfield 22, 3) := by decide +kernel
theorem dX6_advance_156 : decode cX6_advance 156 = .ok (.invokevirtual 87, 3) := by decide +kernel
theorem dX6_advance_159 : decode cX6_advance 159 = .ok (.invokestatic 95, 3) := by decide +kernel
theorem dX6_advance_162 : decode cX6_advance 162 = .ok (.ifCond .eq 16, 3) := by decide +kernel
theorem dX6_advance_165 : decode cX6_advance 165 = .ok (.aload_n 0, 1) := by decide +kernel
theorem dX6_advance_166 : decode cX6_advance 166 = .ok (.dup, 1) := by decide +kernel
theorem dX6_advance_167 : decode cX6_advance 167 = .ok (.getfield 22, 3) := by decide +kernel
theorem dX6_advance_170 : decode cX6_advance 170 = .ok (.iconst 1, 1) := by decide +kernel
theorem dX6_advance_171 : decode cX6_advance 171 = .ok (.iadd, 1) := by decide +kernel
theorem dX6_advance_172 : decode cX6_advance 172 = .ok (.putfield 22, 3) := by decide +kernel
theorem dX6_advance_175 : decode cX6_advance 175 = .ok (.goto (-35), 3) := by decide +kernel
theorem dX6_advance_178 : decode cX6_advance 178 = .ok (.aload_n 0, 1) := by decide +kernel
theorem dX6_advance_179 : decode cX6_advance 179 = .ok (.aload_n 0, 1) := by decide +kernel
theorem dX6_advance_180 : decode cX6_advance 180 = .ok (.getfield 22, 3) := by decide +kernel
theorem dX6_advance_183 : decode cX6_advance 183 = .ok (.aload_n 0, 1) := by decide +kernel
theorem dX6_advance_184 : decode cX6_advance 184 = .ok (.getfield 84, 3) := by decide +kernel
theorem dX6_advance_187 : decode cX6_advance 187 = .ok (.isub, 1) := by decide +kernel
theorem dX6_advance_188 : decode cX6_advance 188 = .ok (.iconst 3, 1) := by decide +kernel
theorem dX6_advance_189 : decode cX6_advance 189 = .ok (.if_icmp .le 7, 3) := by decide +kernel
theorem dX6_advance_192 : decode cX6_advance 192 = .ok (.iconst 4, 1) := by decide +kernel
theorem dX6_advance_193 : decode cX6_advance 193 = .ok (.goto 4, 3) := by decide +kernel
theorem dX6_advance_196 : decode cX6_advance 196 = .ok (.iconst 2, 1) := by decide +kernel
theorem dX6_advance_197 : decode cX6_advance 197 = .ok (.putfield 53, 3) := by decide +kernel
theorem dX6_advance_200 : decode cX6_advance 200 = .ok (.goto 54, 3) := by decide +kernel
theorem dX6_advance_203 : decode cX6_advance 203 = .ok (.aload_n 0, 1) := by decide +kernel
theorem dX6_advance_204 : decode cX6_advance 204 = .ok (.getfield 84, 3) := by decide +kernel
theorem dX6_advance_207 : decode cX6_advance 207 = .ok (.aload_n 0, 1) := by decide +kernel
theorem dX6_advance_208 : decode cX6_advance 208 = .ok (.getfield 15, 3) := by decide +kernel
theorem dX6_advance_211 : decode cX6_advance 211 = .ok (.if_icmp .lt 11, 3) := by decide +kernel
theorem dX6_advance_214 : decode cX6_advance 214 = .ok (.aload_n 0, 1) := by decide +kernel
theorem dX6_advance_215 : decode cX6_advance 215 = .ok (.iconst 0, 1) := by decide +kernel
theorem dX6_advance_216 : decode cX6_advance 216 = .ok (.putfield 53, 3) := by decide +kernel
theorem dX6_advance_219 : decode cX6_advance 219 = .ok (.goto 35, 3) := by decide +kernel
theorem dX6_advance_222 : decode cX6_advance 222 = .ok (.aload_n 0, 1) := by decide +kernel
theorem dX6_advance_223 : decode cX6_advance 223 = .ok (.dup, 1) := by decide +kernel
theorem dX6_advance_224 : decode cX6_advance 224 = .ok (.getfield 22, 3) := by decide +kernel
theorem dX6_advance_227 : decode cX6_advance 227 = .ok (.iconst 1, 1) := by decide +kernel
theorem dX6_advance_228 : decode cX6_advance 228 = .ok (.iadd, 1) := by decide +kernel
theorem dX6_advance_229 : decode cX6_advance 229 = .ok (.putfield 22, 3) := by decide +kernel
theorem dX6_advance_232 : decode cX6_advance 232 = .ok (.aload_n 0, 1) := by decide +kernel
theorem dX6_advance_233 : decode cX6_advance 233 = .ok (.aload_n 0, 1) := by decide +kernel
theorem dX6_advance_234 : decode cX6_advance 234 = .ok (.aload_n 0, 1) := by decide +kernel
theorem dX6_advance_235 : decode cX6_advance 235 = .ok (.getfield 84, 3) := by decide +kernel
theorem dX6_advance_238 : decode cX6_advance 238 = .ok (.invokevirtual 87, 3) := by decide +kernel
theorem dX6_advance_241 : decode cX6_advance 241 = .ok (.bipush 59, 2) := by decide +kernel
theorem dX6_advance_243 : decode cX6_advance 243 = .ok (.if_icmp .ne 7, 3) := by decide +kernel
theorem dX6_advance_246 : decode cX6_advance 246 = .ok (.iconst 3, 1) := by decide +kernel
theorem dX6_advance_247 : decode cX6_advance 247 = .ok (.goto 4, 3) := by decide +kernel
theorem dX6_advance_250 : decode cX6_advance 250 = .ok (.iconst 4, 1) := by decide +kernel
theorem dX6_advance_251 : decode cX6_advance 251 = .ok (.putfield 53, 3) := by decide +kernel
theorem dX6_advance_254 : decode cX6_advance 254 = .ok (.return_, 1) := by decide +kernel
theorem dX6_isLetter_0 : decode cX6_isLetter 0 = .ok (.iload_n 0, 1) := by decide +kernel
theorem dX6_isLetter_1 : decode cX6_isLetter 1 = .ok (.bipush 97, 2) := by decide +kernel
theorem dX6_isLetter_3 : decode cX6_isLetter 3 = .ok (.if_icmp .lt 13, 3) := by decide +kernel
theorem dX6_isLetter_6 : decode cX6_isLetter 6 = .ok (.iload_n 0, 1) := by decide +kernel
theorem dX6_isLetter_7 : decode cX6_isLetter 7 = .ok (.bipush 122, 2) := by decide +kernel
theorem dX6_isLetter_9 : decode cX6_isLetter 9 = .ok (.if_icmp .gt 7, 3) := by decide +kernel
theorem dX6_isLetter_12 : decode cX6_isLetter 12 = .ok (.iconst 1, 1) := by decide +kernel
theorem dX6_isLetter_13 : decode cX6_isLetter 13 = .ok (.goto 4, 3) := by decide +kernel
theorem dX6_isLetter_16 : decode cX6_isLetter 16 = .ok (.iconst 0, 1) := by decide +kernel
theorem dX6_isLetter_17 : decode cX6_isLetter 17 = .ok (.ireturn, 1) := by decide +kernel
theorem dX6_isFigure_0 : decode cX6_isFigure 0 = .ok (.iload_n 0, 1) := by decide +kernel
theorem dX6_isFigure_1 : decode cX6_isFigure 1 = .ok (.bipush 48, 2) := by decide +kernel
theorem dX6_isFigure_3 : decode cX6_isFigure 3 = .ok (.if_icmp .lt 13, 3) := by decide +kernel
theorem dX6_isFigure_6 : decode cX6_isFigure 6 = .ok (.iload_n 0, 1) := by decide +kernel
theorem dX6_isFigure_7 : decode cX6_isFigure 7 = .ok (.bipush 57, 2) := by decide +kernel
theorem dX6_isFigure_9 : decode cX6_isFigure 9 = .ok (.if_icmp .gt 7, 3) := by decide +kernel
theorem dX6_isFigure_12 : decode cX6_isFigure 12 = .ok (.iconst 1, 1) := by decide +kernel
theorem dX6_isFigure_13 : decode cX6_isFigure 13 = .ok (.goto 4, 3) := by decide +kernel
theorem dX6_isFigure_16 : decode cX6_isFigure 16 = .ok (.iconst 0, 1) := by decide +kernel
theorem dX6_isFigure_17 : decode cX6_isFigure 17 = .ok (.ireturn, 1) := by decide +kernel
set_option maxRecDepth 20000 in
theorem ggX6_isWord_J0_length_8abf5 : GoodIn wsX6_isWord wsJ0_length_8abf5 := goodIn_r _ [8, 9, 10, 11, 12, 7, 13, 14, 15] (by decide +kernel) (by decide +kernel)
set_option maxRecDepth 20000 in
theorem gX6_isWord_J0_length_8abf5 : GoodIn wsX6_isWord (wsV RX6 98 RJ0 yJ0_length_8abf5 wsJ0_length_8abf5) := goodIn_app (goodIn_of _ (by decide +kernel)) ggX6_isWord_J0_length_8abf5
set_option maxRecDepth 20000 in
theorem ggX6_isWord_X6_at : GoodIn wsX6_isWord wsX6_at := goodIn_r _ [20, 21, 22, 60, 61, 62, 63, 64, 65] (by decide +kernel) (by decide +kernel)
set_option maxRecDepth 20000 in
theorem gX6_isWord_X6_at : GoodIn wsX6_isWord (wsV RX6 87 RX6 yX6_at wsX6_at) := goodIn_app (goodIn_of _ (by decide +kernel)) ggX6_isWord_X6_at
set_option maxRecDepth 20000 in
theorem ggX6_isWord_J0_charAt_5068e : GoodIn wsX6_isWord wsJ0_charAt_5068e := goodIn_r _ [26, 9, 27, 28, 29, 7, 30, 14, 15, 31, 32, 33, 34, 35, 36, 37, 38, 39, 40, 41, 42, 43, 44, 45, 46, 47, 48, 49, 50, 51, 52, 53, 54, 55, 56, 57, 58, 59] (by decide +kernel) (by decide +kernel)
set_option maxRecDepth 20000 in
theorem gX6_isWord_J0_charAt_5068e : GoodIn wsX6_isWord (wsV RX6 102 RJ0 yJ0_charAt_5068e wsJ0_charAt_5068e) := goodIn_app (goodIn_of _ (by decide +kernel)) ggX6_isWord_J0_charAt_5068e
theorem dX6_isWord_0 : decode cX6_isWord 0 = .ok (.aload_n 0, 1) := by decide +kernel
theorem dX6_isWord_1 : decode cX6_isWord 1 = .ok (.getfield 53, 3) := by decide +kernel
theorem dX6_isWord_4 : decode cX6_isWord 4 = .ok (.iconst 1, 1) := by decide +kernel
theorem dX6_isWord_5 : decode cX6_isWord 5 = .ok (.if_icmp .ne 19, 3) := by decide +kernel
theorem dX6_isWord_8 : decode cX6_isWord 8 = .ok (.aload_n 0, 1) := by decide +kernel
theorem dX6_isWord_9 : decode cX6_isWord 9 = .ok (.getfield 22, 3) := by decide +kernel
theorem dX6_isWord_12 : decode cX6_isWord 12 = .ok (.aload_n 0, 1) := by decide +kernel
theorem dX6_isWord_13 : decode cX6_isWord 13 = .ok (.getfield 84, 3) := by decide +kernel
theorem dX6_isWord_16 : decode cX6_isWord 16 = .ok (.isub, 1) := by decide +kernel
theorem dX6_isWord_17 : decode cX6_isWord 17 = .ok (.aload_n 1, 1) := by decide +kernel
theorem dX6_isWord_18 : decode cX6_isWord 18 = .ok (.invokevirtual 98, 3) := by decide +kernel
theorem dX6_isWord_21 : decode cX6_isWord 21 = .ok (.if_icmp .eq 5, 3) := by decide +kernel
theorem dX6_isWord_24 : decode cX6_isWord 24 = .ok (.iconst 0, 1) := by decide +kernel
theorem dX6_isWord_25 : decode cX6_isWord 25 = .ok (.ireturn, 1) := by decide +kernel
theorem dX6_isWord_26 : decode cX6_isWord 26 = .ok (.iconst 0, 1) := by decide +kernel
theorem dX6_isWord_27 : decode cX6_isWord 27 = .ok (.istore_n 2, 1) := by decide +kernel
theorem dX6_isWord_28 : decode cX6_isWord 28 = .ok (.iload_n 2, 1) := by decide +kernel
theorem dX6_isWord_29 : decode cX6_isWord 29 = .ok (.aload_n 1, 1) := by decide +kernel
theorem dX6_isWord_30 : decode cX6_isWord 30 = .ok (.invokevirtual 98, 3) := by decide +kernel
theorem dX6_isWord_33 : decode cX6_isWord 33 = .ok (.if_icmp .ge 29, 3) := by decide +kernel
theorem dX6_isWord_36 : decode cX6_isWord 36 = .ok (.aload_n 0, 1) := by decide +kernel
theorem dX6_isWord_37 : decode cX6_isWord 37 = .ok (.aload_n 0, 1) := by decide +kernel
theorem dX6_isWord_38 : decode cX6_isWord 38 = .ok (.getfield 84, 3) := by decide +kernel
theorem dX6_isWord_41 : decode cX6_isWord 41 = .ok (.iload_n 2, 1) := by decide +kernel
theorem dX6_isWord_42 : decode cX6_isWord 42 = .ok (.iadd, 1) := by decide +kernel
theorem dX6_isWord_43 : decode cX6_isWord 43 = .ok (.invokevirtual 87, 3) := by decide +kernel
theorem dX6_isWord_46 : decode cX6_isWord 46 = .ok (.aload_n 1, 1) := by decide +kernel
theorem dX6_isWord_47 : decode cX6_isWord 47 = .ok (.iload_n 2, 1) := by decide +kernel
theorem dX6_isWord_48 : decode cX6_isWord 48 = .ok (.invokevirtual 102, 3) := by decide +kernel
theorem dX6_isWord_51 : decode cX6_isWord 51 = .ok (.if_icmp .eq 5, 3) := by decide +kernel
theorem dX6_isWord_54 : decode cX6_isWord 54 = .ok (.iconst 0, 1) := by decide +kernel
theorem dX6_isWord_55 : decode cX6_isWord 55 = .ok (.ireturn, 1) := by decide +kernel
theorem dX6_isWord_56 : decode cX6_isWord 56 = .ok (.iinc 2 1, 3) := by decide +kernel
theorem dX6_isWord_59 : decode cX6_isWord 59 = .ok (.goto (-31), 3) := by decide +kernel
theorem dX6_isWord_62 : decode cX6_isWord 62 = .ok (.iconst 1, 1) := by decide +kernel
theorem dX6_isWord_63 : decode cX6_isWord 63 = .ok (.ireturn, 1) := by decide +kernel
set_option maxRecDepth 20000 in
theorem ggX6_sortHere_X6_isWord : GoodIn wsX6_sortHere wsX6_isWord := goodIn_r _ [5, 6, 7, 8, 9, 10, 11, 12, 13, 14, 15, 16, 17, 18, 19, 20, 21, 22, 23, 4, 24, 25, 26, 27, 28, 29, 30, 31, 32, 33, 34, 35, 36, 37, 38, 39, 40, 41, 42, 43, 44, 45, 46, 47, 48, 49, 50, 51, 52, 53, 54, 55, 56, 57, 58, 59, 60, 61, 62, 63, 64, 65, 66, 67, 68, 69] (by decide +kernel) (by decide +kernel)
set_option maxRecDepth 20000 in
theorem gX6_sortHere_X6_isWord : GoodIn wsX6_sortHere (wsV RX6 58 RX6 yX6_isWord wsX6_isWord) := goodIn_app (goodIn_of _ (by decide +kernel)) ggX6_sortHere_X6_isWord
theorem dX6_sortHere_0 : decode cX6_sortHere 0 = .ok (.aload_n 0, 1) := by decide +kernel
theorem dX6_sortHere_1 : decode cX6_sortHere 1 = .ok (.ldc 106, 2) := by decide +kernel
theorem dX6_sortHere_3 : decode cX6_sortHere 3 = .ok (.invokevirtual 58, 3) := by decide +kernel
theorem dX6_sortHere_6 : decode cX6_sortHere 6 = .ok (.ifCond .eq 5, 3) := by decide +kernel
theorem dX6_sortHere_9 : decode cX6_sortHere 9 = .ok (.iconst 1, 1) := by decide +kernel
theorem dX6_sortHere_10 : decode cX6_sortHere 10 = .ok (.ireturn, 1) := by decide +kernel
theorem dX6_sortHere_11 : decode cX6_sortHere 11 = .ok (.aload_n 0, 1) := by decide +kernel
theorem dX6_sortHere_12 : decode cX6_sortHere 12 = .ok (.ldc 108, 2) := by decide +kernel
theorem dX6_sortHere_14 : decode cX6_sortHere 14 = .ok (.invokevirtual 58, 3) := by decide +kernel
theorem dX6_sortHere_17 : decode cX6_sortHere 17 = .ok (.ifCond .eq 5, 3) := by decide +kernel
theorem dX6_sortHere_20 : decode cX6_sortHere 20 = .ok (.iconst 2, 1) := by decide +kernel
theorem dX6_sortHere_21 : decode cX6_sortHere 21 = .ok (.ireturn, 1) := by decide +kernel
theorem dX6_sortHere_22 : decode cX6_sortHere 22 = .ok (.aload_n 0, 1) := by decide +kernel
theorem dX6_sortHere_23 : decode cX6_sortHere 23 = .ok (.ldc 110, 2) := by decide +kernel
theorem dX6_sortHere_25 : decode cX6_sortHere 25 = .ok (.invokevirtual 58, 3) := by decide +kernel
theorem dX6_sortHere_28 : decode cX6_sortHere 28 = .ok (.ifCond .eq 5, 3) := by decide +kernel
theorem dX6_sortHere_31 : decode cX6_sortHere 31 = .ok (.iconst 3, 1) := by decide +kernel
theorem dX6_sortHere_32 : decode cX6_sortHere 32 = .ok (.ireturn, 1) := by decide +kernel
theorem dX6_sortHere_33 : decode cX6_sortHere 33 = .ok (.aload_n 0, 1) := by decide +kernel
theorem dX6_sortHere_34 : decode cX6_sortHere 34 = .ok (.ldc 112, 2) := by decide +kernel
theorem dX6_sortHere_36 : decode cX6_sortHere 36 = .ok (.invokevirtual 58, 3) := by decide +kernel
theorem dX6_sortHere_39 : decode cX6_sortHere 39 = .ok (.ifCond .eq 5, 3) := by decide +kernel
theorem dX6_sortHere_42 : decode cX6_sortHere 42 = .ok (.iconst 4, 1) := by decide +kernel
theorem dX6_sortHere_43 : decode cX6_sortHere 43 = .ok (.ireturn, 1) := by decide +kernel
theorem dX6_sortHere_44 : decode cX6_sortHere 44 = .ok (.aload_n 0, 1) := by decide +kernel
theorem dX6_sortHere_45 : decode cX6_sortHere 45 = .ok (.ldc 114, 2) := by decide +kernel
theorem dX6_sortHere_47 : decode cX6_sortHere 47 = .ok (.invokevirtual 58, 3) := by decide +kernel
theorem dX6_sortHere_50 : decode cX6_sortHere 50 = .ok (.ifCond .eq 7, 3) := by decide +kernel
theorem dX6_sortHere_53 : decode cX6_sortHere 53 = .ok (.iconst 5, 1) := by decide +kernel
theorem dX6_sortHere_54 : decode cX6_sortHere 54 = .ok (.goto 4, 3) := by decide +kernel
theorem dX6_sortHere_57 : decode cX6_sortHere 57 = .ok (.iconst 0, 1) := by decide +kernel
theorem dX6_sortHere_58 : decode cX6_sortHere 58 = .ok (.ireturn, 1) := by decide +kernel
set_option maxRecDepth 20000 in
theorem ggX6_numberHere_X6_at : GoodIn wsX6_numberHere wsX6_at := goodIn_r _ [7, 8, 9, 10, 11, 12, 13, 14, 15] (by decide +kernel) (by decide +kernel)
set_option maxRecDepth 20000 in
theorem gX6_numberHere_X6_at : GoodIn wsX6_numberHere (wsV RX6 87 RX6 yX6_at wsX6_at) := goodIn_app (goodIn_of _ (by decide +kernel)) ggX6_numberHere_X6_at
theorem dX6_numberHere_0 : decode cX6_numberHere 0 = .ok (.iconst 0, 1) := by decide +kernel
theorem dX6_numberHere_1 : decode cX6_numberHere 1 = .ok (.istore_n 1, 1) := by decide +kernel
theorem dX6_numberHere_2 : decode cX6_numberHere 2 = .ok (.aload_n 0, 1) := by decide +kernel
theorem dX6_numberHere_3 : decode cX6_numberHere 3 = .ok (.getfield 84, 3) := by decide +kernel
theorem dX6_numberHere_6 : decode cX6_numberHere 6 = .ok (.istore_n 2, 1) := by decide +kernel
theorem dX6_numberHere_7 : decode cX6_numberHere 7 = .ok (.iload_n 2, 1) := by decide +kernel
theorem dX6_numberHere_8 : decode cX6_numberHere 8 = .ok (.aload_n 0, 1) := by decide +kernel
theorem dX6_numberHere_9 : decode cX6_numberHere 9 = .ok (.getfield 22, 3) := by decide +kernel
theorem dX6_numberHere_12 : decode cX6_numberHere 12 = .ok (.if_icmp .ge 23, 3) := by decide +kernel
theorem dX6_numberHere_15 : decode cX6_numberHere 15 = .ok (.bipush 10, 2) := by decide +kernel
theorem dX6_numberHere_17 : decode cX6_numberHere 17 = .ok (.iload_n 1, 1) := by decide +kernel
theorem dX6_numberHere_18 : decode cX6_numberHere 18 = .ok (.imul, 1) := by decide +kernel
theorem dX6_numberHere_19 : decode cX6_numberHere 19 = .ok (.aload_n 0, 1) := by decide +kernel
theorem dX6_numberHere_20 : decode cX6_numberHere 20 = .ok (.iload_n 2, 1) := by decide +kernel
theorem dX6_numberHere_21 : decode cX6_numberHere 21 = .ok (.invokevirtual 87, 3) := by decide +kernel
theorem dX6_numberHere_24 : decode cX6_numberHere 24 = .ok (.iadd, 1) := by decide +kernel
theorem dX6_numberHere_25 : decode cX6_numberHere 25 = .ok (.bipush 48, 2) := by decide +kernel
theorem dX6_numberHere_27 : decode cX6_numberHere 27 = .ok (.isub, 1) := by decide +kernel
theorem dX6_numberHere_28 : decode cX6_numberHere 28 = .ok (.istore_n 1, 1) := by decide +kernel
theorem dX6_numberHere_29 : decode cX6_numberHere 29 = .ok (.iinc 2 1, 3) := by decide +kernel
theorem dX6_numberHere_32 : decode cX6_numberHere 32 = .ok (.goto (-25), 3) := by decide +kernel
theorem dX6_numberHere_35 : decode cX6_numberHere 35 = .ok (.iload_n 1, 1) := by decide +kernel
theorem dX6_numberHere_36 : decode cX6_numberHere 36 = .ok (.ireturn, 1) := by decide +kernel
set_option maxRecDepth 20000 in
theorem ggX7_init_X5_init : GoodIn wsX7_init wsX5_init := goodIn_r _ [37, 38, 2, 3, 39, 40, 41, 42, 43, 44, 45, 46, 74, 75, 76] (by decide +kernel) (by decide +kernel)
set_option maxRecDepth 20000 in
theorem gX7_init_X5_init : GoodIn wsX7_init (wsX5_init) := ggX7_init_X5_init
set_option maxRecDepth 20000 in
theorem ggX7_init_X6_init : GoodIn wsX7_init wsX6_init := goodIn_r _ [48, 49, 2, 3, 39, 50, 89, 90, 91, 92, 93, 94] (by decide +kernel) (by decide +kernel)
set_option maxRecDepth 20000 in
theorem gX7_init_X6_init_n18 : GoodIn wsX7_init (wsX6_init) := ggX7_init_X6_init
set_option maxRecDepth 20000 in
theorem ggX7_init_X2_init : GoodIn wsX7_init wsX2_init := goodIn_r _ [52, 53, 2, 3, 39, 54, 55, 56, 95, 96, 97, 98, 99] (by decide +kernel) (by decide +kernel)
set_option maxRecDepth 20000 in
theorem gX7_init_X2_init_n25 : GoodIn wsX7_init (wsX2_init) := ggX7_init_X2_init
set_option maxRecDepth 20000 in
theorem ggX7_init_X0_init : GoodIn wsX7_init wsX0_init := goodIn_r _ [58, 59, 2, 3, 39, 60, 61, 100, 101, 102] (by decide +kernel) (by decide +kernel)
set_option maxRecDepth 20000 in
theorem gX7_init_X0_init_n41 : GoodIn wsX7_init (wsX0_init) := ggX7_init_X0_init
set_option maxRecDepth 20000 in
theorem ggX7_init_X3_init : GoodIn wsX7_init wsX3_init := goodIn_r _ [63, 64, 2, 3] (by decide +kernel) (by decide +kernel)
set_option maxRecDepth 20000 in
theorem gX7_init_X3_init_n48 : GoodIn wsX7_init (wsX3_init) := ggX7_init_X3_init
set_option maxRecDepth 20000 in
theorem ggX7_init_X4_init : GoodIn wsX7_init wsX4_init := goodIn_r _ [66, 67, 2, 3, 39, 68, 69, 107, 108, 109, 110] (by decide +kernel) (by decide +kernel)
set_option maxRecDepth 20000 in
theorem gX7_init_X4_init_n55 : GoodIn wsX7_init (wsX4_init) := ggX7_init_X4_init
set_option maxRecDepth 20000 in
theorem ggX7_init_X1_init : GoodIn wsX7_init wsX1_init := goodIn_r _ [71, 72, 2, 3, 39, 73, 111, 112] (by decide +kernel) (by decide +kernel)
set_option maxRecDepth 20000 in
theorem gX7_init_X1_init_n62 : GoodIn wsX7_init (wsX1_init) := ggX7_init_X1_init
theorem dX7_init_0 : decode cX7_init 0 = .ok (.aload_n 0, 1) := by decide +kernel
theorem dX7_init_1 : decode cX7_init 1 = .ok (.invokespecial 1, 3) := by decide +kernel
theorem dX7_init_4 : decode cX7_init 4 = .ok (.aload_n 0, 1) := by decide +kernel
theorem dX7_init_5 : decode cX7_init 5 = .ok (.new 7, 3) := by decide +kernel
theorem dX7_init_8 : decode cX7_init 8 = .ok (.dup, 1) := by decide +kernel
theorem dX7_init_9 : decode cX7_init 9 = .ok (.invokespecial 9, 3) := by decide +kernel
theorem dX7_init_12 : decode cX7_init 12 = .ok (.putfield 10, 3) := by decide +kernel
theorem dX7_init_15 : decode cX7_init 15 = .ok (.aload_n 0, 1) := by decide +kernel
theorem dX7_init_16 : decode cX7_init 16 = .ok (.new 16, 3) := by decide +kernel
theorem dX7_init_19 : decode cX7_init 19 = .ok (.dup, 1) := by decide +kernel
theorem dX7_init_20 : decode cX7_init 20 = .ok (.invokespecial 18, 3) := by decide +kernel
theorem dX7_init_23 : decode cX7_init 23 = .ok (.putfield 19, 3) := by decide +kernel
theorem dX7_init_26 : decode cX7_init 26 = .ok (.aload_n 0, 1) := by decide +kernel
theorem dX7_init_27 : decode cX7_init 27 = .ok (.new 23, 3) := by decide +kernel
theorem dX7_init_30 : decode cX7_init 30 = .ok (.dup, 1) := by decide +kernel
theorem dX7_init_31 : decode cX7_init 31 = .ok (.invokespecial 25, 3) := by decide +kernel
theorem dX7_init_34 : decode cX7_init 34 = .ok (.putfield 26, 3) := by decide +kernel
theorem dX7_init_37 : decode cX7_init 37 = .ok (.aload_n 0, 1) := by decide +kernel
theorem dX7_init_38 : decode cX7_init 38 = .ok (.new 23, 3) := by decide +kernel
theorem dX7_init_41 : decode cX7_init 41 = .ok (.dup, 1) := by decide +kernel
theorem dX7_init_42 : decode cX7_init 42 = .ok (.invokespecial 25, 3) := by decide +kernel
theorem dX7_init_45 : decode cX7_init 45 = .ok (.putfield 30, 3) := by decide +kernel
theorem dX7_init_48 : decode cX7_init 48 = .ok (.aload_n 0, 1) := by decide +kernel
theorem dX7_init_49 : decode cX7_init 49 = .ok (.new 23, 3) := by decide +kernel
theorem dX7_init_52 : decode cX7_init 52 = .ok (.dup, 1) := by decide +kernel
theorem dX7_init_53 : decode cX7_init 53 = .ok (.invokespecial 25, 3) := by decide +kernel
theorem dX7_init_56 : decode cX7_init 56 = .ok (.putfield 33, 3) := by decide +kernel
theorem dX7_init_59 : decode cX7_init 59 = .ok (.aload_n 0, 1) := by decide +kernel
theorem dX7_init_60 : decode cX7_init 60 = .ok (.new 23, 3) := by decide +kernel
theorem dX7_init_63 : decode cX7_init 63 = .ok (.dup, 1) := by decide +kernel
theorem dX7_init_64 : decode cX7_init 64 = .ok (.invokespecial 25, 3) := by decide +kernel
theorem dX7_init_67 : decode cX7_init 67 = .ok (.putfield 36, 3) := by decide +kernel
theorem dX7_init_70 : decode cX7_init 70 = .ok (.aload_n 0, 1) := by decide +kernel
theorem dX7_init_71 : decode cX7_init 71 = .ok (.new 39, 3) := by decide +kernel
theorem dX7_init_74 : decode cX7_init 74 = .ok (.dup, 1) := by decide +kernel
theorem dX7_init_75 : decode cX7_init 75 = .ok (.invokespecial 41, 3) := by decide +kernel
theorem dX7_init_78 : decode cX7_init 78 = .ok (.putfield 42, 3) := by decide +kernel
theorem dX7_init_81 : decode cX7_init 81 = .ok (.aload_n 0, 1) := by decide +kernel
theorem dX7_init_82 : decode cX7_init 82 = .ok (.new 46, 3) := by decide +kernel
theorem dX7_init_85 : decode cX7_init 85 = .ok (.dup, 1) := by decide +kernel
theorem dX7_init_86 : decode cX7_init 86 = .ok (.invokespecial 48, 3) := by decide +kernel
theorem dX7_init_89 : decode cX7_init 89 = .ok (.putfield 49, 3) := by decide +kernel
theorem dX7_init_92 : decode cX7_init 92 = .ok (.aload_n 0, 1) := by decide +kernel
theorem dX7_init_93 : decode cX7_init 93 = .ok (.new 53, 3) := by decide +kernel
theorem dX7_init_96 : decode cX7_init 96 = .ok (.dup, 1) := by decide +kernel
theorem dX7_init_97 : decode cX7_init 97 = .ok (.invokespecial 55, 3) := by decide +kernel
theorem dX7_init_100 : decode cX7_init 100 = .ok (.putfield 56, 3) := by decide +kernel
theorem dX7_init_103 : decode cX7_init 103 = .ok (.aload_n 0, 1) := by decide +kernel
theorem dX7_init_104 : decode cX7_init 104 = .ok (.new 60, 3) := by decide +kernel
theorem dX7_init_107 : decode cX7_init 107 = .ok (.dup, 1) := by decide +kernel
theorem dX7_init_108 : decode cX7_init 108 = .ok (.invokespecial 62, 3) := by decide +kernel
theorem dX7_init_111 : decode cX7_init 111 = .ok (.putfield 63, 3) := by decide +kernel
theorem dX7_init_114 : decode cX7_init 114 = .ok (.return_, 1) := by decide +kernel
set_option maxRecDepth 20000 in
theorem ggX7_row_X7_isRow : GoodIn wsX7_row wsX7_isRow := goodIn_r _ [6] (by decide +kernel) (by decide +kernel)
set_option maxRecDepth 20000 in
theorem gX7_row_X7_isRow : GoodIn wsX7_row (va_wsS RX7 67 yX7_isRow wsX7_isRow) := goodIn_app (goodIn_of _ (by decide +kernel)) ggX7_row_X7_isRow
set_option maxRecDepth 20000 in
theorem ggX7_row_X7_isWithin : GoodIn wsX7_row wsX7_isWithin := goodIn_r _ [9] (by decide +kernel) (by decide +kernel)
set_option maxRecDepth 20000 in
theorem gX7_row_X7_isWithin : GoodIn wsX7_row (va_wsS RX7 71 yX7_isWithin wsX7_isWithin) := goodIn_app (goodIn_of _ (by decide +kernel)) ggX7_row_X7_isWithin
set_option maxRecDepth 20000 in
theorem ggX7_row_X7_found : GoodIn wsX7_row wsX7_found := goodIn_r _ [13, 14, 15, 28, 29, 30, 31, 32, 33, 34, 35, 36, 37, 38, 39] (by decide +kernel) (by decide +kernel)
set_option maxRecDepth 20000 in
theorem gX7_row_X7_found : GoodIn wsX7_row (wsV RX7 76 RX7 yX7_found wsX7_found) := goodIn_app (goodIn_of _ (by decide +kernel)) ggX7_row_X7_found
set_option maxRecDepth 20000 in
theorem ggX7_row_X5_make : GoodIn wsX7_row wsX5_make := goodIn_r _ [20, 21, 22, 23, 4, 5, 6, 8, 9, 40, 41, 42] (by decide +kernel) (by decide +kernel)
set_option maxRecDepth 20000 in
theorem gX7_row_X5_make : GoodIn wsX7_row (wsV RX7 80 RX5 yX5_make wsX5_make) := goodIn_app (goodIn_of _ (by decide +kernel)) ggX7_row_X5_make
set_option maxRecDepth 20000 in
theorem ggX7_row_X7_fine : GoodIn wsX7_row wsX7_fine := goodIn_r _ [27, 14, 28, 29, 30, 31, 32, 33, 34, 35, 36, 37, 38, 39] (by decide +kernel) (by decide +kernel)
set_option maxRecDepth 20000 in
theorem gX7_row_X7_fine : GoodIn wsX7_row (wsV RX7 84 RX7 yX7_fine wsX7_fine) := goodIn_app (goodIn_of _ (by decide +kernel)) ggX7_row_X7_fine
theorem dX7_row_0 : decode cX7_row 0 = .ok (.iload_n 1, 1) := by decide +kernel
theorem dX7_row_1 : decode cX7_row 1 = .ok (.invokestatic 67, 3) := by decide +kernel
theorem dX7_row_4 : decode cX7_row 4 = .ok (.ifCond .eq 18, 3) := by decide +kernel
theorem dX7_row_7 : decode cX7_row 7 = .ok (.iload_n 2, 1) := by decide +kernel
theorem dX7_row_8 : decode cX7_row 8 = .ok (.iconst 0, 1) := by decide +kernel
theorem dX7_row_9 : decode cX7_row 9 = .ok (.iconst 2, 1) := by decide +kernel
theorem dX7_row_10 : decode cX7_row 10 = .ok (.invokestatic 71, 3) := by decide +kernel
theorem dX7_row_13 : decode cX7_row 13 = .ok (.ifCond .eq 9, 3) := by decide +kernel
theorem dX7_row_16 : decode cX7_row 16 = .ok (.iload_n 3, 1) := by decide +kernel
theorem dX7_row_17 : decode cX7_row 17 = .ok (.bipush 40, 2) := by decide +kernel
theorem dX7_row_19 : decode cX7_row 19 = .ok (.if_icmp .le 6, 3) := by decide +kernel
theorem dX7_row_22 : decode cX7_row 22 = .ok (.ldc 75, 2) := by decide +kernel
theorem dX7_row_24 : decode cX7_row 24 = .ok (.ireturn, 1) := by decide +kernel
theorem dX7_row_25 : decode cX7_row 25 = .ok (.iload_n 3, 1) := by decide +kernel
theorem dX7_row_26 : decode cX7_row 26 = .ok (.ifCond .ge 9, 3) := by decide +kernel
theorem dX7_row_29 : decode cX7_row 29 = .ok (.aload_n 0, 1) := by decide +kernel
theorem dX7_row_30 : decode cX7_row 30 = .ok (.iconst 4, 1) := by decide +kernel
theorem dX7_row_31 : decode cX7_row 31 = .ok (.invokevirtual 76, 3) := by decide +kernel
theorem dX7_row_34 : decode cX7_row 34 = .ok (.ireturn, 1) := by decide +kernel
theorem dX7_row_35 : decode cX7_row 35 = .ok (.aload_n 0, 1) := by decide +kernel
theorem dX7_row_36 : decode cX7_row 36 = .ok (.getfield 10, 3) := by decide +kernel
theorem dX7_row_39 : decode cX7_row 39 = .ok (.iload_n 1, 1) := by decide +kernel
theorem dX7_row_40 : decode cX7_row 40 = .ok (.iload_n 2, 1) := by decide +kernel
theorem dX7_row_41 : decode cX7_row 41 = .ok (.iload_n 3, 1) := by decide +kernel
theorem dX7_row_42 : decode cX7_row 42 = .ok (.invokevirtual 80, 3) := by decide +kernel
theorem dX7_row_45 : decode cX7_row 45 = .ok (.aload_n 0, 1) := by decide +kernel
theorem dX7_row_46 : decode cX7_row 46 = .ok (.iload_n 3, 1) := by decide +kernel
theorem dX7_row_47 : decode cX7_row 47 = .ok (.invokevirtual 84, 3) := by decide +kernel
theorem dX7_row_50 : decode cX7_row 50 = .ok (.ireturn, 1) := by decide +kernel
set_option maxRecDepth 20000 in
theorem ggX7_set_X7_isRow : GoodIn wsX7_set wsX7_isRow := goodIn_r _ [6] (by decide +kernel) (by decide +kernel)
set_option maxRecDepth 20000 in
theorem gX7_set_X7_isRow : GoodIn wsX7_set (va_wsS RX7 67 yX7_isRow wsX7_isRow) := goodIn_app (goodIn_of _ (by decide +kernel)) ggX7_set_X7_isRow
set_option maxRecDepth 20000 in
theorem ggX7_set_X5_wrongAt : GoodIn wsX7_set wsX5_wrongAt := goodIn_r _ [11, 12, 13, 14, 10, 15, 16, 17, 18, 19, 20, 4, 5, 6, 21, 22, 23, 24, 25, 26, 27, 28, 29, 64, 65, 66] (by decide +kernel) (by decide +kernel)
set_option maxRecDepth 20000 in
theorem gX7_set_X5_wrongAt : GoodIn wsX7_set (wsV RX7 87 RX5 yX5_wrongAt wsX5_wrongAt) := goodIn_app (goodIn_of _ (by decide +kernel)) ggX7_set_X5_wrongAt
set_option maxRecDepth 20000 in
theorem ggX7_set_X7_found : GoodIn wsX7_set wsX7_found := goodIn_r _ [33, 34, 35, 52, 53, 54, 55, 56, 57, 58, 59, 60, 61, 62, 63] (by decide +kernel) (by decide +kernel)
set_option maxRecDepth 20000 in
theorem gX7_set_X7_found : GoodIn wsX7_set (wsV RX7 76 RX7 yX7_found wsX7_found) := goodIn_app (goodIn_of _ (by decide +kernel)) ggX7_set_X7_found
set_option maxRecDepth 20000 in
theorem ggX7_set_X5_put : GoodIn wsX7_set wsX5_put := goodIn_r _ [39, 40, 4, 5, 6, 21, 22, 23, 10, 24, 25, 26, 27, 28, 29, 16, 17, 18, 19, 20, 41, 42, 43, 64, 65, 66] (by decide +kernel) (by decide +kernel)
set_option maxRecDepth 20000 in
theorem gX7_set_X5_put : GoodIn wsX7_set (wsV RX7 91 RX5 yX5_put wsX5_put) := goodIn_app (goodIn_of _ (by decide +kernel)) ggX7_set_X5_put
set_option maxRecDepth 20000 in
theorem ggX7_set_X5_item : GoodIn wsX7_set wsX5_item := goodIn_r _ [47, 40, 4, 5, 6, 21, 22, 23, 10, 24, 25, 26, 27, 28, 29, 64, 65, 66] (by decide +kernel) (by decide +kernel)
set_option maxRecDepth 20000 in
theorem gX7_set_X5_item : GoodIn wsX7_set (wsV RX7 94 RX5 yX5_item wsX5_item) := goodIn_app (goodIn_of _ (by decide +kernel)) ggX7_set_X5_item
set_option maxRecDepth 20000 in
theorem ggX7_set_X7_fine : GoodIn wsX7_set wsX7_fine := goodIn_r _ [51, 34, 52, 53, 54, 55, 56, 57, 58, 59, 60, 61, 62, 63] (by decide +kernel) (by decide +kernel)
set_option maxRecDepth 20000 in
theorem gX7_set_X7_fine : GoodIn wsX7_set (wsV RX7 84 RX7 yX7_fine wsX7_fine) := goodIn_app (goodIn_of _ (by decide +kernel)) ggX7_set_X7_fine
theorem dX7_set_0 : decode cX7_set 0 = .ok (.iload_n 1, 1) := by decide +kernel
theorem dX7_set_1 : decode cX7_set 1 = .ok (.invokestatic 67, 3) := by decide +kernel
theorem dX7_set_4 : decode cX7_set 4 = .ok (.ifCond .ne 6, 3) := by decide +kernel
theorem dX7_set_7 : decode cX7_set 7 = .ok (.ldc 75, 2) := by decide +kernel
theorem dX7_set_9 : decode cX7_set 9 = .ok (.ireturn, 1) := by decide +kernel
theorem dX7_set_10 : decode cX7_set 10 = .ok (.aload_n 0, 1) := by decide +kernel
theorem dX7_set_11 : decode cX7_set 11 = .ok (.getfield 10, 3) := by decide +kernel
theorem dX7_set_14 : decode cX7_set 14 = .ok (.iload_n 1, 1) := by decide +kernel
theorem dX7_set_15 : decode cX7_set 15 = .ok (.iload_n 2, 1) := by decide +kernel
theorem dX7_set_16 : decode cX7_set 16 = .ok (.iconst 1, 1) := by decide +kernel
theorem dX7_set_17 : decode cX7_set 17 = .ok (.invokevirtual 87, 3) := by decide +kernel
theorem dX7_set_20 : decode cX7_set 20 = .ok (.istore 4, 2) := by decide +kernel
theorem dX7_set_22 : decode cX7_set 22 = .ok (.iload 4, 2) := by decide +kernel
theorem dX7_set_24 : decode cX7_set 24 = .ok (.ifCond .eq 10, 3) := by decide +kernel
theorem dX7_set_27 : decode cX7_set 27 = .ok (.aload_n 0, 1) := by decide +kernel
theorem dX7_set_28 : decode cX7_set 28 = .ok (.iload 4, 2) := by decide +kernel
theorem dX7_set_30 : decode cX7_set 30 = .ok (.invokevirtual 76, 3) := by decide +kernel
theorem dX7_set_33 : decode cX7_set 33 = .ok (.ireturn, 1) := by decide +kernel
theorem dX7_set_34 : decode cX7_set 34 = .ok (.aload_n 0, 1) := by decide +kernel
theorem dX7_set_35 : decode cX7_set 35 = .ok (.getfield 10, 3) := by decide +kernel
theorem dX7_set_38 : decode cX7_set 38 = .ok (.iload_n 1, 1) := by decide +kernel
theorem dX7_set_39 : decode cX7_set 39 = .ok (.iload_n 2, 1) := by decide +kernel
theorem dX7_set_40 : decode cX7_set 40 = .ok (.iload_n 3, 1) := by decide +kernel
theorem dX7_set_41 : decode cX7_set 41 = .ok (.invokevirtual 91, 3) := by decide +kernel
theorem dX7_set_44 : decode cX7_set 44 = .ok (.aload_n 0, 1) := by decide +kernel
theorem dX7_set_45 : decode cX7_set 45 = .ok (.aload_n 0, 1) := by decide +kernel
theorem dX7_set_46 : decode cX7_set 46 = .ok (.getfield 10, 3) := by decide +kernel
theorem dX7_set_49 : decode cX7_set 49 = .ok (.iload_n 1, 1) := by decide +kernel
theorem dX7_set_50 : decode cX7_set 50 = .ok (.iload_n 2, 1) := by decide +kernel
theorem dX7_set_51 : decode cX7_set 51 = .ok (.invokevirtual 94, 3) := by decide +kernel
theorem dX7_set_54 : decode cX7_set 54 = .ok (.invokevirtual 84, 3) := by decide +kernel
theorem dX7_set_57 : decode cX7_set 57 = .ok (.ireturn, 1) := by decide +kernel
set_option maxRecDepth 20000 in
theorem ggX7_copy_X7_isRow : GoodIn wsX7_copy wsX7_isRow := goodIn_r _ [6] (by decide +kernel) (by decide +kernel)
set_option maxRecDepth 20000 in
theorem gX7_copy_X7_isRow : GoodIn wsX7_copy (va_wsS RX7 67 yX7_isRow wsX7_isRow) := goodIn_app (goodIn_of _ (by decide +kernel)) ggX7_copy_X7_isRow
set_option maxRecDepth 20000 in
theorem ggX7_copy_X5_isMissing : GoodIn wsX7_copy wsX5_isMissing := goodIn_r _ [11, 12, 13, 14, 10, 15, 16, 4, 5, 6, 59, 60, 61] (by decide +kernel) (by decide +kernel)
set_option maxRecDepth 20000 in
theorem gX7_copy_X5_isMissing : GoodIn wsX7_copy (wsV RX7 98 RX5 yX5_isMissing wsX5_isMissing) := goodIn_app (goodIn_of _ (by decide +kernel)) ggX7_copy_X5_isMissing
set_option maxRecDepth 20000 in
theorem ggX7_copy_X7_found : GoodIn wsX7_copy wsX7_found := goodIn_r _ [20, 21, 22, 47, 48, 49, 50, 51, 52, 53, 54, 55, 56, 57, 58] (by decide +kernel) (by decide +kernel)
set_option maxRecDepth 20000 in
theorem gX7_copy_X7_found : GoodIn wsX7_copy (wsV RX7 76 RX7 yX7_found wsX7_found) := goodIn_app (goodIn_of _ (by decide +kernel)) ggX7_copy_X7_found
set_option maxRecDepth 20000 in
theorem ggX7_copy_X5_laneOf : GoodIn wsX7_copy wsX5_laneOf := goodIn_r _ [15, 16, 4, 5, 6, 59, 60, 61] (by decide +kernel) (by decide +kernel)
set_option maxRecDepth 20000 in
theorem gX7_copy_X5_laneOf : GoodIn wsX7_copy (wsV RX7 101 RX5 yX5_laneOf wsX5_laneOf) := goodIn_app (goodIn_of _ (by decide +kernel)) ggX7_copy_X5_laneOf
set_option maxRecDepth 20000 in
theorem ggX7_copy_X5_reaches : GoodIn wsX7_copy wsX5_reaches := goodIn_r _ [27, 28, 29, 30, 10, 31, 32, 4, 5, 6, 59, 60, 61] (by decide +kernel) (by decide +kernel)
set_option maxRecDepth 20000 in
theorem gX7_copy_X5_reaches : GoodIn wsX7_copy (wsV RX7 104 RX5 yX5_reaches wsX5_reaches) := goodIn_app (goodIn_of _ (by decide +kernel)) ggX7_copy_X5_reaches
set_option maxRecDepth 20000 in
theorem ggX7_copy_X5_move : GoodIn wsX7_copy wsX5_move := goodIn_r _ [36, 37, 38, 39, 40, 41, 4, 5, 6, 42, 25, 26, 10, 27, 28, 29, 30, 31, 32, 59, 60, 61] (by decide +kernel) (by decide +kernel)
set_option maxRecDepth 20000 in
theorem gX7_copy_X5_move : GoodIn wsX7_copy (wsV RX7 107 RX5 yX5_move wsX5_move) := goodIn_app (goodIn_of _ (by decide +kernel)) ggX7_copy_X5_move
set_option maxRecDepth 20000 in
theorem ggX7_copy_X7_fine : GoodIn wsX7_copy wsX7_fine := goodIn_r _ [46, 21, 47, 48, 49, 50, 51, 52, 53, 54, 55, 56, 57, 58] (by decide +kernel) (by decide +kernel)
set_option maxRecDepth 20000 in
theorem gX7_copy_X7_fine : GoodIn wsX7_copy (wsV RX7 84 RX7 yX7_fine wsX7_fine) := goodIn_app (goodIn_of _ (by decide +kernel)) ggX7_copy_X7_fine
theorem dX7_copy_0 : decode cX7_copy 0 = .ok (.iload_n 1, 1) := by decide +kernel
theorem dX7_copy_1 : decode cX7_copy 1 = .ok (.invokestatic 67, 3) := by decide +kernel
theorem dX7_copy_4 : decode cX7_copy 4 = .ok (.ifCond .eq 10, 3) := by decide +kernel
theorem dX7_copy_7 : decode cX7_copy 7 = .ok (.iload_n 3, 1) := by decide +kernel
theorem dX7_copy_8 : decode cX7_copy 8 = .ok (.invokestatic 67, 3) := by decide +kernel
theorem dX7_copy_11 : decode cX7_copy 11 = .ok (.ifCond .ne 6, 3) := by decide +kernel
theorem dX7_copy_14 : decode cX7_copy 14 = .ok (.ldc 75, 2) := by decide +kernel
theorem dX7_copy_16 : decode cX7_copy 16 = .ok (.ireturn, 1) := by decide +kernel
theorem dX7_copy_17 : decode cX7_copy 17 = .ok (.aload_n 0, 1) := by decide +kernel
theorem dX7_copy_18 : decode cX7_copy 18 = .ok (.getfield 10, 3) := by decide +kernel
theorem dX7_copy_21 : decode cX7_copy 21 = .ok (.iload_n 1, 1) := by decide +kernel
theorem dX7_copy_22 : decode cX7_copy 22 = .ok (.invokevirtual 98, 3) := by decide +kernel
theorem dX7_copy_25 : decode cX7_copy 25 = .ok (.ifCond .ne 14, 3) := by decide +kernel
theorem dX7_copy_28 : decode cX7_copy 28 = .ok (.aload_n 0, 1) := by decide +kernel
theorem dX7_copy_29 : decode cX7_copy 29 = .ok (.getfield 10, 3) := by decide +kernel
theorem dX7_copy_32 : decode cX7_copy 32 = .ok (.iload_n 3, 1) := by decide +kernel
theorem dX7_copy_33 : decode cX7_copy 33 = .ok (.invokevirtual 98, 3) := by decide +kernel
theorem dX7_copy_36 : decode cX7_copy 36 = .ok (.ifCond .eq 9, 3) := by decide +kernel
theorem dX7_copy_39 : decode cX7_copy 39 = .ok (.aload_n 0, 1) := by decide +kernel
theorem dX7_copy_40 : decode cX7_copy 40 = .ok (.iconst 1, 1) := by decide +kernel
theorem dX7_copy_41 : decode cX7_copy 41 = .ok (.invokevirtual 76, 3) := by decide +kernel
theorem dX7_copy_44 : decode cX7_copy 44 = .ok (.ireturn, 1) := by decide +kernel
theorem dX7_copy_45 : decode cX7_copy 45 = .ok (.aload_n 0, 1) := by decide +kernel
theorem dX7_copy_46 : decode cX7_copy 46 = .ok (.getfield 10, 3) := by decide +kernel
theorem dX7_copy_49 : decode cX7_copy 49 = .ok (.iload_n 1, 1) := by decide +kernel
theorem dX7_copy_50 : decode cX7_copy 50 = .ok (.invokevirtual 101, 3) := by decide +kernel
theorem dX7_copy_53 : decode cX7_copy 53 = .ok (.aload_n 0, 1) := by decide +kernel
theorem dX7_copy_54 : decode cX7_copy 54 = .ok (.getfield 10, 3) := by decide +kernel
theorem dX7_copy_57 : decode cX7_copy 57 = .ok (.iload_n 3, 1) := by decide +kernel
theorem dX7_copy_58 : decode cX7_copy 58 = .ok (.invokevirtual 101, 3) := by decide +kernel
theorem dX7_copy_61 : decode cX7_copy 61 = .ok (.if_icmp .eq 9, 3) := by decide +kernel
theorem dX7_copy_64 : decode cX7_copy 64 = .ok (.aload_n 0, 1) := by decide +kernel
theorem dX7_copy_65 : decode cX7_copy 65 = .ok (.iconst 5, 1) := by decide +kernel
theorem dX7_copy_66 : decode cX7_copy 66 = .ok (.invokevirtual 76, 3) := by decide +kernel
theorem dX7_copy_69 : decode cX7_copy 69 = .ok (.ireturn, 1) := by decide +kernel
theorem dX7_copy_70 : decode cX7_copy 70 = .ok (.aload_n 0, 1) := by decide +kernel
theorem dX7_copy_71 : decode cX7_copy 71 = .ok (.getfield 10, 3) := by decide +kernel
theorem dX7_copy_74 : decode cX7_copy 74 = .ok (.iload_n 1, 1) := by decide +kernel
theorem dX7_copy_75 : decode cX7_copy 75 = .ok (.iload_n 2, 1) := by decide +kernel
theorem dX7_copy_76 : decode cX7_copy 76 = .ok (.iload 5, 2) := by decide +kernel
theorem dX7_copy_78 : decode cX7_copy 78 = .ok (.invokevirtual 104, 3) := by decide +kernel
theorem dX7_copy_81 : decode cX7_copy 81 = .ok (.ifCond .eq 18, 3) := by decide +kernel
theorem dX7_copy_84 : decode cX7_copy 84 = .ok (.aload_n 0, 1) := by decide +kernel
theorem dX7_copy_85 : decode cX7_copy 85 = .ok (.getfield 10, 3) := by decide +kernel
theorem dX7_copy_88 : decode cX7_copy 88 = .ok (.iload_n 3, 1) := by decide +kernel
theorem dX7_copy_89 : decode cX7_copy 89 = .ok (.iload 4, 2) := by decide +kernel
theorem dX7_copy_91 : decode cX7_copy 91 = .ok (.iload 5, 2) := by decide +kernel
theorem dX7_copy_93 : decode cX7_copy 93 = .ok (.invokevirtual 104, 3) := by decide +kernel
theorem dX7_copy_96 : decode cX7_copy 96 = .ok (.ifCond .ne 9, 3) := by decide +kernel
theorem dX7_copy_99 : decode cX7_copy 99 = .ok (.aload_n 0, 1) := by decide +kernel
theorem dX7_copy_100 : decode cX7_copy 100 = .ok (.iconst 2, 1) := by decide +kernel
theorem dX7_copy_101 : decode cX7_copy 101 = .ok (.invokevirtual 76, 3) := by decide +kernel
theorem dX7_copy_104 : decode cX7_copy 104 = .ok (.ireturn, 1) := by decide +kernel
theorem dX7_copy_105 : decode cX7_copy 105 = .ok (.aload_n 0, 1) := by decide +kernel
theorem dX7_copy_106 : decode cX7_copy 106 = .ok (.getfield 10, 3) := by decide +kernel
theorem dX7_copy_109 : decode cX7_copy 109 = .ok (.iload_n 1, 1) := by decide +kernel
theorem dX7_copy_110 : decode cX7_copy 110 = .ok (.iload_n 2, 1) := by decide +kernel
theorem dX7_copy_111 : decode cX7_copy 111 = .ok (.iload_n 3, 1) := by decide +kernel
theorem dX7_copy_112 : decode cX7_copy 112 = .ok (.iload 4, 2) := by decide +kernel
theorem dX7_copy_114 : decode cX7_copy 114 = .ok (.iload 5, 2) := by decide +kernel
theorem dX7_copy_116 : decode cX7_copy 116 = .ok (.invokevirtual 107, 3) := by decide +kernel
theorem dX7_copy_119 : decode cX7_copy 119 = .ok (.aload_n 0, 1) := by decide +kernel
theorem dX7_copy_120 : decode cX7_copy 120 = .ok (.iload 5, 2) := by decide +kernel
theorem dX7_copy_122 : decode cX7_copy 122 = .ok (.invokevirtual 84, 3) := by decide +kernel
theorem dX7_copy_125 : decode cX7_copy 125 = .ok (.ireturn, 1) := by decide +kernel
set_option maxRecDepth 20000 in
theorem ggX7_drop_X7_isRow : GoodIn wsX7_drop wsX7_isRow := goodIn_r _ [6] (by decide +kernel) (by decide +kernel)
set_option maxRecDepth 20000 in
theorem gX7_drop_X7_isRow : GoodIn wsX7_drop (va_wsS RX7 67 yX7_isRow wsX7_isRow) := goodIn_app (goodIn_of _ (by decide +kernel)) ggX7_drop_X7_isRow
set_option maxRecDepth 20000 in
theorem ggX7_drop_X5_isMissing : GoodIn wsX7_drop wsX5_isMissing := goodIn_r _ [11, 12, 13, 14, 10, 15, 16, 4, 5, 6, 48, 49, 50] (by decide +kernel) (by decide +kernel)
set_option maxRecDepth 20000 in
theorem gX7_drop_X5_isMissing : GoodIn wsX7_drop (wsV RX7 98 RX5 yX5_isMissing wsX5_isMissing) := goodIn_app (goodIn_of _ (by decide +kernel)) ggX7_drop_X5_isMissing
set_option maxRecDepth 20000 in
theorem ggX7_drop_X7_found : GoodIn wsX7_drop wsX7_found := goodIn_r _ [20, 21, 22, 36, 37, 38, 39, 40, 41, 42, 43, 44, 45, 46, 47] (by decide +kernel) (by decide +kernel)
set_option maxRecDepth 20000 in
theorem gX7_drop_X7_found : GoodIn wsX7_drop (wsV RX7 76 RX7 yX7_found wsX7_found) := goodIn_app (goodIn_of _ (by decide +kernel)) ggX7_drop_X7_found
set_option maxRecDepth 20000 in
theorem ggX7_drop_X5_length : GoodIn wsX7_drop wsX5_length := goodIn_r _ [26, 27, 4, 5, 6, 48, 49, 50] (by decide +kernel) (by decide +kernel)
set_option maxRecDepth 20000 in
theorem gX7_drop_X5_length : GoodIn wsX7_drop (wsV RX7 111 RX5 yX5_length wsX5_length) := goodIn_app (goodIn_of _ (by decide +kernel)) ggX7_drop_X5_length
set_option maxRecDepth 20000 in
theorem ggX7_drop_X5_lose : GoodIn wsX7_drop wsX5_lose := goodIn_r _ [31, 16, 27, 4, 5, 6, 48, 49, 50] (by decide +kernel) (by decide +kernel)
set_option maxRecDepth 20000 in
theorem gX7_drop_X5_lose : GoodIn wsX7_drop (wsV RX7 114 RX5 yX5_lose wsX5_lose) := goodIn_app (goodIn_of _ (by decide +kernel)) ggX7_drop_X5_lose
set_option maxRecDepth 20000 in
theorem ggX7_drop_X7_fine : GoodIn wsX7_drop wsX7_fine := goodIn_r _ [35, 21, 36, 37, 38, 39, 40, 41, 42, 43, 44, 45, 46, 47] (by decide +kernel) (by decide +kernel)
set_option maxRecDepth 20000 in
theorem gX7_drop_X7_fine : GoodIn wsX7_drop (wsV RX7 84 RX7 yX7_fine wsX7_fine) := goodIn_app (goodIn_of _ (by decide +kernel)) ggX7_drop_X7_fine
theorem dX7_drop_0 : decode cX7_drop 0 = .ok (.iload_n 1, 1) := by decide +kernel
theorem dX7_drop_1 : decode cX7_drop 1 = .ok (.invokestatic 67, 3) := by decide +kernel
theorem dX7_drop_4 : decode cX7_drop 4 = .ok (.ifCond .ne 6, 3) := by decide +kernel
theorem dX7_drop_7 : decode cX7_drop 7 = .ok (.ldc 75, 2) := by decide +kernel
theorem dX7_drop_9 : decode cX7_drop 9 = .ok (.ireturn, 1) := by decide +kernel
theorem dX7_drop_10 : decode cX7_drop 10 = .ok (.aload_n 0, 1) := by decide +kernel
theorem dX7_drop_11 : decode cX7_drop 11 = .ok (.getfield 10, 3) := by decide +kernel
theorem dX7_drop_14 : decode cX7_drop 14 = .ok (.iload_n 1, 1) := by decide +kernel
theorem dX7_drop_15 : decode cX7_drop 15 = .ok (.invokevirtual 98, 3) := by decide +kernel
theorem dX7_drop_18 : decode cX7_drop 18 = .ok (.ifCond .eq 9, 3) := by decide +kernel
theorem dX7_drop_21 : decode cX7_drop 21 = .ok (.aload_n 0, 1) := by decide +kernel
theorem dX7_drop_22 : decode cX7_drop 22 = .ok (.iconst 1, 1) := by decide +kernel
theorem dX7_drop_23 : decode cX7_drop 23 = .ok (.invokevirtual 76, 3) := by decide +kernel
theorem dX7_drop_26 : decode cX7_drop 26 = .ok (.ireturn, 1) := by decide +kernel
theorem dX7_drop_27 : decode cX7_drop 27 = .ok (.aload_n 0, 1) := by decide +kernel
theorem dX7_drop_28 : decode cX7_drop 28 = .ok (.getfield 10, 3) := by decide +kernel
theorem dX7_drop_31 : decode cX7_drop 31 = .ok (.iload_n 1, 1) := by decide +kernel
theorem dX7_drop_32 : decode cX7_drop 32 = .ok (.invokevirtual 111, 3) := by decide +kernel
theorem dX7_drop_35 : decode cX7_drop 35 = .ok (.istore_n 2, 1) := by decide +kernel
theorem dX7_drop_36 : decode cX7_drop 36 = .ok (.aload_n 0, 1) := by decide +kernel
theorem dX7_drop_37 : decode cX7_drop 37 = .ok (.getfield 10, 3) := by decide +kernel
theorem dX7_drop_40 : decode cX7_drop 40 = .ok (.iload_n 1, 1) := by decide +kernel
theorem dX7_drop_41 : decode cX7_drop 41 = .ok (.invokevirtual 114, 3) := by decide +kernel
theorem dX7_drop_44 : decode cX7_drop 44 = .ok (.aload_n 0, 1) := by decide +kernel
theorem dX7_drop_45 : decode cX7_drop 45 = .ok (.iload_n 2, 1) := by decide +kernel
theorem dX7_drop_46 : decode cX7_drop 46 = .ok (.invokevirtual 84, 3) := by decide +kernel
theorem dX7_drop_49 : decode cX7_drop 49 = .ok (.ireturn, 1) := by decide +kernel
set_option maxRecDepth 20000 in
theorem ggX7_feed_X7_isWithin : GoodIn wsX7_feed wsX7_isWithin := goodIn_r _ [8] (by decide +kernel) (by decide +kernel)
set_option maxRecDepth 20000 in
theorem gX7_feed_X7_isWithin : GoodIn wsX7_feed (va_wsS RX7 71 yX7_isWithin wsX7_isWithin) := goodIn_app (goodIn_of _ (by decide +kernel)) ggX7_feed_X7_isWithin
set_option maxRecDepth 20000 in
theorem ggX7_feed_X6_hasRoom : GoodIn wsX7_feed wsX6_hasRoom := goodIn_r _ [13, 14, 32, 33, 34, 35, 36, 37] (by decide +kernel) (by decide +kernel)
set_option maxRecDepth 20000 in
theorem gX7_feed_X6_hasRoom : GoodIn wsX7_feed (wsV RX7 118 RX6 yX6_hasRoom wsX6_hasRoom) := goodIn_app (goodIn_of _ (by decide +kernel)) ggX7_feed_X6_hasRoom
set_option maxRecDepth 20000 in
theorem ggX7_feed_X6_append : GoodIn wsX7_feed wsX6_append := goodIn_r _ [18, 14, 19, 32, 33, 34, 35, 36, 37] (by decide +kernel) (by decide +kernel)
set_option maxRecDepth 20000 in
theorem gX7_feed_X6_append : GoodIn wsX7_feed (wsV RX7 122 RX6 yX6_append wsX6_append) := goodIn_app (goodIn_of _ (by decide +kernel)) ggX7_feed_X6_append
theorem dX7_feed_0 : decode cX7_feed 0 = .ok (.iload_n 3, 1) := by decide +kernel
theorem dX7_feed_1 : decode cX7_feed 1 = .ok (.iconst 1, 1) := by decide +kernel
theorem dX7_feed_2 : decode cX7_feed 2 = .ok (.bipush 8, 2) := by decide +kernel
theorem dX7_feed_4 : decode cX7_feed 4 = .ok (.invokestatic 71, 3) := by decide +kernel
theorem dX7_feed_7 : decode cX7_feed 7 = .ok (.ifCond .ne 6, 3) := by decide +kernel
theorem dX7_feed_10 : decode cX7_feed 10 = .ok (.ldc 75, 2) := by decide +kernel
theorem dX7_feed_12 : decode cX7_feed 12 = .ok (.ireturn, 1) := by decide +kernel
theorem dX7_feed_13 : decode cX7_feed 13 = .ok (.aload_n 0, 1) := by decide +kernel
theorem dX7_feed_14 : decode cX7_feed 14 = .ok (.getfield 19, 3) := by decide +kernel
theorem dX7_feed_17 : decode cX7_feed 17 = .ok (.iload_n 3, 1) := by decide +kernel
theorem dX7_feed_18 : decode cX7_feed 18 = .ok (.invokevirtual 118, 3) := by decide +kernel
theorem dX7_feed_21 : decode cX7_feed 21 = .ok (.ifCond .ne 6, 3) := by decide +kernel
theorem dX7_feed_24 : decode cX7_feed 24 = .ok (.ldc 121, 2) := by decide +kernel
theorem dX7_feed_26 : decode cX7_feed 26 = .ok (.ireturn, 1) := by decide +kernel
theorem dX7_feed_27 : decode cX7_feed 27 = .ok (.iload_n 3, 1) := by decide +kernel
theorem dX7_feed_28 : decode cX7_feed 28 = .ok (.iconst 1, 1) := by decide +kernel
theorem dX7_feed_29 : decode cX7_feed 29 = .ok (.isub, 1) := by decide +kernel
theorem dX7_feed_30 : decode cX7_feed 30 = .ok (.istore 4, 2) := by decide +kernel
theorem dX7_feed_32 : decode cX7_feed 32 = .ok (.iload 4, 2) := by decide +kernel
theorem dX7_feed_34 : decode cX7_feed 34 = .ok (.ifCond .lt 28, 3) := by decide +kernel
theorem dX7_feed_37 : decode cX7_feed 37 = .ok (.aload_n 0, 1) := by decide +kernel
theorem dX7_feed_38 : decode cX7_feed 38 = .ok (.getfield 19, 3) := by decide +kernel
theorem dX7_feed_41 : decode cX7_feed 41 = .ok (.lload_n 1, 1) := by decide +kernel
theorem dX7_feed_42 : decode cX7_feed 42 = .ok (.bipush 8, 2) := by decide +kernel
theorem dX7_feed_44 : decode cX7_feed 44 = .ok (.iload 4, 2) := by decide +kernel
theorem dX7_feed_46 : decode cX7_feed 46 = .ok (.imul, 1) := by decide +kernel
theorem dX7_feed_47 : decode cX7_feed 47 = .ok (.lushr, 1) := by decide +kernel
theorem dX7_feed_48 : decode cX7_feed 48 = .ok (.l2i, 1) := by decide +kernel
theorem dX7_feed_49 : decode cX7_feed 49 = .ok (.sipush 255, 3) := by decide +kernel
theorem dX7_feed_52 : decode cX7_feed 52 = .ok (.iand, 1) := by decide +kernel
theorem dX7_feed_53 : decode cX7_feed 53 = .ok (.invokevirtual 122, 3) := by decide +kernel
theorem dX7_feed_56 : decode cX7_feed 56 = .ok (.iinc 4 (-1), 3) := by decide +kernel
theorem dX7_feed_59 : decode cX7_feed 59 = .ok (.goto (-27), 3) := by decide +kernel
theorem dX7_feed_62 : decode cX7_feed 62 = .ok (.aload_n 0, 1) := by decide +kernel
theorem dX7_feed_63 : decode cX7_feed 63 = .ok (.getfield 19, 3) := by decide +kernel
theorem dX7_feed_66 : decode cX7_feed 66 = .ok (.getfield 125, 3) := by decide +kernel
theorem dX7_feed_69 : decode cX7_feed 69 = .ok (.ireturn, 1) := by decide +kernel
set_option maxRecDepth 20000 in
theorem ggX7_clock_X6_readInto : GoodIn wsX7_clock wsX6_readInto := goodIn_r _ [16, 17, 18, 19, 20, 21, 22, 23, 24, 15, 25, 26, 27, 28, 29, 30, 31, 32, 33, 34, 35, 36, 37, 38, 39, 40, 41, 42, 43, 44, 45, 46, 47, 48, 49, 50, 51, 52, 53, 54, 55, 56, 57, 58, 59, 60, 61, 62, 63, 64, 65, 66, 67, 68, 69, 70, 71, 72, 73, 74, 75, 76, 77, 78, 79, 80, 81, 82, 83, 84, 85, 86, 87, 88, 89, 90, 91, 92, 93, 94, 95, 96, 97, 98, 99, 100, 101, 102, 103, 104, 105, 106, 107, 108, 109, 110, 111, 112, 113, 114, 115, 116, 117, 118, 119, 120, 121, 122, 123, 124, 125, 126, 127, 128, 129, 130, 131, 132, 133, 134, 135, 153, 154, 155, 156, 157, 158, 162, 163, 164, 165, 166] (by decide +kernel) (by decide +kernel)
set_option maxRecDepth 20000 in
theorem gX7_clock_X6_readInto : GoodIn wsX7_clock (wsV RX7 128 RX6 yX6_readInto wsX6_readInto) := goodIn_app (goodIn_of _ (by decide +kernel)) ggX7_clock_X6_readInto
set_option maxRecDepth 20000 in
theorem ggX7_clock_X2_become : GoodIn wsX7_clock wsX2_become := goodIn_r _ [139, 140, 132, 133, 134, 135, 162, 163, 164, 165, 166] (by decide +kernel) (by decide +kernel)
set_option maxRecDepth 20000 in
theorem gX7_clock_X2_become : GoodIn wsX7_clock (wsV RX7 142 RX2 yX2_become wsX2_become) := goodIn_app (goodIn_of _ (by decide +kernel)) ggX7_clock_X2_become
theorem dX7_clock_0 : decode cX7_clock 0 = .ok (.aload_n 0, 1) := by decide +kernel
theorem dX7_clock_1 : decode cX7_clock 1 = .ok (.getfield 19, 3) := by decide +kernel
theorem dX7_clock_4 : decode cX7_clock 4 = .ok (.aload_n 0, 1) := by decide +kernel
theorem dX7_clock_5 : decode cX7_clock 5 = .ok (.getfield 30, 3) := by decide +kernel
theorem dX7_clock_8 : decode cX7_clock 8 = .ok (.invokevirtual 128, 3) := by decide +kernel
theorem dX7_clock_11 : decode cX7_clock 11 = .ok (.aload_n 0, 1) := by decide +kernel
theorem dX7_clock_12 : decode cX7_clock 12 = .ok (.getfield 19, 3) := by decide +kernel
theorem dX7_clock_15 : decode cX7_clock 15 = .ok (.iconst 0, 1) := by decide +kernel
theorem dX7_clock_16 : decode cX7_clock 16 = .ok (.putfield 125, 3) := by decide +kernel
theorem dX7_clock_19 : decode cX7_clock 19 = .ok (.aload_n 0, 1) := by decide +kernel
theorem dX7_clock_20 : decode cX7_clock 20 = .ok (.getfield 19, 3) := by decide +kernel
theorem dX7_clock_23 : decode cX7_clock 23 = .ok (.getfield 132, 3) := by decide +kernel
theorem dX7_clock_26 : decode cX7_clock 26 = .ok (.ifCond .eq 25, 3) := by decide +kernel
theorem dX7_clock_29 : decode cX7_clock 29 = .ok (.aload_n 0, 1) := by decide +kernel
theorem dX7_clock_30 : decode cX7_clock 30 = .ok (.aload_n 0, 1) := by decide +kernel
theorem dX7_clock_31 : decode cX7_clock 31 = .ok (.getfield 19, 3) := by decide +kernel
theorem dX7_clock_34 : decode cX7_clock 34 = .ok (.getfield 132, 3) := by decide +kernel
theorem dX7_clock_37 : decode cX7_clock 37 = .ok (.putfield 135, 3) := by decide +kernel
theorem dX7_clock_40 : decode cX7_clock 40 = .ok (.ldc 138, 2) := by decide +kernel
theorem dX7_clock_42 : decode cX7_clock 42 = .ok (.aload_n 0, 1) := by decide +kernel
theorem dX7_clock_43 : decode cX7_clock 43 = .ok (.getfield 19, 3) := by decide +kernel
theorem dX7_clock_46 : decode cX7_clock 46 = .ok (.getfield 139, 3) := by decide +kernel
theorem dX7_clock_49 : decode cX7_clock 49 = .ok (.isub, 1) := by decide +kernel
theorem dX7_clock_50 : decode cX7_clock 50 = .ok (.ireturn, 1) := by decide +kernel
theorem dX7_clock_51 : decode cX7_clock 51 = .ok (.aload_n 0, 1) := by decide +kernel
theorem dX7_clock_52 : decode cX7_clock 52 = .ok (.getfield 26, 3) := by decide +kernel
theorem dX7_clock_55 : decode cX7_clock 55 = .ok (.aload_n 0, 1) := by decide +kernel
theorem dX7_clock_56 : decode cX7_clock 56 = .ok (.getfield 30, 3) := by decide +kernel
theorem dX7_clock_59 : decode cX7_clock 59 = .ok (.invokevirtual 142, 3) := by decide +kernel
theorem dX7_clock_62 : decode cX7_clock 62 = .ok (.aload_n 0, 1) := by decide +kernel
theorem dX7_clock_63 : decode cX7_clock 63 = .ok (.getfield 42, 3) := by decide +kernel
theorem dX7_clock_66 : decode cX7_clock 66 = .ok (.iconst 0, 1) := by decide +kernel
theorem dX7_clock_67 : decode cX7_clock 67 = .ok (.putfield 145, 3) := by decide +kernel
theorem dX7_clock_70 : decode cX7_clock 70 = .ok (.aload_n 0, 1) := by decide +kernel
theorem dX7_clock_71 : decode cX7_clock 71 = .ok (.getfield 26, 3) := by decide +kernel
theorem dX7_clock_74 : decode cX7_clock 74 = .ok (.getfield 146, 3) := by decide +kernel
theorem dX7_clock_77 : decode cX7_clock 77 = .ok (.ireturn, 1) := by decide +kernel
theorem dX7_fault_0 : decode cX7_fault 0 = .ok (.aload_n 0, 1) := by decide +kernel
theorem dX7_fault_1 : decode cX7_fault 1 = .ok (.getfield 135, 3) := by decide +kernel
theorem dX7_fault_4 : decode cX7_fault 4 = .ok (.ireturn, 1) := by decide +kernel
set_option maxRecDepth 20000 in
theorem ggX7_slip_X2_has : GoodIn wsX7_slip wsX2_has := goodIn_r _ [9, 10, 60, 61, 62, 63, 64] (by decide +kernel) (by decide +kernel)
set_option maxRecDepth 20000 in
theorem gX7_slip_X2_has : GoodIn wsX7_slip (wsV RX7 149 RX2 yX2_has wsX2_has) := goodIn_app (goodIn_of _ (by decide +kernel)) ggX7_slip_X2_has
set_option maxRecDepth 20000 in
theorem ggX7_slip_X7_isWithin : GoodIn wsX7_slip wsX7_isWithin := goodIn_r _ [14] (by decide +kernel) (by decide +kernel)
set_option maxRecDepth 20000 in
theorem gX7_slip_X7_isWithin : GoodIn wsX7_slip (va_wsS RX7 71 yX7_isWithin wsX7_isWithin) := goodIn_app (goodIn_of _ (by decide +kernel)) ggX7_slip_X7_isWithin
set_option maxRecDepth 20000 in
theorem ggX7_slip_X2_slipOf : GoodIn wsX7_slip wsX2_slipOf := goodIn_r _ [18, 19, 20, 6, 7, 8, 9, 10, 60, 61, 62, 63, 64] (by decide +kernel) (by decide +kernel)
set_option maxRecDepth 20000 in
theorem gX7_slip_X2_slipOf : GoodIn wsX7_slip (wsV RX7 152 RX2 yX2_slipOf wsX2_slipOf) := goodIn_app (goodIn_of _ (by decide +kernel)) ggX7_slip_X2_slipOf
set_option maxRecDepth 20000 in
theorem ggX7_slip_X0_keep : GoodIn wsX7_slip wsX0_keep := goodIn_r _ [25, 26, 27, 28, 29, 30, 31, 24, 32, 33, 34, 35, 36, 65, 66, 67] (by decide +kernel) (by decide +kernel)
set_option maxRecDepth 20000 in
theorem gX7_slip_X0_keep : GoodIn wsX7_slip (wsV RX7 155 RX0 yX0_keep wsX0_keep) := goodIn_app (goodIn_of _ (by decide +kernel)) ggX7_slip_X0_keep
set_option maxRecDepth 20000 in
theorem ggX7_slip_X7_rest : GoodIn wsX7_slip wsX7_rest := goodIn_r _ [39, 40, 41, 42, 43] (by decide +kernel) (by decide +kernel)
set_option maxRecDepth 20000 in
theorem gX7_slip_X7_rest : GoodIn wsX7_slip (va_wsS RX7 162 yX7_rest wsX7_rest) := goodIn_app (goodIn_of _ (by decide +kernel)) ggX7_slip_X7_rest
set_option maxRecDepth 20000 in
theorem ggX7_slip_X2_setSlip : GoodIn wsX7_slip wsX2_setSlip := goodIn_r _ [47, 19, 20, 6, 7, 8, 9, 10, 60, 61, 62, 63, 64] (by decide +kernel) (by decide +kernel)
set_option maxRecDepth 20000 in
theorem gX7_slip_X2_setSlip : GoodIn wsX7_slip (wsV RX7 165 RX2 yX2_setSlip wsX2_setSlip) := goodIn_app (goodIn_of _ (by decide +kernel)) ggX7_slip_X2_setSlip
theorem dX7_slip_0 : decode cX7_slip 0 = .ok (.aload_n 0, 1) := by decide +kernel
theorem dX7_slip_1 : decode cX7_slip 1 = .ok (.getfield 26, 3) := by decide +kernel
theorem dX7_slip_4 : decode cX7_slip 4 = .ok (.iload_n 1, 1) := by decide +kernel
theorem dX7_slip_5 : decode cX7_slip 5 = .ok (.invokevirtual 149, 3) := by decide +kernel
theorem dX7_slip_8 : decode cX7_slip 8 = .ok (.ifCond .eq 14, 3) := by decide +kernel
theorem dX7_slip_11 : decode cX7_slip 11 = .ok (.iload_n 2, 1) := by decide +kernel
theorem dX7_slip_12 : decode cX7_slip 12 = .ok (.bipush (-60), 2) := by decide +kernel
theorem dX7_slip_14 : decode cX7_slip 14 = .ok (.bipush 60, 2) := by decide +kernel
theorem dX7_slip_16 : decode cX7_slip 16 = .ok (.invokestatic 71, 3) := by decide +kernel
theorem dX7_slip_19 : decode cX7_slip 19 = .ok (.ifCond .ne 6, 3) := by decide +kernel
theorem dX7_slip_22 : decode cX7_slip 22 = .ok (.ldc 75, 2) := by decide +kernel
theorem dX7_slip_24 : decode cX7_slip 24 = .ok (.ireturn, 1) := by decide +kernel
theorem dX7_slip_25 : decode cX7_slip 25 = .ok (.aload_n 0, 1) := by decide +kernel
theorem dX7_slip_26 : decode cX7_slip 26 = .ok (.getfield 26, 3) := by decide +kernel
theorem dX7_slip_29 : decode cX7_slip 29 = .ok (.iload_n 1, 1) := by decide +kernel
theorem dX7_slip_30 : decode cX7_slip 30 = .ok (.invokevirtual 152, 3) := by decide +kernel
theorem dX7_slip_33 : decode cX7_slip 33 = .ok (.istore_n 3, 1) := by decide +kernel
theorem dX7_slip_34 : decode cX7_slip 34 = .ok (.aload_n 0, 1) := by decide +kernel
theorem dX7_slip_35 : decode cX7_slip 35 = .ok (.getfield 42, 3) := by decide +kernel
theorem dX7_slip_38 : decode cX7_slip 38 = .ok (.iload_n 1, 1) := by decide +kernel
theorem dX7_slip_39 : decode cX7_slip 39 = .ok (.iload_n 3, 1) := by decide +kernel
theorem dX7_slip_40 : decode cX7_slip 40 = .ok (.invokevirtual 155, 3) := by decide +kernel
theorem dX7_slip_43 : decode cX7_slip 43 = .ok (.aload_n 0, 1) := by decide +kernel
theorem dX7_slip_44 : decode cX7_slip 44 = .ok (.getfield 26, 3) := by decide +kernel
theorem dX7_slip_47 : decode cX7_slip 47 = .ok (.iload_n 1, 1) := by decide +kernel
theorem dX7_slip_48 : decode cX7_slip 48 = .ok (.iload_n 3, 1) := by decide +kernel
theorem dX7_slip_49 : decode cX7_slip 49 = .ok (.iload_n 2, 1) := by decide +kernel
theorem dX7_slip_50 : decode cX7_slip 50 = .ok (.iadd, 1) := by decide +kernel
theorem dX7_slip_51 : decode cX7_slip 51 = .ok (.aload_n 0, 1) := by decide +kernel
theorem dX7_slip_52 : decode cX7_slip 52 = .ok (.getfield 26, 3) := by decide +kernel
theorem dX7_slip_55 : decode cX7_slip 55 = .ok (.getfield 159, 3) := by decide +kernel
theorem dX7_slip_58 : decode cX7_slip 58 = .ok (.invokestatic 162, 3) := by decide +kernel
theorem dX7_slip_61 : decode cX7_slip 61 = .ok (.invokevirtual 165, 3) := by decide +kernel
theorem dX7_slip_64 : decode cX7_slip 64 = .ok (.aload_n 0, 1) := by decide +kernel
theorem dX7_slip_65 : decode cX7_slip 65 = .ok (.getfield 26, 3) := by decide +kernel
theorem dX7_slip_68 : decode cX7_slip 68 = .ok (.iload_n 1, 1) := by decide +kernel
theorem dX7_slip_69 : decode cX7_slip 69 = .ok (.invokevirtual 152, 3) := by decide +kernel
theorem dX7_slip_72 : decode cX7_slip 72 = .ok (.ireturn, 1) := by decide +kernel
set_option maxRecDepth 20000 in
theorem ggX7_undo_X0_lastHand : GoodIn wsX7_undo wsX0_lastHand := goodIn_r _ [9, 10, 11, 12, 13, 14, 43, 44, 45] (by decide +kernel) (by decide +kernel)
set_option maxRecDepth 20000 in
theorem gX7_undo_X0_lastHand : GoodIn wsX7_undo (wsV RX7 169 RX0 yX0_lastHand wsX0_lastHand) := goodIn_app (goodIn_of _ (by decide +kernel)) ggX7_undo_X0_lastHand
set_option maxRecDepth 20000 in
theorem ggX7_undo_X0_lastSlip : GoodIn wsX7_undo wsX0_lastSlip := goodIn_r _ [18, 10, 19, 12, 13, 14, 43, 44, 45] (by decide +kernel) (by decide +kernel)
set_option maxRecDepth 20000 in
theorem gX7_undo_X0_lastSlip : GoodIn wsX7_undo (wsV RX7 173 RX0 yX0_lastSlip wsX0_lastSlip) := goodIn_app (goodIn_of _ (by decide +kernel)) ggX7_undo_X0_lastSlip
set_option maxRecDepth 20000 in
theorem ggX7_undo_X2_setSlip : GoodIn wsX7_undo wsX2_setSlip := goodIn_r _ [24, 25, 26, 27, 28, 23, 29, 30, 46, 47, 48, 49, 50] (by decide +kernel) (by decide +kernel)
set_option maxRecDepth 20000 in
theorem gX7_undo_X2_setSlip : GoodIn wsX7_undo (wsV RX7 165 RX2 yX2_setSlip wsX2_setSlip) := goodIn_app (goodIn_of _ (by decide +kernel)) ggX7_undo_X2_setSlip
theorem dX7_undo_0 : decode cX7_undo 0 = .ok (.aload_n 0, 1) := by decide +kernel
theorem dX7_undo_1 : decode cX7_undo 1 = .ok (.getfield 42, 3) := by decide +kernel
theorem dX7_undo_4 : decode cX7_undo 4 = .ok (.getfield 145, 3) := by decide +kernel
theorem dX7_undo_7 : decode cX7_undo 7 = .ok (.iconst 1, 1) := by decide +kernel
theorem dX7_undo_8 : decode cX7_undo 8 = .ok (.if_icmp .ge 6, 3) := by decide +kernel
theorem dX7_undo_11 : decode cX7_undo 11 = .ok (.ldc 168, 2) := by decide +kernel
theorem dX7_undo_13 : decode cX7_undo 13 = .ok (.ireturn, 1) := by decide +kernel
theorem dX7_undo_14 : decode cX7_undo 14 = .ok (.aload_n 0, 1) := by decide +kernel
theorem dX7_undo_15 : decode cX7_undo 15 = .ok (.getfield 26, 3) := by decide +kernel
theorem dX7_undo_18 : decode cX7_undo 18 = .ok (.aload_n 0, 1) := by decide +kernel
theorem dX7_undo_19 : decode cX7_undo 19 = .ok (.getfield 42, 3) := by decide +kernel
theorem dX7_undo_22 : decode cX7_undo 22 = .ok (.invokevirtual 169, 3) := by decide +kernel
theorem dX7_undo_25 : decode cX7_undo 25 = .ok (.aload_n 0, 1) := by decide +kernel
theorem dX7_undo_26 : decode cX7_undo 26 = .ok (.getfield 42, 3) := by decide +kernel
theorem dX7_undo_29 : decode cX7_undo 29 = .ok (.invokevirtual 173, 3) := by decide +kernel
theorem dX7_undo_32 : decode cX7_undo 32 = .ok (.invokevirtual 165, 3) := by decide +kernel
theorem dX7_undo_35 : decode cX7_undo 35 = .ok (.aload_n 0, 1) := by decide +kernel
theorem dX7_undo_36 : decode cX7_undo 36 = .ok (.getfield 42, 3) := by decide +kernel
theorem dX7_undo_39 : decode cX7_undo 39 = .ok (.dup, 1) := by decide +kernel
theorem dX7_undo_40 : decode cX7_undo 40 = .ok (.getfield 145, 3) := by decide +kernel
theorem dX7_undo_43 : decode cX7_undo 43 = .ok (.iconst 1, 1) := by decide +kernel
theorem dX7_undo_44 : decode cX7_undo 44 = .ok (.isub, 1) := by decide +kernel
theorem dX7_undo_45 : decode cX7_undo 45 = .ok (.putfield 145, 3) := by decide +kernel
theorem dX7_undo_48 : decode cX7_undo 48 = .ok (.aload_n 0, 1) := by decide +kernel
theorem dX7_undo_49 : decode cX7_undo 49 = .ok (.getfield 42, 3) := by decide +kernel
theorem dX7_undo_52 : decode cX7_undo 52 = .ok (.getfield 145, 3) := by decide +kernel
theorem dX7_undo_55 : decode cX7_undo 55 = .ok (.ireturn, 1) := by decide +kernel
set_option maxRecDepth 20000 in
theorem ggX7_hand_X2_has : GoodIn wsX7_hand wsX2_has := goodIn_r _ [7, 8, 46, 47, 48, 49, 50] (by decide +kernel) (by decide +kernel)
set_option maxRecDepth 20000 in
theorem gX7_hand_X2_has : GoodIn wsX7_hand (wsV RX7 149 RX2 yX2_has wsX2_has) := goodIn_app (goodIn_of _ (by decide +kernel)) ggX7_hand_X2_has
set_option maxRecDepth 20000 in
theorem ggX7_hand_X7_isWithin : GoodIn wsX7_hand wsX7_isWithin := goodIn_r _ [12] (by decide +kernel) (by decide +kernel)
set_option maxRecDepth 20000 in
theorem gX7_hand_X7_isWithin : GoodIn wsX7_hand (va_wsS RX7 71 yX7_isWithin wsX7_isWithin) := goodIn_app (goodIn_of _ (by decide +kernel)) ggX7_hand_X7_isWithin
set_option maxRecDepth 20000 in
theorem ggX7_hand_X2_turnsOf : GoodIn wsX7_hand wsX2_turnsOf := goodIn_r _ [16, 17, 18, 4, 5, 6, 7, 8, 46, 47, 48, 49, 50] (by decide +kernel) (by decide +kernel)
set_option maxRecDepth 20000 in
theorem gX7_hand_X2_turnsOf : GoodIn wsX7_hand (wsV RX7 176 RX2 yX2_turnsOf wsX2_turnsOf) := goodIn_app (goodIn_of _ (by decide +kernel)) ggX7_hand_X2_turnsOf
set_option maxRecDepth 20000 in
theorem ggX7_hand_X2_speedOf : GoodIn wsX7_hand wsX2_speedOf := goodIn_r _ [22, 23, 24, 25, 6, 26, 27, 18, 4, 5, 7, 8, 28, 14, 15, 16, 17, 46, 47, 48, 49, 50] (by decide +kernel) (by decide +kernel)
set_option maxRecDepth 20000 in
theorem gX7_hand_X2_speedOf : GoodIn wsX7_hand (wsV RX7 179 RX2 yX2_speedOf wsX2_speedOf) := goodIn_app (goodIn_of _ (by decide +kernel)) ggX7_hand_X2_speedOf
set_option maxRecDepth 20000 in
theorem ggX7_hand_X2_slipOf : GoodIn wsX7_hand wsX2_slipOf := goodIn_r _ [32, 33, 18, 4, 5, 6, 7, 8, 46, 47, 48, 49, 50] (by decide +kernel) (by decide +kernel)
set_option maxRecDepth 20000 in
theorem gX7_hand_X2_slipOf : GoodIn wsX7_hand (wsV RX7 152 RX2 yX2_slipOf wsX2_slipOf) := goodIn_app (goodIn_of _ (by decide +kernel)) ggX7_hand_X2_slipOf
theorem dX7_hand_0 : decode cX7_hand 0 = .ok (.aload_n 0, 1) := by decide +kernel
theorem dX7_hand_1 : decode cX7_hand 1 = .ok (.getfield 26, 3) := by decide +kernel
theorem dX7_hand_4 : decode cX7_hand 4 = .ok (.iload_n 1, 1) := by decide +kernel
theorem dX7_hand_5 : decode cX7_hand 5 = .ok (.invokevirtual 149, 3) := by decide +kernel
theorem dX7_hand_8 : decode cX7_hand 8 = .ok (.ifCond .eq 12, 3) := by decide +kernel
theorem dX7_hand_11 : decode cX7_hand 11 = .ok (.iload_n 2, 1) := by decide +kernel
theorem dX7_hand_12 : decode cX7_hand 12 = .ok (.iconst 0, 1) := by decide +kernel
theorem dX7_hand_13 : decode cX7_hand 13 = .ok (.iconst 2, 1) := by decide +kernel
theorem dX7_hand_14 : decode cX7_hand 14 = .ok (.invokestatic 71, 3) := by decide +kernel
theorem dX7_hand_17 : decode cX7_hand 17 = .ok (.ifCond .ne 6, 3) := by decide +kernel
theorem dX7_hand_20 : decode cX7_hand 20 = .ok (.ldc 75, 2) := by decide +kernel
theorem dX7_hand_22 : decode cX7_hand 22 = .ok (.ireturn, 1) := by decide +kernel
theorem dX7_hand_23 : decode cX7_hand 23 = .ok (.iload_n 2, 1) := by decide +kernel
theorem dX7_hand_24 : decode cX7_hand 24 = .ok (.ifCond .ne 12, 3) := by decide +kernel
theorem dX7_hand_27 : decode cX7_hand 27 = .ok (.aload_n 0, 1) := by decide +kernel
theorem dX7_hand_28 : decode cX7_hand 28 = .ok (.getfield 26, 3) := by decide +kernel
theorem dX7_hand_31 : decode cX7_hand 31 = .ok (.iload_n 1, 1) := by decide +kernel
theorem dX7_hand_32 : decode cX7_hand 32 = .ok (.invokevirtual 176, 3) := by decide +kernel
theorem dX7_hand_35 : decode cX7_hand 35 = .ok (.ireturn, 1) := by decide +kernel
theorem dX7_hand_36 : decode cX7_hand 36 = .ok (.iload_n 2, 1) := by decide +kernel
theorem dX7_hand_37 : decode cX7_hand 37 = .ok (.iconst 1, 1) := by decide +kernel
theorem dX7_hand_38 : decode cX7_hand 38 = .ok (.if_icmp .ne 14, 3) := by decide +kernel
theorem dX7_hand_41 : decode cX7_hand 41 = .ok (.aload_n 0, 1) := by decide +kernel
theorem dX7_hand_42 : decode cX7_hand 42 = .ok (.getfield 26, 3) := by decide +kernel
theorem dX7_hand_45 : decode cX7_hand 45 = .ok (.iload_n 1, 1) := by decide +kernel
theorem dX7_hand_46 : decode cX7_hand 46 = .ok (.invokevirtual 179, 3) := by decide +kernel
theorem dX7_hand_49 : decode cX7_hand 49 = .ok (.goto 11, 3) := by decide +kernel
theorem dX7_hand_52 : decode cX7_hand 52 = .ok (.aload_n 0, 1) := by decide +kernel
theorem dX7_hand_53 : decode cX7_hand 53 = .ok (.getfield 26, 3) := by decide +kernel
theorem dX7_hand_56 : decode cX7_hand 56 = .ok (.iload_n 1, 1) := by decide +kernel
theorem dX7_hand_57 : decode cX7_hand 57 = .ok (.invokevirtual 152, 3) := by decide +kernel
theorem dX7_hand_60 : decode cX7_hand 60 = .ok (.ireturn, 1) := by decide +kernel
set_option maxRecDepth 20000 in
theorem ggX7_points_X2_has : GoodIn wsX7_points wsX2_has := goodIn_r _ [7, 8, 70, 71, 72, 73, 74] (by decide +kernel) (by decide +kernel)
set_option maxRecDepth 20000 in
theorem gX7_points_X2_has : GoodIn wsX7_points (wsV RX7 149 RX2 yX2_has wsX2_has) := goodIn_app (goodIn_of _ (by decide +kernel)) ggX7_points_X2_has
set_option maxRecDepth 20000 in
theorem ggX7_points_X7_isMoment : GoodIn wsX7_points wsX7_isMoment := goodIn_r _ [12, 13, 14, 11, 15] (by decide +kernel) (by decide +kernel)
set_option maxRecDepth 20000 in
theorem gX7_points_X7_isMoment : GoodIn wsX7_points (va_wsS RX7 182 yX7_isMoment wsX7_isMoment) := goodIn_app (goodIn_of _ (by decide +kernel)) ggX7_points_X7_isMoment
set_option maxRecDepth 20000 in
theorem ggX7_points_X7_isWithin : GoodIn wsX7_points wsX7_isWithin := goodIn_r _ [15] (by decide +kernel) (by decide +kernel)
set_option maxRecDepth 20000 in
theorem gX7_points_X7_isWithin : GoodIn wsX7_points (va_wsS RX7 71 yX7_isWithin wsX7_isWithin) := goodIn_app (goodIn_of _ (by decide +kernel)) ggX7_points_X7_isWithin
set_option maxRecDepth 20000 in
theorem ggX7_points_X2_arcAbove : GoodIn wsX7_points wsX2_arcAbove := goodIn_r _ [19, 20, 21, 22, 23, 6, 24, 25, 26, 27, 28, 29, 30, 4, 5, 7, 8, 31, 32, 33, 34, 35, 36, 37, 38, 39, 40, 41, 42, 43, 44, 45, 11, 46, 47, 48, 49, 50, 70, 71, 72, 73, 74] (by decide +kernel) (by decide +kernel)
set_option maxRecDepth 20000 in
theorem gX7_points_X2_arcAbove : GoodIn wsX7_points (wsV RX7 186 RX2 yX2_arcAbove wsX2_arcAbove) := goodIn_app (goodIn_of _ (by decide +kernel)) ggX7_points_X2_arcAbove
set_option maxRecDepth 20000 in
theorem ggX7_points_X2_arcBelow : GoodIn wsX7_points wsX2_arcBelow := goodIn_r _ [44, 20, 70, 71, 72, 73, 74] (by decide +kernel) (by decide +kernel)
set_option maxRecDepth 20000 in
theorem gX7_points_X2_arcBelow : GoodIn wsX7_points (wsV RX7 189 RX2 yX2_arcBelow wsX2_arcBelow) := goodIn_app (goodIn_of _ (by decide +kernel)) ggX7_points_X2_arcBelow
set_option maxRecDepth 20000 in
theorem ggX7_points_X7_part : GoodIn wsX7_points wsX7_part := goodIn_r _ [54, 55, 56, 11, 57] (by decide +kernel) (by decide +kernel)
set_option maxRecDepth 20000 in
theorem gX7_points_X7_part : GoodIn wsX7_points (va_wsS RX7 192 yX7_part wsX7_part) := goodIn_app (goodIn_of _ (by decide +kernel)) ggX7_points_X7_part
theorem dX7_points_0 : decode cX7_points 0 = .ok (.aload_n 0, 1) := by decide +kernel
theorem dX7_points_1 : decode cX7_points 1 = .ok (.getfield 26, 3) := by decide +kernel
theorem dX7_points_4 : decode cX7_points 4 = .ok (.iload_n 1, 1) := by decide +kernel
theorem dX7_points_5 : decode cX7_points 5 = .ok (.invokevirtual 149, 3) := by decide +kernel
theorem dX7_points_8 : decode cX7_points 8 = .ok (.ifCond .eq 21, 3) := by decide +kernel
theorem dX7_points_11 : decode cX7_points 11 = .ok (.iload_n 2, 1) := by decide +kernel
theorem dX7_points_12 : decode cX7_points 12 = .ok (.iload_n 3, 1) := by decide +kernel
theorem dX7_points_13 : decode cX7_points 13 = .ok (.invokestatic 182, 3) := by decide +kernel
theorem dX7_points_16 : decode cX7_points 16 = .ok (.ifCond .eq 13, 3) := by decide +kernel
theorem dX7_points_19 : decode cX7_points 19 = .ok (.iload 4, 2) := by decide +kernel
theorem dX7_points_21 : decode cX7_points 21 = .ok (.iconst 0, 1) := by decide +kernel
theorem dX7_points_22 : decode cX7_points 22 = .ok (.iconst 1, 1) := by decide +kernel
theorem dX7_points_23 : decode cX7_points 23 = .ok (.invokestatic 71, 3) := by decide +kernel
theorem dX7_points_26 : decode cX7_points 26 = .ok (.ifCond .ne 6, 3) := by decide +kernel
theorem dX7_points_29 : decode cX7_points 29 = .ok (.ldc 75, 2) := by decide +kernel
theorem dX7_points_31 : decode cX7_points 31 = .ok (.ireturn, 1) := by decide +kernel
theorem dX7_points_32 : decode cX7_points 32 = .ok (.aload_n 0, 1) := by decide +kernel
theorem dX7_points_33 : decode cX7_points 33 = .ok (.getfield 26, 3) := by decide +kernel
theorem dX7_points_36 : decode cX7_points 36 = .ok (.iload_n 1, 1) := by decide +kernel
theorem dX7_points_37 : decode cX7_points 37 = .ok (.iload_n 2, 1) := by decide +kernel
theorem dX7_points_38 : decode cX7_points 38 = .ok (.iload_n 3, 1) := by decide +kernel
theorem dX7_points_39 : decode cX7_points 39 = .ok (.invokevirtual 186, 3) := by decide +kernel
theorem dX7_points_42 : decode cX7_points 42 = .ok (.aload_n 0, 1) := by decide +kernel
theorem dX7_points_43 : decode cX7_points 43 = .ok (.getfield 26, 3) := by decide +kernel
theorem dX7_points_46 : decode cX7_points 46 = .ok (.iload_n 3, 1) := by decide +kernel
theorem dX7_points_47 : decode cX7_points 47 = .ok (.invokevirtual 189, 3) := by decide +kernel
theorem dX7_points_50 : decode cX7_points 50 = .ok (.iload 4, 2) := by decide +kernel
theorem dX7_points_52 : decode cX7_points 52 = .ok (.invokestatic 192, 3) := by decide +kernel
theorem dX7_points_55 : decode cX7_points 55 = .ok (.ireturn, 1) := by decide +kernel
set_option maxRecDepth 20000 in
theorem ggX7_doubts_X7_isPair : GoodIn wsX7_doubts wsX7_isPair := goodIn_r _ [9, 3, 10, 11, 12, 13, 14, 15, 68, 69, 70, 71, 72, 73, 74, 75, 76, 77, 78, 79, 80, 81, 82, 83, 84] (by decide +kernel) (by decide +kernel)
set_option maxRecDepth 20000 in
theorem gX7_doubts_X7_isPair : GoodIn wsX7_doubts (wsV RX7 195 RX7 yX7_isPair wsX7_isPair) := goodIn_app (goodIn_of _ (by decide +kernel)) ggX7_doubts_X7_isPair
set_option maxRecDepth 20000 in
theorem ggX7_doubts_X2_speedOf : GoodIn wsX7_doubts wsX2_speedOf := goodIn_r _ [19, 20, 21, 22, 13, 23, 24, 25, 11, 12, 14, 15, 26, 27, 28, 29, 30, 80, 81, 82, 83, 84] (by decide +kernel) (by decide +kernel)
set_option maxRecDepth 20000 in
theorem gX7_doubts_X2_speedOf : GoodIn wsX7_doubts (wsV RX7 179 RX2 yX2_speedOf wsX2_speedOf) := goodIn_app (goodIn_of _ (by decide +kernel)) ggX7_doubts_X2_speedOf
set_option maxRecDepth 20000 in
theorem ggX7_doubts_X3_of : GoodIn wsX7_doubts wsX3_of := goodIn_r _ [35, 36, 37, 38, 39, 40, 41, 42, 43, 44, 8, 45, 46, 47, 48, 34, 49, 50, 51, 52, 53, 54, 55, 85, 86, 87, 88] (by decide +kernel) (by decide +kernel)
set_option maxRecDepth 20000 in
theorem gX7_doubts_X3_of : GoodIn wsX7_doubts (wsV RX7 198 RX3 yX3_of wsX3_of) := goodIn_app (goodIn_of _ (by decide +kernel)) ggX7_doubts_X3_of
set_option maxRecDepth 20000 in
theorem ggX7_doubts_X3_isNone : GoodIn wsX7_doubts wsX3_isNone := goodIn_r _ [59, 42, 85, 86, 87, 88] (by decide +kernel) (by decide +kernel)
set_option maxRecDepth 20000 in
theorem gX7_doubts_X3_isNone : GoodIn wsX7_doubts (wsV RX7 201 RX3 yX3_isNone wsX3_isNone) := goodIn_app (goodIn_of _ (by decide +kernel)) ggX7_doubts_X3_isNone
set_option maxRecDepth 20000 in
theorem ggX7_doubts_X3_howMany : GoodIn wsX7_doubts wsX3_howMany := goodIn_r _ [63, 42, 64, 65, 66, 34, 67, 43, 41, 50, 8, 51, 52, 53, 54, 55, 85, 86, 87, 88] (by decide +kernel) (by decide +kernel)
set_option maxRecDepth 20000 in
theorem gX7_doubts_X3_howMany : GoodIn wsX7_doubts (wsV RX7 206 RX3 yX3_howMany wsX3_howMany) := goodIn_app (goodIn_of _ (by decide +kernel)) ggX7_doubts_X3_howMany
theorem dX7_doubts_0 : decode cX7_doubts 0 = .ok (.aload_n 0, 1) := by decide +kernel
theorem dX7_doubts_1 : decode cX7_doubts 1 = .ok (.iload_n 1, 1) := by decide +kernel
theorem dX7_doubts_2 : decode cX7_doubts 2 = .ok (.iload_n 2, 1) := by decide +kernel
theorem dX7_doubts_3 : decode cX7_doubts 3 = .ok (.invokevirtual 195, 3) := by decide +kernel
theorem dX7_doubts_6 : decode cX7_doubts 6 = .ok (.ifCond .ne 6, 3) := by decide +kernel
theorem dX7_doubts_9 : decode cX7_doubts 9 = .ok (.ldc 75, 2) := by decide +kernel
theorem dX7_doubts_11 : decode cX7_doubts 11 = .ok (.ireturn, 1) := by decide +kernel
theorem dX7_doubts_12 : decode cX7_doubts 12 = .ok (.aload_n 0, 1) := by decide +kernel
theorem dX7_doubts_13 : decode cX7_doubts 13 = .ok (.getfield 49, 3) := by decide +kernel
theorem dX7_doubts_16 : decode cX7_doubts 16 = .ok (.aload_n 0, 1) := by decide +kernel
theorem dX7_doubts_17 : decode cX7_doubts 17 = .ok (.getfield 26, 3) := by decide +kernel
theorem dX7_doubts_20 : decode cX7_doubts 20 = .ok (.iload_n 1, 1) := by decide +kernel
theorem dX7_doubts_21 : decode cX7_doubts 21 = .ok (.invokevirtual 179, 3) := by decide +kernel
theorem dX7_doubts_24 : decode cX7_doubts 24 = .ok (.aload_n 0, 1) := by decide +kernel
theorem dX7_doubts_25 : decode cX7_doubts 25 = .ok (.getfield 26, 3) := by decide +kernel
theorem dX7_doubts_28 : decode cX7_doubts 28 = .ok (.iload_n 2, 1) := by decide +kernel
theorem dX7_doubts_29 : decode cX7_doubts 29 = .ok (.invokevirtual 179, 3) := by decide +kernel
theorem dX7_doubts_32 : decode cX7_doubts 32 = .ok (.invokevirtual 198, 3) := by decide +kernel
theorem dX7_doubts_35 : decode cX7_doubts 35 = .ok (.aload_n 0, 1) := by decide +kernel
theorem dX7_doubts_36 : decode cX7_doubts 36 = .ok (.getfield 49, 3) := by decide +kernel
theorem dX7_doubts_39 : decode cX7_doubts 39 = .ok (.invokevirtual 201, 3) := by decide +kernel
theorem dX7_doubts_42 : decode cX7_doubts 42 = .ok (.ifCond .eq 8, 3) := by decide +kernel
theorem dX7_doubts_45 : decode cX7_doubts 45 = .ok (.ldc 205, 2) := by decide +kernel
theorem dX7_doubts_47 : decode cX7_doubts 47 = .ok (.goto 10, 3) := by decide +kernel
theorem dX7_doubts_50 : decode cX7_doubts 50 = .ok (.aload_n 0, 1) := by decide +kernel
theorem dX7_doubts_51 : decode cX7_doubts 51 = .ok (.getfield 49, 3) := by decide +kernel
theorem dX7_doubts_54 : decode cX7_doubts 54 = .ok (.invokevirtual 206, 3) := by decide +kernel
theorem dX7_doubts_57 : decode cX7_doubts 57 = .ok (.ireturn, 1) := by decide +kernel
set_option maxRecDepth 20000 in
theorem ggX7_doubt_X7_isPair : GoodIn wsX7_doubt wsX7_isPair := goodIn_r _ [11, 3, 12, 13, 14, 15, 16, 17, 74, 75, 76, 77, 78, 79, 80, 81, 82, 83, 84, 85, 90, 91, 92, 93, 94] (by decide +kernel) (by decide +kernel)
set_option maxRecDepth 20000 in
theorem gX7_doubt_X7_isPair : GoodIn wsX7_doubt (wsV RX7 195 RX7 yX7_isPair wsX7_isPair) := goodIn_app (goodIn_of _ (by decide +kernel)) ggX7_doubt_X7_isPair
set_option maxRecDepth 20000 in
theorem ggX7_doubt_X7_isWithin : GoodIn wsX7_doubt wsX7_isWithin := goodIn_r _ [20] (by decide +kernel) (by decide +kernel)
set_option maxRecDepth 20000 in
theorem gX7_doubt_X7_isWithin : GoodIn wsX7_doubt (va_wsS RX7 71 yX7_isWithin wsX7_isWithin) := goodIn_app (goodIn_of _ (by decide +kernel)) ggX7_doubt_X7_isWithin
set_option maxRecDepth 20000 in
theorem ggX7_doubt_X2_speedOf : GoodIn wsX7_doubt wsX2_speedOf := goodIn_r _ [24, 25, 26, 27, 15, 28, 29, 30, 13, 14, 16, 17, 31, 32, 33, 34, 35, 90, 91, 92, 93, 94] (by decide +kernel) (by decide +kernel)
set_option maxRecDepth 20000 in
theorem gX7_doubt_X2_speedOf : GoodIn wsX7_doubt (wsV RX7 179 RX2 yX2_speedOf wsX2_speedOf) := goodIn_app (goodIn_of _ (by decide +kernel)) ggX7_doubt_X2_speedOf
set_option maxRecDepth 20000 in
theorem ggX7_doubt_X3_of : GoodIn wsX7_doubt wsX3_of := goodIn_r _ [40, 41, 42, 43, 44, 45, 46, 47, 48, 49, 10, 50, 51, 52, 53, 39, 54, 55, 56, 57, 58, 59, 60, 86, 87, 88, 89] (by decide +kernel) (by decide +kernel)
set_option maxRecDepth 20000 in
theorem gX7_doubt_X3_of : GoodIn wsX7_doubt (wsV RX7 198 RX3 yX3_of wsX3_of) := goodIn_app (goodIn_of _ (by decide +kernel)) ggX7_doubt_X3_of
set_option maxRecDepth 20000 in
theorem ggX7_doubt_X3_number : GoodIn wsX7_doubt wsX3_number := goodIn_r _ [64, 47, 65, 66, 67, 39, 68, 48, 46, 55, 10, 56, 57, 58, 59, 60, 86, 87, 88, 89] (by decide +kernel) (by decide +kernel)
set_option maxRecDepth 20000 in
theorem gX7_doubt_X3_number : GoodIn wsX7_doubt (wsV RX7 209 RX3 yX3_number wsX3_number) := goodIn_app (goodIn_of _ (by decide +kernel)) ggX7_doubt_X3_number
set_option maxRecDepth 20000 in
theorem ggX7_doubt_X7_part : GoodIn wsX7_doubt wsX7_part := goodIn_r _ [71, 72, 49, 10, 50] (by decide +kernel) (by decide +kernel)
set_option maxRecDepth 20000 in
theorem gX7_doubt_X7_part : GoodIn wsX7_doubt (va_wsS RX7 192 yX7_part wsX7_part) := goodIn_app (goodIn_of _ (by decide +kernel)) ggX7_doubt_X7_part
set_option maxRecDepth 20000 in
theorem ggX7_doubt_X3_otherOf : GoodIn wsX7_doubt wsX3_otherOf := goodIn_r _ [68, 48, 47, 46, 55, 10, 56, 57, 58, 59, 60, 86, 87, 88, 89] (by decide +kernel) (by decide +kernel)
set_option maxRecDepth 20000 in
theorem gX7_doubt_X3_otherOf : GoodIn wsX7_doubt (wsV RX7 215 RX3 yX3_otherOf wsX3_otherOf) := goodIn_app (goodIn_of _ (by decide +kernel)) ggX7_doubt_X3_otherOf
theorem dX7_doubt_0 : decode cX7_doubt 0 = .ok (.aload_n 0, 1) := by decide +kernel
theorem dX7_doubt_1 : decode cX7_doubt 1 = .ok (.iload_n 1, 1) := by decide +kernel
theorem dX7_doubt_2 : decode cX7_doubt 2 = .ok (.iload_n 2, 1) := by decide +kernel
theorem dX7_doubt_3 : decode cX7_doubt 3 = .ok (.invokevirtual 195, 3) := by decide +kernel
theorem dX7_doubt_6 : decode cX7_doubt 6 = .ok (.ifCond .eq 17, 3) := by decide +kernel
theorem dX7_doubt_9 : decode cX7_doubt 9 = .ok (.iload_n 3, 1) := by decide +kernel
theorem dX7_doubt_10 : decode cX7_doubt 10 = .ok (.ifCond .lt 13, 3) := by decide +kernel
theorem dX7_doubt_13 : decode cX7_doubt 13 = .ok (.iload 4, 2) := by decide +kernel
theorem dX7_doubt_15 : decode cX7_doubt 15 = .ok (.iconst 0, 1) := by decide +kernel
theorem dX7_doubt_16 : decode cX7_doubt 16 = .ok (.iconst 3, 1) := by decide +kernel
theorem dX7_doubt_17 : decode cX7_doubt 17 = .ok (.invokestatic 71, 3) := by decide +kernel
theorem dX7_doubt_20 : decode cX7_doubt 20 = .ok (.ifCond .ne 6, 3) := by decide +kernel
theorem dX7_doubt_23 : decode cX7_doubt 23 = .ok (.ldc 75, 2) := by decide +kernel
theorem dX7_doubt_25 : decode cX7_doubt 25 = .ok (.ireturn, 1) := by decide +kernel
theorem dX7_doubt_26 : decode cX7_doubt 26 = .ok (.aload_n 0, 1) := by decide +kernel
theorem dX7_doubt_27 : decode cX7_doubt 27 = .ok (.getfield 49, 3) := by decide +kernel
theorem dX7_doubt_30 : decode cX7_doubt 30 = .ok (.aload_n 0, 1) := by decide +kernel
theorem dX7_doubt_31 : decode cX7_doubt 31 = .ok (.getfield 26, 3) := by decide +kernel
theorem dX7_doubt_34 : decode cX7_doubt 34 = .ok (.iload_n 1, 1) := by decide +kernel
theorem dX7_doubt_35 : decode cX7_doubt 35 = .ok (.invokevirtual 179, 3) := by decide +kernel
theorem dX7_doubt_38 : decode cX7_doubt 38 = .ok (.aload_n 0, 1) := by decide +kernel
theorem dX7_doubt_39 : decode cX7_doubt 39 = .ok (.getfield 26, 3) := by decide +kernel
theorem dX7_doubt_42 : decode cX7_doubt 42 = .ok (.iload_n 2, 1) := by decide +kernel
theorem dX7_doubt_43 : decode cX7_doubt 43 = .ok (.invokevirtual 179, 3) := by decide +kernel
theorem dX7_doubt_46 : decode cX7_doubt 46 = .ok (.invokevirtual 198, 3) := by decide +kernel
theorem dX7_doubt_49 : decode cX7_doubt 49 = .ok (.aload_n 0, 1) := by decide +kernel
theorem dX7_doubt_50 : decode cX7_doubt 50 = .ok (.getfield 49, 3) := by decide +kernel
theorem dX7_doubt_53 : decode cX7_doubt 53 = .ok (.iload_n 3, 1) := by decide +kernel
theorem dX7_doubt_54 : decode cX7_doubt 54 = .ok (.invokevirtual 209, 3) := by decide +kernel
theorem dX7_doubt_57 : decode cX7_doubt 57 = .ok (.istore 5, 2) := by decide +kernel
theorem dX7_doubt_59 : decode cX7_doubt 59 = .ok (.iload 5, 2) := by decide +kernel
theorem dX7_doubt_61 : decode cX7_doubt 61 = .ok (.ifCond .ge 6, 3) := by decide +kernel
theorem dX7_doubt_64 : decode cX7_doubt 64 = .ok (.ldc 205, 2) := by decide +kernel
theorem dX7_doubt_66 : decode cX7_doubt 66 = .ok (.ireturn, 1) := by decide +kernel
theorem dX7_doubt_67 : decode cX7_doubt 67 = .ok (.iload 4, 2) := by decide +kernel
theorem dX7_doubt_69 : decode cX7_doubt 69 = .ok (.iconst 2, 1) := by decide +kernel
theorem dX7_doubt_70 : decode cX7_doubt 70 = .ok (.if_icmp .ge 18, 3) := by decide +kernel
theorem dX7_doubt_73 : decode cX7_doubt 73 = .ok (.iload 5, 2) := by decide +kernel
theorem dX7_doubt_75 : decode cX7_doubt 75 = .ok (.aload_n 0, 1) := by decide +kernel
theorem dX7_doubt_76 : decode cX7_doubt 76 = .ok (.getfield 49, 3) := by decide +kernel
theorem dX7_doubt_79 : decode cX7_doubt 79 = .ok (.getfield 212, 3) := by decide +kernel
theorem dX7_doubt_82 : decode cX7_doubt 82 = .ok (.iload 4, 2) := by decide +kernel
theorem dX7_doubt_84 : decode cX7_doubt 84 = .ok (.invokestatic 192, 3) := by decide +kernel
theorem dX7_doubt_87 : decode cX7_doubt 87 = .ok (.ireturn, 1) := by decide +kernel
theorem dX7_doubt_88 : decode cX7_doubt 88 = .ok (.aload_n 0, 1) := by decide +kernel
theorem dX7_doubt_89 : decode cX7_doubt 89 = .ok (.getfield 49, 3) := by decide +kernel
theorem dX7_doubt_92 : decode cX7_doubt 92 = .ok (.iload 5, 2) := by decide +kernel
theorem dX7_doubt_94 : decode cX7_doubt 94 = .ok (.invokevirtual 215, 3) := by decide +kernel
theorem dX7_doubt_97 : decode cX7_doubt 97 = .ok (.aload_n 0, 1) := by decide +kernel
theorem dX7_doubt_98 : decode cX7_doubt 98 = .ok (.getfield 49, 3) := by decide +kernel
theorem dX7_doubt_101 : decode cX7_doubt 101 = .ok (.getfield 218, 3) := by decide +kernel
theorem dX7_doubt_104 : decode cX7_doubt 104 = .ok (.iload 4, 2) := by decide +kernel
theorem dX7_doubt_106 : decode cX7_doubt 106 = .ok (.iconst 2, 1) := by decide +kernel
theorem dX7_doubt_107 : decode cX7_doubt 107 = .ok (.isub, 1) := by decide +kernel
theorem dX7_doubt_108 : decode cX7_doubt 108 = .ok (.invokestatic 192, 3) := by decide +kernel
theorem dX7_doubt_111 : decode cX7_doubt 111 = .ok (.ireturn, 1) := by decide +kernel
set_option maxRecDepth 20000 in
theorem ggX7_isDoubt_X7_isPair : GoodIn wsX7_isDoubt wsX7_isPair := goodIn_r _ [9, 3, 10, 11, 12, 13, 14, 15, 74, 75, 76, 77, 78, 79, 80, 81, 82, 83, 84, 85, 86, 87, 88, 89, 90] (by decide +kernel) (by decide +kernel)
set_option maxRecDepth 20000 in
theorem gX7_isDoubt_X7_isPair : GoodIn wsX7_isDoubt (wsV RX7 195 RX7 yX7_isPair wsX7_isPair) := goodIn_app (goodIn_of _ (by decide +kernel)) ggX7_isDoubt_X7_isPair
set_option maxRecDepth 20000 in
theorem ggX7_isDoubt_X7_isMoment : GoodIn wsX7_isDoubt wsX7_isMoment := goodIn_r _ [18, 19, 20, 8, 21] (by decide +kernel) (by decide +kernel)
set_option maxRecDepth 20000 in
theorem gX7_isDoubt_X7_isMoment : GoodIn wsX7_isDoubt (va_wsS RX7 182 yX7_isMoment wsX7_isMoment) := goodIn_app (goodIn_of _ (by decide +kernel)) ggX7_isDoubt_X7_isMoment
set_option maxRecDepth 20000 in
theorem ggX7_isDoubt_X2_speedOf : GoodIn wsX7_isDoubt wsX2_speedOf := goodIn_r _ [25, 26, 27, 28, 13, 29, 30, 31, 11, 12, 14, 15, 32, 33, 34, 35, 36, 86, 87, 88, 89, 90] (by decide +kernel) (by decide +kernel)
set_option maxRecDepth 20000 in
theorem gX7_isDoubt_X2_speedOf : GoodIn wsX7_isDoubt (wsV RX7 179 RX2 yX2_speedOf wsX2_speedOf) := goodIn_app (goodIn_of _ (by decide +kernel)) ggX7_isDoubt_X2_speedOf
set_option maxRecDepth 20000 in
theorem ggX7_isDoubt_X3_of : GoodIn wsX7_isDoubt wsX3_of := goodIn_r _ [41, 42, 43, 44, 45, 46, 47, 48, 49, 50, 8, 51, 52, 53, 54, 40, 55, 56, 57, 58, 59, 60, 61, 91, 92, 93, 94] (by decide +kernel) (by decide +kernel)
set_option maxRecDepth 20000 in
theorem gX7_isDoubt_X3_of : GoodIn wsX7_isDoubt (wsV RX7 198 RX3 yX3_of wsX3_of) := goodIn_app (goodIn_of _ (by decide +kernel)) ggX7_isDoubt_X3_of
set_option maxRecDepth 20000 in
theorem ggX7_isDoubt_X3_isNone : GoodIn wsX7_isDoubt wsX3_isNone := goodIn_r _ [65, 48, 91, 92, 93, 94] (by decide +kernel) (by decide +kernel)
set_option maxRecDepth 20000 in
theorem gX7_isDoubt_X3_isNone : GoodIn wsX7_isDoubt (wsV RX7 201 RX3 yX3_isNone wsX3_isNone) := goodIn_app (goodIn_of _ (by decide +kernel)) ggX7_isDoubt_X3_isNone
set_option maxRecDepth 20000 in
theorem ggX7_isDoubt_X3_isAt : GoodIn wsX7_isDoubt wsX3_isAt := goodIn_r _ [69, 48, 70, 71, 72, 40, 73, 49, 47, 56, 8, 57, 58, 59, 60, 61, 91, 92, 93, 94] (by decide +kernel) (by decide +kernel)
set_option maxRecDepth 20000 in
theorem gX7_isDoubt_X3_isAt : GoodIn wsX7_isDoubt (wsV RX7 221 RX3 yX3_isAt wsX3_isAt) := goodIn_app (goodIn_of _ (by decide +kernel)) ggX7_isDoubt_X3_isAt
theorem dX7_isDoubt_0 : decode cX7_isDoubt 0 = .ok (.aload_n 0, 1) := by decide +kernel
theorem dX7_isDoubt_1 : decode cX7_isDoubt 1 = .ok (.iload_n 1, 1) := by decide +kernel
theorem dX7_isDoubt_2 : decode cX7_isDoubt 2 = .ok (.iload_n 2, 1) := by decide +kernel
theorem dX7_isDoubt_3 : decode cX7_isDoubt 3 = .ok (.invokevirtual 195, 3) := by decide +kernel
theorem dX7_isDoubt_6 : decode cX7_isDoubt 6 = .ok (.ifCond .eq 12, 3) := by decide +kernel
theorem dX7_isDoubt_9 : decode cX7_isDoubt 9 = .ok (.iload_n 3, 1) := by decide +kernel
theorem dX7_isDoubt_10 : decode cX7_isDoubt 10 = .ok (.iload 4, 2) := by decide +kernel
theorem dX7_isDoubt_12 : decode cX7_isDoubt 12 = .ok (.invokestatic 182, 3) := by decide +kernel
theorem dX7_isDoubt_15 : decode cX7_isDoubt 15 = .ok (.ifCond .ne 6, 3) := by decide +kernel
theorem dX7_isDoubt_18 : decode cX7_isDoubt 18 = .ok (.ldc 75, 2) := by decide +kernel
theorem dX7_isDoubt_20 : decode cX7_isDoubt 20 = .ok (.ireturn, 1) := by decide +kernel
theorem dX7_isDoubt_21 : decode cX7_isDoubt 21 = .ok (.aload_n 0, 1) := by decide +kernel
theorem dX7_isDoubt_22 : decode cX7_isDoubt 22 = .ok (.getfield 49, 3) := by decide +kernel
theorem dX7_isDoubt_25 : decode cX7_isDoubt 25 = .ok (.aload_n 0, 1) := by decide +kernel
theorem dX7_isDoubt_26 : decode cX7_isDoubt 26 = .ok (.getfield 26, 3) := by decide +kernel
theorem dX7_isDoubt_29 : decode cX7_isDoubt 29 = .ok (.iload_n 1, 1) := by decide +kernel
theorem dX7_isDoubt_30 : decode cX7_isDoubt 30 = .ok (.invokevirtual 179, 3) := by decide +kernel
theorem dX7_isDoubt_33 : decode cX7_isDoubt 33 = .ok (.aload_n 0, 1) := by decide +kernel
theorem dX7_isDoubt_34 : decode cX7_isDoubt 34 = .ok (.getfield 26, 3) := by decide +kernel
theorem dX7_isDoubt_37 : decode cX7_isDoubt 37 = .ok (.iload_n 2, 1) := by decide +kernel
theorem dX7_isDoubt_38 : decode cX7_isDoubt 38 = .ok (.invokevirtual 179, 3) := by decide +kernel
theorem dX7_isDoubt_41 : decode cX7_isDoubt 41 = .ok (.invokevirtual 198, 3) := by decide +kernel
theorem dX7_isDoubt_44 : decode cX7_isDoubt 44 = .ok (.aload_n 0, 1) := by decide +kernel
theorem dX7_isDoubt_45 : decode cX7_isDoubt 45 = .ok (.getfield 49, 3) := by decide +kernel
theorem dX7_isDoubt_48 : decode cX7_isDoubt 48 = .ok (.invokevirtual 201, 3) := by decide +kernel
theorem dX7_isDoubt_51 : decode cX7_isDoubt 51 = .ok (.ifCond .eq 6, 3) := by decide +kernel
theorem dX7_isDoubt_54 : decode cX7_isDoubt 54 = .ok (.ldc 205, 2) := by decide +kernel
theorem dX7_isDoubt_56 : decode cX7_isDoubt 56 = .ok (.ireturn, 1) := by decide +kernel
theorem dX7_isDoubt_57 : decode cX7_isDoubt 57 = .ok (.aload_n 0, 1) := by decide +kernel
theorem dX7_isDoubt_58 : decode cX7_isDoubt 58 = .ok (.getfield 49, 3) := by decide +kernel
theorem dX7_isDoubt_61 : decode cX7_isDoubt 61 = .ok (.iload_n 3, 1) := by decide +kernel
theorem dX7_isDoubt_62 : decode cX7_isDoubt 62 = .ok (.iload 4, 2) := by decide +kernel
theorem dX7_isDoubt_64 : decode cX7_isDoubt 64 = .ok (.invokevirtual 221, 3) := by decide +kernel
theorem dX7_isDoubt_67 : decode cX7_isDoubt 67 = .ok (.ifCond .eq 7, 3) := by decide +kernel
theorem dX7_isDoubt_70 : decode cX7_isDoubt 70 = .ok (.iconst 1, 1) := by decide +kernel
theorem dX7_isDoubt_71 : decode cX7_isDoubt 71 = .ok (.goto 4, 3) := by decide +kernel
theorem dX7_isDoubt_74 : decode cX7_isDoubt 74 = .ok (.iconst 0, 1) := by decide +kernel
theorem dX7_isDoubt_75 : decode cX7_isDoubt 75 = .ok (.ireturn, 1) := by decide +kernel
set_option maxRecDepth 20000 in
theorem ggX7_next_X7_isPair : GoodIn wsX7_next wsX7_isPair := goodIn_r _ [7, 8, 9, 10, 11, 12, 13, 14, 53, 54, 55, 56, 57, 58, 59, 60, 61, 62, 63, 64, 65, 66, 67, 68, 69] (by decide +kernel) (by decide +kernel)
set_option maxRecDepth 20000 in
theorem gX7_next_X7_isPair : GoodIn wsX7_next (wsV RX7 195 RX7 yX7_isPair wsX7_isPair) := goodIn_app (goodIn_of _ (by decide +kernel)) ggX7_next_X7_isPair
set_option maxRecDepth 20000 in
theorem ggX7_next_X7_isWithin : GoodIn wsX7_next wsX7_isWithin := goodIn_r _ [17] (by decide +kernel) (by decide +kernel)
set_option maxRecDepth 20000 in
theorem gX7_next_X7_isWithin : GoodIn wsX7_next (va_wsS RX7 71 yX7_isWithin wsX7_isWithin) := goodIn_app (goodIn_of _ (by decide +kernel)) ggX7_next_X7_isWithin
set_option maxRecDepth 20000 in
theorem ggX7_next_X7_isMoment : GoodIn wsX7_next wsX7_isMoment := goodIn_r _ [20, 15, 16, 6, 17] (by decide +kernel) (by decide +kernel)
set_option maxRecDepth 20000 in
theorem gX7_next_X7_isMoment : GoodIn wsX7_next (va_wsS RX7 182 yX7_isMoment wsX7_isMoment) := goodIn_app (goodIn_of _ (by decide +kernel)) ggX7_next_X7_isMoment
set_option maxRecDepth 20000 in
theorem ggX7_next_X7_speedApart : GoodIn wsX7_next wsX7_speedApart := goodIn_r _ [24, 8, 25, 26, 27, 28, 29, 30, 31, 12, 32, 33, 34, 35, 36, 37, 38, 10, 11, 13, 14, 39, 40, 41, 42, 43, 53, 54, 55, 56, 57, 58, 59, 60, 61, 62, 63, 64, 65, 66, 67, 68, 69] (by decide +kernel) (by decide +kernel)
set_option maxRecDepth 20000 in
theorem gX7_next_X7_speedApart : GoodIn wsX7_next (wsV RX7 224 RX7 yX7_speedApart wsX7_speedApart) := goodIn_app (goodIn_of _ (by decide +kernel)) ggX7_next_X7_speedApart
set_option maxRecDepth 20000 in
theorem ggX7_next_X7_firstMeeting : GoodIn wsX7_next wsX7_firstMeeting := goodIn_r _ [46] (by decide +kernel) (by decide +kernel)
set_option maxRecDepth 20000 in
theorem gX7_next_X7_firstMeeting : GoodIn wsX7_next (va_wsS RX7 227 yX7_firstMeeting wsX7_firstMeeting) := goodIn_app (goodIn_of _ (by decide +kernel)) ggX7_next_X7_firstMeeting
set_option maxRecDepth 20000 in
theorem ggX7_next_X7_part : GoodIn wsX7_next wsX7_part := goodIn_r _ [49, 50, 51, 6, 52] (by decide +kernel) (by decide +kernel)
set_option maxRecDepth 20000 in
theorem gX7_next_X7_part : GoodIn wsX7_next (va_wsS RX7 192 yX7_part wsX7_part) := goodIn_app (goodIn_of _ (by decide +kernel)) ggX7_next_X7_part
theorem dX7_next_0 : decode cX7_next 0 = .ok (.aload_n 0, 1) := by decide +kernel
theorem dX7_next_1 : decode cX7_next 1 = .ok (.iload_n 1, 1) := by decide +kernel
theorem dX7_next_2 : decode cX7_next 2 = .ok (.iload_n 2, 1) := by decide +kernel
theorem dX7_next_3 : decode cX7_next 3 = .ok (.invokevirtual 195, 3) := by decide +kernel
theorem dX7_next_6 : decode cX7_next 6 = .ok (.ifCond .eq 32, 3) := by decide +kernel
theorem dX7_next_9 : decode cX7_next 9 = .ok (.iload_n 3, 1) := by decide +kernel
theorem dX7_next_10 : decode cX7_next 10 = .ok (.iconst 0, 1) := by decide +kernel
theorem dX7_next_11 : decode cX7_next 11 = .ok (.iconst 2, 1) := by decide +kernel
theorem dX7_next_12 : decode cX7_next 12 = .ok (.invokestatic 71, 3) := by decide +kernel
theorem dX7_next_15 : decode cX7_next 15 = .ok (.ifCond .eq 23, 3) := by decide +kernel
theorem dX7_next_18 : decode cX7_next 18 = .ok (.iload 4, 2) := by decide +kernel
theorem dX7_next_20 : decode cX7_next 20 = .ok (.iload 5, 2) := by decide +kernel
theorem dX7_next_22 : decode cX7_next 22 = .ok (.invokestatic 182, 3) := by decide +kernel
theorem dX7_next_25 : decode cX7_next 25 = .ok (.ifCond .eq 13, 3) := by decide +kernel
theorem dX7_next_28 : decode cX7_next 28 = .ok (.iload 6, 2) := by decide +kernel
theorem dX7_next_30 : decode cX7_next 30 = .ok (.iconst 0, 1) := by decide +kernel
theorem dX7_next_31 : decode cX7_next 31 = .ok (.iconst 1, 1) := by decide +kernel
theorem dX7_next_32 : decode cX7_next 32 = .ok (.invokestatic 71, 3) := by decide +kernel
theorem dX7_next_35 : decode cX7_next 35 = .ok (.ifCond .ne 6, 3) := by decide +kernel
theorem dX7_next_38 : decode cX7_next 38 = .ok (.ldc 75, 2) := by decide +kernel
theorem dX7_next_40 : decode cX7_next 40 = .ok (.ireturn, 1) := by decide +kernel
theorem dX7_next_41 : decode cX7_next 41 = .ok (.aload_n 0, 1) := by decide +kernel
theorem dX7_next_42 : decode cX7_next 42 = .ok (.iload_n 1, 1) := by decide +kernel
theorem dX7_next_43 : decode cX7_next 43 = .ok (.iload_n 2, 1) := by decide +kernel
theorem dX7_next_44 : decode cX7_next 44 = .ok (.invokevirtual 224, 3) := by decide +kernel
theorem dX7_next_47 : decode cX7_next 47 = .ok (.istore 7, 2) := by decide +kernel
theorem dX7_next_49 : decode cX7_next 49 = .ok (.iload 7, 2) := by decide +kernel
theorem dX7_next_51 : decode cX7_next 51 = .ok (.ifCond .ne 6, 3) := by decide +kernel
theorem dX7_next_54 : decode cX7_next 54 = .ok (.ldc 205, 2) := by decide +kernel
theorem dX7_next_56 : decode cX7_next 56 = .ok (.ireturn, 1) := by decide +kernel
theorem dX7_next_57 : decode cX7_next 57 = .ok (.iload 7, 2) := by decide +kernel
theorem dX7_next_59 : decode cX7_next 59 = .ok (.iload_n 3, 1) := by decide +kernel
theorem dX7_next_60 : decode cX7_next 60 = .ok (.ishl, 1) := by decide +kernel
theorem dX7_next_61 : decode cX7_next 61 = .ok (.istore 8, 2) := by decide +kernel
theorem dX7_next_63 : decode cX7_next 63 = .ok (.iload 8, 2) := by decide +kernel
theorem dX7_next_65 : decode cX7_next 65 = .ok (.iload_n 3, 1) := by decide +kernel
theorem dX7_next_66 : decode cX7_next 66 = .ok (.iload 4, 2) := by decide +kernel
theorem dX7_next_68 : decode cX7_next 68 = .ok (.iload 5, 2) := by decide +kernel
theorem dX7_next_70 : decode cX7_next 70 = .ok (.invokestatic 227, 3) := by decide +kernel
theorem dX7_next_73 : decode cX7_next 73 = .ok (.iload 8, 2) := by decide +kernel
theorem dX7_next_75 : decode cX7_next 75 = .ok (.iload 6, 2) := by decide +kernel
theorem dX7_next_77 : decode cX7_next 77 = .ok (.invokestatic 192, 3) := by decide +kernel
theorem dX7_next_80 : decode cX7_next 80 = .ok (.ireturn, 1) := by decide +kernel
set_option maxRecDepth 20000 in
theorem ggX7_often_X7_isPair : GoodIn wsX7_often wsX7_isPair := goodIn_r _ [7, 8, 9, 10, 11, 12, 13, 14, 41, 42, 43, 44, 45, 46, 47, 48, 49, 50, 51, 52, 53, 54, 55, 56, 57] (by decide +kernel) (by decide +kernel)
set_option maxRecDepth 20000 in
theorem gX7_often_X7_isPair : GoodIn wsX7_often (wsV RX7 195 RX7 yX7_isPair wsX7_isPair) := goodIn_app (goodIn_of _ (by decide +kernel)) ggX7_often_X7_isPair
set_option maxRecDepth 20000 in
theorem ggX7_often_X7_isWithin : GoodIn wsX7_often wsX7_isWithin := goodIn_r _ [17] (by decide +kernel) (by decide +kernel)
set_option maxRecDepth 20000 in
theorem gX7_often_X7_isWithin : GoodIn wsX7_often (va_wsS RX7 71 yX7_isWithin wsX7_isWithin) := goodIn_app (goodIn_of _ (by decide +kernel)) ggX7_often_X7_isWithin
set_option maxRecDepth 20000 in
theorem ggX7_often_X7_speedApart : GoodIn wsX7_often wsX7_speedApart := goodIn_r _ [21, 8, 22, 23, 24, 25, 26, 27, 28, 12, 29, 30, 31, 32, 33, 34, 35, 10, 11, 13, 14, 36, 37, 38, 39, 40, 41, 42, 43, 44, 45, 46, 47, 48, 49, 50, 51, 52, 53, 54, 55, 56, 57] (by decide +kernel) (by decide +kernel)
set_option maxRecDepth 20000 in
theorem gX7_often_X7_speedApart : GoodIn wsX7_often (wsV RX7 224 RX7 yX7_speedApart wsX7_speedApart) := goodIn_app (goodIn_of _ (by decide +kernel)) ggX7_often_X7_speedApart
theorem dX7_often_0 : decode cX7_often 0 = .ok (.aload_n 0, 1) := by decide +kernel
theorem dX7_often_1 : decode cX7_often 1 = .ok (.iload_n 1, 1) := by decide +kernel
theorem dX7_often_2 : decode cX7_often 2 = .ok (.iload_n 2, 1) := by decide +kernel
theorem dX7_often_3 : decode cX7_often 3 = .ok (.invokevirtual 195, 3) := by decide +kernel
theorem dX7_often_6 : decode cX7_often 6 = .ok (.ifCond .eq 12, 3) := by decide +kernel
theorem dX7_often_9 : decode cX7_often 9 = .ok (.iload_n 3, 1) := by decide +kernel
theorem dX7_often_10 : decode cX7_often 10 = .ok (.iconst 0, 1) := by decide +kernel
theorem dX7_often_11 : decode cX7_often 11 = .ok (.iconst 2, 1) := by decide +kernel
theorem dX7_often_12 : decode cX7_often 12 = .ok (.invokestatic 71, 3) := by decide +kernel
theorem dX7_often_15 : decode cX7_often 15 = .ok (.ifCond .ne 6, 3) := by decide +kernel
theorem dX7_often_18 : decode cX7_often 18 = .ok (.ldc 75, 2) := by decide +kernel
theorem dX7_often_20 : decode cX7_often 20 = .ok (.ireturn, 1) := by decide +kernel
theorem dX7_often_21 : decode cX7_often 21 = .ok (.aload_n 0, 1) := by decide +kernel
theorem dX7_often_22 : decode cX7_often 22 = .ok (.iload_n 1, 1) := by decide +kernel
theorem dX7_often_23 : decode cX7_often 23 = .ok (.iload_n 2, 1) := by decide +kernel
theorem dX7_often_24 : decode cX7_often 24 = .ok (.invokevirtual 224, 3) := by decide +kernel
theorem dX7_often_27 : decode cX7_often 27 = .ok (.istore 4, 2) := by decide +kernel
theorem dX7_often_29 : decode cX7_often 29 = .ok (.iload 4, 2) := by decide +kernel
theorem dX7_often_31 : decode cX7_often 31 = .ok (.ifCond .ne 6, 3) := by decide +kernel
theorem dX7_often_34 : decode cX7_often 34 = .ok (.ldc 205, 2) := by decide +kernel
theorem dX7_often_36 : decode cX7_often 36 = .ok (.ireturn, 1) := by decide +kernel
theorem dX7_often_37 : decode cX7_often 37 = .ok (.iload_n 3, 1) := by decide +kernel
theorem dX7_often_38 : decode cX7_often 38 = .ok (.iconst 2, 1) := by decide +kernel
theorem dX7_often_39 : decode cX7_often 39 = .ok (.if_icmp .ne 10, 3) := by decide +kernel
theorem dX7_often_42 : decode cX7_often 42 = .ok (.iconst 2, 1) := by decide +kernel
theorem dX7_often_43 : decode cX7_often 43 = .ok (.iload 4, 2) := by decide +kernel
theorem dX7_often_45 : decode cX7_often 45 = .ok (.imul, 1) := by decide +kernel
theorem dX7_often_46 : decode cX7_often 46 = .ok (.goto 5, 3) := by decide +kernel
theorem dX7_often_49 : decode cX7_often 49 = .ok (.iload 4, 2) := by decide +kernel
theorem dX7_often_51 : decode cX7_often 51 = .ok (.ireturn, 1) := by decide +kernel
set_option maxRecDepth 20000 in
theorem ggX7_all_X2_isNone : GoodIn wsX7_all wsX2_isNone := goodIn_r _ [9, 10, 53, 54, 55, 56, 57] (by decide +kernel) (by decide +kernel)
set_option maxRecDepth 20000 in
theorem gX7_all_X2_isNone : GoodIn wsX7_all (wsV RX7 231 RX2 yX2_isNone wsX2_isNone) := goodIn_app (goodIn_of _ (by decide +kernel)) ggX7_all_X2_isNone
set_option maxRecDepth 20000 in
theorem ggX7_all_X7_speedApart : GoodIn wsX7_all wsX7_speedApart := goodIn_r _ [15, 1, 16, 17, 18, 19, 20, 21, 22, 8, 23, 24, 25, 26, 27, 28, 29, 30, 31, 32, 10, 33, 34, 35, 36, 37, 41, 42, 43, 44, 45, 46, 47, 48, 49, 50, 51, 52, 53, 54, 55, 56, 57] (by decide +kernel) (by decide +kernel)
set_option maxRecDepth 20000 in
theorem gX7_all_X7_speedApart : GoodIn wsX7_all (wsV RX7 224 RX7 yX7_speedApart wsX7_speedApart) := goodIn_app (goodIn_of _ (by decide +kernel)) ggX7_all_X7_speedApart
set_option maxRecDepth 20000 in
theorem ggX7_all_X7_common : GoodIn wsX7_all wsX7_common := goodIn_r _ [40] (by decide +kernel) (by decide +kernel)
set_option maxRecDepth 20000 in
theorem gX7_all_X7_common : GoodIn wsX7_all (va_wsS RX7 232 yX7_common wsX7_common) := goodIn_app (goodIn_of _ (by decide +kernel)) ggX7_all_X7_common
theorem dX7_all_0 : decode cX7_all 0 = .ok (.aload_n 0, 1) := by decide +kernel
theorem dX7_all_1 : decode cX7_all 1 = .ok (.getfield 26, 3) := by decide +kernel
theorem dX7_all_4 : decode cX7_all 4 = .ok (.invokevirtual 231, 3) := by decide +kernel
theorem dX7_all_7 : decode cX7_all 7 = .ok (.ifCond .eq 6, 3) := by decide +kernel
theorem dX7_all_10 : decode cX7_all 10 = .ok (.ldc 168, 2) := by decide +kernel
theorem dX7_all_12 : decode cX7_all 12 = .ok (.ireturn, 1) := by decide +kernel
theorem dX7_all_13 : decode cX7_all 13 = .ok (.iconst 0, 1) := by decide +kernel
theorem dX7_all_14 : decode cX7_all 14 = .ok (.istore_n 1, 1) := by decide +kernel
theorem dX7_all_15 : decode cX7_all 15 = .ok (.iconst 1, 1) := by decide +kernel
theorem dX7_all_16 : decode cX7_all 16 = .ok (.istore_n 2, 1) := by decide +kernel
theorem dX7_all_17 : decode cX7_all 17 = .ok (.iload_n 2, 1) := by decide +kernel
theorem dX7_all_18 : decode cX7_all 18 = .ok (.aload_n 0, 1) := by decide +kernel
theorem dX7_all_19 : decode cX7_all 19 = .ok (.getfield 26, 3) := by decide +kernel
theorem dX7_all_22 : decode cX7_all 22 = .ok (.getfield 146, 3) := by decide +kernel
theorem dX7_all_25 : decode cX7_all 25 = .ok (.if_icmp .ge 20, 3) := by decide +kernel
theorem dX7_all_28 : decode cX7_all 28 = .ok (.iload_n 1, 1) := by decide +kernel
theorem dX7_all_29 : decode cX7_all 29 = .ok (.aload_n 0, 1) := by decide +kernel
theorem dX7_all_30 : decode cX7_all 30 = .ok (.iconst 0, 1) := by decide +kernel
theorem dX7_all_31 : decode cX7_all 31 = .ok (.iload_n 2, 1) := by decide +kernel
theorem dX7_all_32 : decode cX7_all 32 = .ok (.invokevirtual 224, 3) := by decide +kernel
theorem dX7_all_35 : decode cX7_all 35 = .ok (.invokestatic 232, 3) := by decide +kernel
theorem dX7_all_38 : decode cX7_all 38 = .ok (.istore_n 1, 1) := by decide +kernel
theorem dX7_all_39 : decode cX7_all 39 = .ok (.iinc 2 1, 3) := by decide +kernel
theorem dX7_all_42 : decode cX7_all 42 = .ok (.goto (-25), 3) := by decide +kernel
theorem dX7_all_45 : decode cX7_all 45 = .ok (.iload_n 1, 1) := by decide +kernel
theorem dX7_all_46 : decode cX7_all 46 = .ok (.ifCond .ne 8, 3) := by decide +kernel
theorem dX7_all_49 : decode cX7_all 49 = .ok (.ldc 205, 2) := by decide +kernel
theorem dX7_all_51 : decode cX7_all 51 = .ok (.goto 4, 3) := by decide +kernel
theorem dX7_all_54 : decode cX7_all 54 = .ok (.iload_n 1, 1) := by decide +kernel
theorem dX7_all_55 : decode cX7_all 55 = .ok (.ireturn, 1) := by decide +kernel
set_option maxRecDepth 20000 in
theorem ggX7_lies_X2_isNone : GoodIn wsX7_lies wsX2_isNone := goodIn_r _ [11, 12, 163, 164, 165, 166, 167] (by decide +kernel) (by decide +kernel)
set_option maxRecDepth 20000 in
theorem gX7_lies_X2_isNone : GoodIn wsX7_lies (wsV RX7 231 RX2 yX2_isNone wsX2_isNone) := goodIn_app (goodIn_of _ (by decide +kernel)) ggX7_lies_X2_isNone
set_option maxRecDepth 20000 in
theorem ggX7_lies_X7_isRow : GoodIn wsX7_lies wsX7_isRow := goodIn_r _ [16] (by decide +kernel) (by decide +kernel)
set_option maxRecDepth 20000 in
theorem gX7_lies_X7_isRow : GoodIn wsX7_lies (va_wsS RX7 67 yX7_isRow wsX7_isRow) := goodIn_app (goodIn_of _ (by decide +kernel)) ggX7_lies_X7_isRow
set_option maxRecDepth 20000 in
theorem ggX7_lies_X7_isWithin : GoodIn wsX7_lies wsX7_isWithin := goodIn_r _ [19] (by decide +kernel) (by decide +kernel)
set_option maxRecDepth 20000 in
theorem gX7_lies_X7_isWithin : GoodIn wsX7_lies (va_wsS RX7 71 yX7_isWithin wsX7_isWithin) := goodIn_app (goodIn_of _ (by decide +kernel)) ggX7_lies_X7_isWithin
set_option maxRecDepth 20000 in
theorem ggX7_lies_X5_wrongAt : GoodIn wsX7_lies wsX5_wrongAt := goodIn_r _ [24, 25, 26, 27, 23, 28, 29, 30, 31, 32, 33, 14, 15, 16, 34, 35, 36, 37, 38, 39, 40, 41, 42, 168, 169, 170] (by decide +kernel) (by decide +kernel)
set_option maxRecDepth 20000 in
theorem gX7_lies_X5_wrongAt : GoodIn wsX7_lies (wsV RX7 87 RX5 yX5_wrongAt wsX5_wrongAt) := goodIn_app (goodIn_of _ (by decide +kernel)) ggX7_lies_X5_wrongAt
set_option maxRecDepth 20000 in
theorem ggX7_lies_X7_found : GoodIn wsX7_lies wsX7_found := goodIn_r _ [46, 47, 48, 151, 152, 153, 154, 155, 156, 157, 158, 159, 160, 161, 162] (by decide +kernel) (by decide +kernel)
set_option maxRecDepth 20000 in
theorem gX7_lies_X7_found : GoodIn wsX7_lies (wsV RX7 76 RX7 yX7_found wsX7_found) := goodIn_app (goodIn_of _ (by decide +kernel)) ggX7_lies_X7_found
set_option maxRecDepth 20000 in
theorem ggX7_lies_X5_areBelow : GoodIn wsX7_lies wsX5_areBelow := goodIn_r _ [52, 53, 54, 55, 23, 56, 57, 14, 15, 16, 34, 35, 36, 37, 38, 39, 40, 41, 42, 18, 19, 168, 169, 170] (by decide +kernel) (by decide +kernel)
set_option maxRecDepth 20000 in
theorem gX7_lies_X5_areBelow : GoodIn wsX7_lies (wsV RX7 235 RX5 yX5_areBelow wsX5_areBelow) := goodIn_app (goodIn_of _ (by decide +kernel)) ggX7_lies_X5_areBelow
set_option maxRecDepth 20000 in
theorem ggX7_lies_X4_take : GoodIn wsX7_lies wsX4_take := goodIn_r _ [62, 63, 64, 65, 66, 67, 68, 69, 70, 71, 72, 54, 55, 23, 56, 57, 14, 15, 16, 34, 35, 36, 37, 38, 39, 40, 41, 42, 73, 74, 75, 10, 76, 77, 78, 79, 80, 81, 82, 83, 84, 85, 12, 86, 87, 88, 89, 90, 163, 164, 165, 166, 167, 171, 172, 173, 174, 168, 169, 170] (by decide +kernel) (by decide +kernel)
set_option maxRecDepth 20000 in
theorem gX7_lies_X4_take : GoodIn wsX7_lies (wsV RX7 239 RX4 yX4_take wsX4_take) := goodIn_app (goodIn_of _ (by decide +kernel)) ggX7_lies_X4_take
set_option maxRecDepth 20000 in
theorem ggX7_lies_X7_lieOfReading : GoodIn wsX7_lies wsX7_lieOfReading := goodIn_r _ [94, 6, 95, 96, 97, 98, 61, 99, 68, 100, 101, 66, 102, 103, 104, 105, 106, 71, 107, 108, 109, 110, 111, 112, 113, 114, 69, 64, 65, 67, 115, 116, 117, 118, 70, 119, 15, 120, 121, 122, 123, 124, 125, 126, 127, 128, 129, 130, 131, 132, 133, 134, 135, 136, 137, 138, 139, 140, 141, 142, 143, 144, 145, 146, 151, 152, 153, 154, 155, 156, 157, 158, 159, 160, 161, 162, 171, 172, 173, 174] (by decide +kernel) (by decide +kernel)
set_option maxRecDepth 20000 in
theorem gX7_lies_X7_lieOfReading : GoodIn wsX7_lies (wsV RX7 243 RX7 yX7_lieOfReading wsX7_lieOfReading) := goodIn_app (goodIn_of _ (by decide +kernel)) ggX7_lies_X7_lieOfReading
set_option maxRecDepth 20000 in
theorem ggX7_lies_X7_fine : GoodIn wsX7_lies wsX7_fine := goodIn_r _ [150, 47, 151, 152, 153, 154, 155, 156, 157, 158, 159, 160, 161, 162] (by decide +kernel) (by decide +kernel)
set_option maxRecDepth 20000 in
theorem gX7_lies_X7_fine : GoodIn wsX7_lies (wsV RX7 84 RX7 yX7_fine wsX7_fine) := goodIn_app (goodIn_of _ (by decide +kernel)) ggX7_lies_X7_fine
theorem dX7_lies_0 : decode cX7_lies 0 = .ok (.aload_n 0, 1) := by decide +kernel
theorem dX7_lies_1 : decode cX7_lies 1 = .ok (.getfield 26, 3) := by decide +kernel
theorem dX7_lies_4 : decode cX7_lies 4 = .ok (.invokevirtual 231, 3) := by decide +kernel
theorem dX7_lies_7 : decode cX7_lies 7 = .ok (.ifCond .eq 6, 3) := by decide +kernel
theorem dX7_lies_10 : decode cX7_lies 10 = .ok (.ldc 168, 2) := by decide +kernel
theorem dX7_lies_12 : decode cX7_lies 12 = .ok (.ireturn, 1) := by decide +kernel
theorem dX7_lies_13 : decode cX7_lies 13 = .ok (.iload_n 1, 1) := by decide +kernel
theorem dX7_lies_14 : decode cX7_lies 14 = .ok (.invokestatic 67, 3) := by decide +kernel
theorem dX7_lies_17 : decode cX7_lies 17 = .ok (.ifCond .eq 24, 3) := by decide +kernel
theorem dX7_lies_20 : decode cX7_lies 20 = .ok (.iload_n 3, 1) := by decide +kernel
theorem dX7_lies_21 : decode cX7_lies 21 = .ok (.iconst 1, 1) := by decide +kernel
theorem dX7_lies_22 : decode cX7_lies 22 = .ok (.sipush 720, 3) := by decide +kernel
theorem dX7_lies_25 : decode cX7_lies 25 = .ok (.invokestatic 71, 3) := by decide +kernel
theorem dX7_lies_28 : decode cX7_lies 28 = .ok (.ifCond .eq 13, 3) := by decide +kernel
theorem dX7_lies_31 : decode cX7_lies 31 = .ok (.iload 4, 2) := by decide +kernel
theorem dX7_lies_33 : decode cX7_lies 33 = .ok (.iconst 0, 1) := by decide +kernel
theorem dX7_lies_34 : decode cX7_lies 34 = .ok (.iconst 3, 1) := by decide +kernel
theorem dX7_lies_35 : decode cX7_lies 35 = .ok (.invokestatic 71, 3) := by decide +kernel
theorem dX7_lies_38 : decode cX7_lies 38 = .ok (.ifCond .ne 6, 3) := by decide +kernel
theorem dX7_lies_41 : decode cX7_lies 41 = .ok (.ldc 75, 2) := by decide +kernel
theorem dX7_lies_43 : decode cX7_lies 43 = .ok (.ireturn, 1) := by decide +kernel
theorem dX7_lies_44 : decode cX7_lies 44 = .ok (.aload_n 0, 1) := by decide +kernel
theorem dX7_lies_45 : decode cX7_lies 45 = .ok (.getfield 10, 3) := by decide +kernel
theorem dX7_lies_48 : decode cX7_lies 48 = .ok (.iload_n 1, 1) := by decide +kernel
theorem dX7_lies_49 : decode cX7_lies 49 = .ok (.iload_n 2, 1) := by decide +kernel
theorem dX7_lies_50 : decode cX7_lies 50 = .ok (.aload_n 0, 1) := by decide +kernel
theorem dX7_lies_51 : decode cX7_lies 51 = .ok (.getfield 26, 3) := by decide +kernel
theorem dX7_lies_54 : decode cX7_lies 54 = .ok (.getfield 146, 3) := by decide +kernel
theorem dX7_lies_57 : decode cX7_lies 57 = .ok (.invokevirtual 87, 3) := by decide +kernel
theorem dX7_lies_60 : decode cX7_lies 60 = .ok (.istore 5, 2) := by decide +kernel
theorem dX7_lies_62 : decode cX7_lies 62 = .ok (.iload 5, 2) := by decide +kernel
theorem dX7_lies_64 : decode cX7_lies 64 = .ok (.ifCond .eq 10, 3) := by decide +kernel
theorem dX7_lies_67 : decode cX7_lies 67 = .ok (.aload_n 0, 1) := by decide +kernel
theorem dX7_lies_68 : decode cX7_lies 68 = .ok (.iload 5, 2) := by decide +kernel
theorem dX7_lies_70 : decode cX7_lies 70 = .ok (.invokevirtual 76, 3) := by decide +kernel
theorem dX7_lies_73 : decode cX7_lies 73 = .ok (.ireturn, 1) := by decide +kernel
theorem dX7_lies_74 : decode cX7_lies 74 = .ok (.aload_n 0, 1) := by decide +kernel
theorem dX7_lies_75 : decode cX7_lies 75 = .ok (.getfield 10, 3) := by decide +kernel
theorem dX7_lies_78 : decode cX7_lies 78 = .ok (.iload_n 3, 1) := by decide +kernel
theorem dX7_lies_79 : decode cX7_lies 79 = .ok (.iload_n 1, 1) := by decide +kernel
theorem dX7_lies_80 : decode cX7_lies 80 = .ok (.iload_n 2, 1) := by decide +kernel
theorem dX7_lies_81 : decode cX7_lies 81 = .ok (.aload_n 0, 1) := by decide +kernel
theorem dX7_lies_82 : decode cX7_lies 82 = .ok (.getfield 26, 3) := by decide +kernel
theorem dX7_lies_85 : decode cX7_lies 85 = .ok (.getfield 146, 3) := by decide +kernel
theorem dX7_lies_88 : decode cX7_lies 88 = .ok (.invokevirtual 235, 3) := by decide +kernel
theorem dX7_lies_91 : decode cX7_lies 91 = .ok (.ifCond .ne 6, 3) := by decide +kernel
theorem dX7_lies_94 : decode cX7_lies 94 = .ok (.ldc 75, 2) := by decide +kernel
theorem dX7_lies_96 : decode cX7_lies 96 = .ok (.ireturn, 1) := by decide +kernel
theorem dX7_lies_97 : decode cX7_lies 97 = .ok (.aload_n 0, 1) := by decide +kernel
theorem dX7_lies_98 : decode cX7_lies 98 = .ok (.getfield 56, 3) := by decide +kernel
theorem dX7_lies_101 : decode cX7_lies 101 = .ok (.aload_n 0, 1) := by decide +kernel
theorem dX7_lies_102 : decode cX7_lies 102 = .ok (.getfield 26, 3) := by decide +kernel
theorem dX7_lies_105 : decode cX7_lies 105 = .ok (.aload_n 0, 1) := by decide +kernel
theorem dX7_lies_106 : decode cX7_lies 106 = .ok (.getfield 10, 3) := by decide +kernel
theorem dX7_lies_109 : decode cX7_lies 109 = .ok (.iload_n 1, 1) := by decide +kernel
theorem dX7_lies_110 : decode cX7_lies 110 = .ok (.iload_n 2, 1) := by decide +kernel
theorem dX7_lies_111 : decode cX7_lies 111 = .ok (.iload_n 3, 1) := by decide +kernel
theorem dX7_lies_112 : decode cX7_lies 112 = .ok (.invokevirtual 239, 3) := by decide +kernel
theorem dX7_lies_115 : decode cX7_lies 115 = .ok (.aload_n 0, 1) := by decide +kernel
theorem dX7_lies_116 : decode cX7_lies 116 = .ok (.aload_n 0, 1) := by decide +kernel
theorem dX7_lies_117 : decode cX7_lies 117 = .ok (.iload 4, 2) := by decide +kernel
theorem dX7_lies_119 : decode cX7_lies 119 = .ok (.invokevirtual 243, 3) := by decide +kernel
theorem dX7_lies_122 : decode cX7_lies 122 = .ok (.invokevirtual 84, 3) := by decide +kernel
theorem dX7_lies_125 : decode cX7_lies 125 = .ok (.ireturn, 1) := by decide +kernel
set_option maxRecDepth 20000 in
theorem ggX7_firstLie_X2_isNone : GoodIn wsX7_firstLie wsX2_isNone := goodIn_r _ [10, 11, 141, 142, 143, 144, 145] (by decide +kernel) (by decide +kernel)
set_option maxRecDepth 20000 in
theorem gX7_firstLie_X2_isNone : GoodIn wsX7_firstLie (wsV RX7 231 RX2 yX2_isNone wsX2_isNone) := goodIn_app (goodIn_of _ (by decide +kernel)) ggX7_firstLie_X2_isNone
set_option maxRecDepth 20000 in
theorem ggX7_firstLie_X7_isRow : GoodIn wsX7_firstLie wsX7_isRow := goodIn_r _ [15] (by decide +kernel) (by decide +kernel)
set_option maxRecDepth 20000 in
theorem gX7_firstLie_X7_isRow : GoodIn wsX7_firstLie (va_wsS RX7 67 yX7_isRow wsX7_isRow) := goodIn_app (goodIn_of _ (by decide +kernel)) ggX7_firstLie_X7_isRow
set_option maxRecDepth 20000 in
theorem ggX7_firstLie_X7_isWithin : GoodIn wsX7_firstLie wsX7_isWithin := goodIn_r _ [18] (by decide +kernel) (by decide +kernel)
set_option maxRecDepth 20000 in
theorem gX7_firstLie_X7_isWithin : GoodIn wsX7_firstLie (va_wsS RX7 71 yX7_isWithin wsX7_isWithin) := goodIn_app (goodIn_of _ (by decide +kernel)) ggX7_firstLie_X7_isWithin
set_option maxRecDepth 20000 in
theorem ggX7_firstLie_X5_wrongAt : GoodIn wsX7_firstLie wsX5_wrongAt := goodIn_r _ [23, 24, 25, 26, 22, 27, 28, 29, 30, 31, 32, 13, 14, 15, 33, 34, 35, 36, 37, 38, 39, 40, 41, 146, 147, 148] (by decide +kernel) (by decide +kernel)
set_option maxRecDepth 20000 in
theorem gX7_firstLie_X5_wrongAt : GoodIn wsX7_firstLie (wsV RX7 87 RX5 yX5_wrongAt wsX5_wrongAt) := goodIn_app (goodIn_of _ (by decide +kernel)) ggX7_firstLie_X5_wrongAt
set_option maxRecDepth 20000 in
theorem ggX7_firstLie_X7_found : GoodIn wsX7_firstLie wsX7_found := goodIn_r _ [45, 46, 47, 129, 130, 131, 132, 133, 134, 135, 136, 137, 138, 139, 140] (by decide +kernel) (by decide +kernel)
set_option maxRecDepth 20000 in
theorem gX7_firstLie_X7_found : GoodIn wsX7_firstLie (wsV RX7 76 RX7 yX7_found wsX7_found) := goodIn_app (goodIn_of _ (by decide +kernel)) ggX7_firstLie_X7_found
set_option maxRecDepth 20000 in
theorem ggX7_firstLie_X5_areBelow : GoodIn wsX7_firstLie wsX5_areBelow := goodIn_r _ [51, 52, 53, 54, 22, 55, 56, 13, 14, 15, 33, 34, 35, 36, 37, 38, 39, 40, 41, 17, 18, 146, 147, 148] (by decide +kernel) (by decide +kernel)
set_option maxRecDepth 20000 in
theorem gX7_firstLie_X5_areBelow : GoodIn wsX7_firstLie (wsV RX7 235 RX5 yX5_areBelow wsX5_areBelow) := goodIn_app (goodIn_of _ (by decide +kernel)) ggX7_firstLie_X5_areBelow
set_option maxRecDepth 20000 in
theorem ggX7_firstLie_X7_firstLieOf : GoodIn wsX7_firstLie wsX7_firstLieOf := goodIn_r _ [60, 61, 1, 4, 5, 62, 63, 64, 65, 66, 67, 68, 69, 70, 71, 72, 73, 74, 75, 76, 77, 53, 54, 22, 55, 56, 13, 14, 15, 33, 34, 35, 36, 37, 38, 39, 40, 41, 78, 79, 80, 9, 81, 82, 83, 84, 85, 86, 87, 88, 89, 90, 11, 91, 92, 93, 94, 95, 96, 97, 98, 99, 100, 101, 102, 103, 104, 105, 106, 107, 108, 109, 110, 111, 112, 113, 114, 115, 116, 117, 118, 119, 120, 121, 122, 123, 124, 129, 130, 131, 132, 133, 134, 135, 136, 137, 138, 139, 140, 141, 142, 143, 144, 145, 149, 150, 151, 152, 146, 147, 148] (by decide +kernel) (by decide +kernel)
set_option maxRecDepth 20000 in
theorem gX7_firstLie_X7_firstLieOf : GoodIn wsX7_firstLie (wsV RX7 246 RX7 yX7_firstLieOf wsX7_firstLieOf) := goodIn_app (goodIn_of _ (by decide +kernel)) ggX7_firstLie_X7_firstLieOf
set_option maxRecDepth 20000 in
theorem ggX7_firstLie_X7_fine : GoodIn wsX7_firstLie wsX7_fine := goodIn_r _ [128, 46, 129, 130, 131, 132, 133, 134, 135, 136, 137, 138, 139, 140] (by decide +kernel) (by decide +kernel)
set_option maxRecDepth 20000 in
theorem gX7_firstLie_X7_fine : GoodIn wsX7_firstLie (wsV RX7 84 RX7 yX7_fine wsX7_fine) := goodIn_app (goodIn_of _ (by decide +kernel)) ggX7_firstLie_X7_fine
theorem dX7_firstLie_0 : decode cX7_firstLie 0 = .ok (.aload_n 0, 1) := by decide +kernel
theorem dX7_firstLie_1 : decode cX7_firstLie 1 = .ok (.getfield 26, 3) := by decide +kernel
theorem dX7_firstLie_4 : decode cX7_firstLie 4 = .ok (.invokevirtual 231, 3) := by decide +kernel
theorem dX7_firstLie_7 : decode cX7_firstLie 7 = .ok (.ifCond .eq 6, 3) := by decide +kernel
theorem dX7_firstLie_10 : decode cX7_firstLie 10 = .ok (.ldc 168, 2) := by decide +kernel
theorem dX7_firstLie_12 : decode cX7_firstLie 12 = .ok (.ireturn, 1) := by decide +kernel
theorem dX7_firstLie_13 : decode cX7_firstLie 13 = .ok (.iload_n 1, 1) := by decide +kernel
theorem dX7_firstLie_14 : decode cX7_firstLie 14 = .ok (.invokestatic 67, 3) := by decide +kernel
theorem dX7_firstLie_17 : decode cX7_firstLie 17 = .ok (.ifCond .eq 24, 3) := by decide +kernel
theorem dX7_firstLie_20 : decode cX7_firstLie 20 = .ok (.iload_n 2, 1) := by decide +kernel
theorem dX7_firstLie_21 : decode cX7_firstLie 21 = .ok (.iconst 1, 1) := by decide +kernel
theorem dX7_firstLie_22 : decode cX7_firstLie 22 = .ok (.bipush 10, 2) := by decide +kernel
theorem dX7_firstLie_24 : decode cX7_firstLie 24 = .ok (.invokestatic 71, 3) := by decide +kernel
theorem dX7_firstLie_27 : decode cX7_firstLie 27 = .ok (.ifCond .eq 14, 3) := by decide +kernel
theorem dX7_firstLie_30 : decode cX7_firstLie 30 = .ok (.iload_n 3, 1) := by decide +kernel
theorem dX7_firstLie_31 : decode cX7_firstLie 31 = .ok (.iconst 1, 1) := by decide +kernel
theorem dX7_firstLie_32 : decode cX7_firstLie 32 = .ok (.sipush 720, 3) := by decide +kernel
theorem dX7_firstLie_35 : decode cX7_firstLie 35 = .ok (.invokestatic 71, 3) := by decide +kernel
theorem dX7_firstLie_38 : decode cX7_firstLie 38 = .ok (.ifCond .ne 6, 3) := by decide +kernel
theorem dX7_firstLie_41 : decode cX7_firstLie 41 = .ok (.ldc 75, 2) := by decide +kernel
theorem dX7_firstLie_43 : decode cX7_firstLie 43 = .ok (.ireturn, 1) := by decide +kernel
theorem dX7_firstLie_44 : decode cX7_firstLie 44 = .ok (.aload_n 0, 1) := by decide +kernel
theorem dX7_firstLie_45 : decode cX7_firstLie 45 = .ok (.getfield 10, 3) := by decide +kernel
theorem dX7_firstLie_48 : decode cX7_firstLie 48 = .ok (.iload_n 1, 1) := by decide +kernel
theorem dX7_firstLie_49 : decode cX7_firstLie 49 = .ok (.iconst 0, 1) := by decide +kernel
theorem dX7_firstLie_50 : decode cX7_firstLie 50 = .ok (.iload_n 2, 1) := by decide +kernel
theorem dX7_firstLie_51 : decode cX7_firstLie 51 = .ok (.aload_n 0, 1) := by decide +kernel
theorem dX7_firstLie_52 : decode cX7_firstLie 52 = .ok (.getfield 26, 3) := by decide +kernel
theorem dX7_firstLie_55 : decode cX7_firstLie 55 = .ok (.getfield 146, 3) := by decide +kernel
theorem dX7_firstLie_58 : decode cX7_firstLie 58 = .ok (.imul, 1) := by decide +kernel
theorem dX7_firstLie_59 : decode cX7_firstLie 59 = .ok (.invokevirtual 87, 3) := by decide +kernel
theorem dX7_firstLie_62 : decode cX7_firstLie 62 = .ok (.istore 4, 2) := by decide +kernel
theorem dX7_firstLie_64 : decode cX7_firstLie 64 = .ok (.iload 4, 2) := by decide +kernel
theorem dX7_firstLie_66 : decode cX7_firstLie 66 = .ok (.ifCond .eq 10, 3) := by decide +kernel
theorem dX7_firstLie_69 : decode cX7_firstLie 69 = .ok (.aload_n 0, 1) := by decide +kernel
theorem dX7_firstLie_70 : decode cX7_firstLie 70 = .ok (.iload 4, 2) := by decide +kernel
theorem dX7_firstLie_72 : decode cX7_firstLie 72 = .ok (.invokevirtual 76, 3) := by decide +kernel
theorem dX7_firstLie_75 : decode cX7_firstLie 75 = .ok (.ireturn, 1) := by decide +kernel
theorem dX7_firstLie_76 : decode cX7_firstLie 76 = .ok (.aload_n 0, 1) := by decide +kernel
theorem dX7_firstLie_77 : decode cX7_firstLie 77 = .ok (.getfield 10, 3) := by decide +kernel
theorem dX7_firstLie_80 : decode cX7_firstLie 80 = .ok (.iload_n 3, 1) := by decide +kernel
theorem dX7_firstLie_81 : decode cX7_firstLie 81 = .ok (.iload_n 1, 1) := by decide +kernel
theorem dX7_firstLie_82 : decode cX7_firstLie 82 = .ok (.iconst 0, 1) := by decide +kernel
theorem dX7_firstLie_83 : decode cX7_firstLie 83 = .ok (.iload_n 2, 1) := by decide +kernel
theorem dX7_firstLie_84 : decode cX7_firstLie 84 = .ok (.aload_n 0, 1) := by decide +kernel
theorem dX7_firstLie_85 : decode cX7_firstLie 85 = .ok (.getfield 26, 3) := by decide +kernel
theorem dX7_firstLie_88 : decode cX7_firstLie 88 = .ok (.getfield 146, 3) := by decide +kernel
theorem dX7_firstLie_91 : decode cX7_firstLie 91 = .ok (.imul, 1) := by decide +kernel
theorem dX7_firstLie_92 : decode cX7_firstLie 92 = .ok (.invokevirtual 235, 3) := by decide +kernel
theorem dX7_firstLie_95 : decode cX7_firstLie 95 = .ok (.ifCond .ne 6, 3) := by decide +kernel
theorem dX7_firstLie_98 : decode cX7_firstLie 98 = .ok (.ldc 75, 2) := by decide +kernel
theorem dX7_firstLie_100 : decode cX7_firstLie 100 = .ok (.ireturn, 1) := by decide +kernel
theorem dX7_firstLie_101 : decode cX7_firstLie 101 = .ok (.aload_n 0, 1) := by decide +kernel
theorem dX7_firstLie_102 : decode cX7_firstLie 102 = .ok (.aload_n 0, 1) := by decide +kernel
theorem dX7_firstLie_103 : decode cX7_firstLie 103 = .ok (.iload_n 1, 1) := by decide +kernel
theorem dX7_firstLie_104 : decode cX7_firstLie 104 = .ok (.iload_n 2, 1) := by decide +kernel
theorem dX7_firstLie_105 : decode cX7_firstLie 105 = .ok (.iload_n 3, 1) := by decide +kernel
theorem dX7_firstLie_106 : decode cX7_firstLie 106 = .ok (.invokevirtual 246, 3) := by decide +kernel
theorem dX7_firstLie_109 : decode cX7_firstLie 109 = .ok (.invokevirtual 84, 3) := by decide +kernel
theorem dX7_firstLie_112 : decode cX7_firstLie 112 = .ok (.ireturn, 1) := by decide +kernel
set_option maxRecDepth 20000 in
theorem ggX7_glass_X2_isNone : GoodIn wsX7_glass wsX2_isNone := goodIn_r _ [8, 9, 80, 81, 82, 83, 84] (by decide +kernel) (by decide +kernel)
set_option maxRecDepth 20000 in
theorem gX7_glass_X2_isNone : GoodIn wsX7_glass (wsV RX7 231 RX2 yX2_isNone wsX2_isNone) := goodIn_app (goodIn_of _ (by decide +kernel)) ggX7_glass_X2_isNone
set_option maxRecDepth 20000 in
theorem ggX7_glass_X7_isMoment : GoodIn wsX7_glass wsX7_isMoment := goodIn_r _ [13, 14, 15, 12, 16] (by decide +kernel) (by decide +kernel)
set_option maxRecDepth 20000 in
theorem gX7_glass_X7_isMoment : GoodIn wsX7_glass (va_wsS RX7 182 yX7_isMoment wsX7_isMoment) := goodIn_app (goodIn_of _ (by decide +kernel)) ggX7_glass_X7_isMoment
set_option maxRecDepth 20000 in
theorem ggX7_glass_X7_isWithin : GoodIn wsX7_glass wsX7_isWithin := goodIn_r _ [16] (by decide +kernel) (by decide +kernel)
set_option maxRecDepth 20000 in
theorem gX7_glass_X7_isWithin : GoodIn wsX7_glass (va_wsS RX7 71 yX7_isWithin wsX7_isWithin) := goodIn_app (goodIn_of _ (by decide +kernel)) ggX7_glass_X7_isWithin
set_option maxRecDepth 20000 in
theorem ggX7_glass_X7_trueInGlass : GoodIn wsX7_glass wsX7_trueInGlass := goodIn_r _ [20, 1, 21, 22, 23, 24, 7, 25, 26, 27, 28, 29, 30, 31, 32, 33, 34, 35, 36, 37, 38, 39, 9, 40, 41, 42, 43, 44, 45, 46, 47, 48, 49, 50, 51, 52, 53, 54, 12, 55, 56, 57, 58, 59, 60, 61, 68, 69, 70, 71, 72, 73, 74, 75, 76, 77, 78, 79, 80, 81, 82, 83, 84] (by decide +kernel) (by decide +kernel)
set_option maxRecDepth 20000 in
theorem gX7_glass_X7_trueInGlass : GoodIn wsX7_glass (wsV RX7 249 RX7 yX7_trueInGlass wsX7_trueInGlass) := goodIn_app (goodIn_of _ (by decide +kernel)) ggX7_glass_X7_trueInGlass
set_option maxRecDepth 20000 in
theorem ggX7_glass_X7_rest : GoodIn wsX7_glass wsX7_rest := goodIn_r _ [55, 56, 57, 58, 59] (by decide +kernel) (by decide +kernel)
set_option maxRecDepth 20000 in
theorem gX7_glass_X7_rest : GoodIn wsX7_glass (va_wsS RX7 162 yX7_rest wsX7_rest) := goodIn_app (goodIn_of _ (by decide +kernel)) ggX7_glass_X7_rest
set_option maxRecDepth 20000 in
theorem ggX7_glass_X7_part : GoodIn wsX7_glass wsX7_part := goodIn_r _ [64, 65, 66, 12, 67] (by decide +kernel) (by decide +kernel)
set_option maxRecDepth 20000 in
theorem gX7_glass_X7_part : GoodIn wsX7_glass (va_wsS RX7 192 yX7_part wsX7_part) := goodIn_app (goodIn_of _ (by decide +kernel)) ggX7_glass_X7_part
theorem dX7_glass_0 : decode cX7_glass 0 = .ok (.aload_n 0, 1) := by decide +kernel
theorem dX7_glass_1 : decode cX7_glass 1 = .ok (.getfield 26, 3) := by decide +kernel
theorem dX7_glass_4 : decode cX7_glass 4 = .ok (.invokevirtual 231, 3) := by decide +kernel
theorem dX7_glass_7 : decode cX7_glass 7 = .ok (.ifCond .eq 6, 3) := by decide +kernel
theorem dX7_glass_10 : decode cX7_glass 10 = .ok (.ldc 168, 2) := by decide +kernel
theorem dX7_glass_12 : decode cX7_glass 12 = .ok (.ireturn, 1) := by decide +kernel
theorem dX7_glass_13 : decode cX7_glass 13 = .ok (.iload_n 1, 1) := by decide +kernel
theorem dX7_glass_14 : decode cX7_glass 14 = .ok (.iload_n 2, 1) := by decide +kernel
theorem dX7_glass_15 : decode cX7_glass 15 = .ok (.invokestatic 182, 3) := by decide +kernel
theorem dX7_glass_18 : decode cX7_glass 18 = .ok (.ifCond .eq 12, 3) := by decide +kernel
theorem dX7_glass_21 : decode cX7_glass 21 = .ok (.iload_n 3, 1) := by decide +kernel
theorem dX7_glass_22 : decode cX7_glass 22 = .ok (.iconst 0, 1) := by decide +kernel
theorem dX7_glass_23 : decode cX7_glass 23 = .ok (.iconst 2, 1) := by decide +kernel
theorem dX7_glass_24 : decode cX7_glass 24 = .ok (.invokestatic 71, 3) := by decide +kernel
theorem dX7_glass_27 : decode cX7_glass 27 = .ok (.ifCond .ne 6, 3) := by decide +kernel
theorem dX7_glass_30 : decode cX7_glass 30 = .ok (.ldc 75, 2) := by decide +kernel
theorem dX7_glass_32 : decode cX7_glass 32 = .ok (.ireturn, 1) := by decide +kernel
theorem dX7_glass_33 : decode cX7_glass 33 = .ok (.iload_n 3, 1) := by decide +kernel
theorem dX7_glass_34 : decode cX7_glass 34 = .ok (.iconst 2, 1) := by decide +kernel
theorem dX7_glass_35 : decode cX7_glass 35 = .ok (.if_icmp .ne 10, 3) := by decide +kernel
theorem dX7_glass_38 : decode cX7_glass 38 = .ok (.aload_n 0, 1) := by decide +kernel
theorem dX7_glass_39 : decode cX7_glass 39 = .ok (.iload_n 1, 1) := by decide +kernel
theorem dX7_glass_40 : decode cX7_glass 40 = .ok (.iload_n 2, 1) := by decide +kernel
theorem dX7_glass_41 : decode cX7_glass 41 = .ok (.invokevirtual 249, 3) := by decide +kernel
theorem dX7_glass_44 : decode cX7_glass 44 = .ok (.ireturn, 1) := by decide +kernel
theorem dX7_glass_45 : decode cX7_glass 45 = .ok (.iload_n 1, 1) := by decide +kernel
theorem dX7_glass_46 : decode cX7_glass 46 = .ok (.ineg, 1) := by decide +kernel
theorem dX7_glass_47 : decode cX7_glass 47 = .ok (.iload_n 2, 1) := by decide +kernel
theorem dX7_glass_48 : decode cX7_glass 48 = .ok (.invokestatic 162, 3) := by decide +kernel
theorem dX7_glass_51 : decode cX7_glass 51 = .ok (.iload_n 2, 1) := by decide +kernel
theorem dX7_glass_52 : decode cX7_glass 52 = .ok (.iload_n 3, 1) := by decide +kernel
theorem dX7_glass_53 : decode cX7_glass 53 = .ok (.invokestatic 192, 3) := by decide +kernel
theorem dX7_glass_56 : decode cX7_glass 56 = .ok (.ireturn, 1) := by decide +kernel
set_option maxRecDepth 20000 in
theorem ggX7_image_X7_isWithin : GoodIn wsX7_image wsX7_isWithin := goodIn_r _ [7] (by decide +kernel) (by decide +kernel)
set_option maxRecDepth 20000 in
theorem gX7_image_X7_isWithin : GoodIn wsX7_image (va_wsS RX7 71 yX7_isWithin wsX7_isWithin) := goodIn_app (goodIn_of _ (by decide +kernel)) ggX7_image_X7_isWithin
set_option maxRecDepth 20000 in
theorem ggX7_image_X2_isNone : GoodIn wsX7_image wsX2_isNone := goodIn_r _ [12, 13, 40, 41, 42, 43, 44] (by decide +kernel) (by decide +kernel)
set_option maxRecDepth 20000 in
theorem gX7_image_X2_isNone : GoodIn wsX7_image (wsV RX7 231 RX2 yX2_isNone wsX2_isNone) := goodIn_app (goodIn_of _ (by decide +kernel)) ggX7_image_X2_isNone
set_option maxRecDepth 20000 in
theorem ggX7_image_X7_imageOf : GoodIn wsX7_image wsX7_imageOf := goodIn_r _ [17, 18, 19, 28, 29, 30, 31, 32, 33, 34, 35, 36, 37, 38, 39] (by decide +kernel) (by decide +kernel)
set_option maxRecDepth 20000 in
theorem gX7_image_X7_imageOf : GoodIn wsX7_image (wsV RX7 252 RX7 yX7_imageOf wsX7_imageOf) := goodIn_app (goodIn_of _ (by decide +kernel)) ggX7_image_X7_imageOf
set_option maxRecDepth 20000 in
theorem ggX7_image_X2_become : GoodIn wsX7_image wsX2_become := goodIn_r _ [23, 24, 13, 25, 26, 27, 40, 41, 42, 43, 44] (by decide +kernel) (by decide +kernel)
set_option maxRecDepth 20000 in
theorem gX7_image_X2_become : GoodIn wsX7_image (wsV RX7 142 RX2 yX2_become wsX2_become) := goodIn_app (goodIn_of _ (by decide +kernel)) ggX7_image_X2_become
theorem dX7_image_0 : decode cX7_image 0 = .ok (.iload_n 1, 1) := by decide +kernel
theorem dX7_image_1 : decode cX7_image 1 = .ok (.iconst 0, 1) := by decide +kernel
theorem dX7_image_2 : decode cX7_image 2 = .ok (.iconst 1, 1) := by decide +kernel
theorem dX7_image_3 : decode cX7_image 3 = .ok (.invokestatic 71, 3) := by decide +kernel
theorem dX7_image_6 : decode cX7_image 6 = .ok (.ifCond .ne 6, 3) := by decide +kernel
theorem dX7_image_9 : decode cX7_image 9 = .ok (.ldc 75, 2) := by decide +kernel
theorem dX7_image_11 : decode cX7_image 11 = .ok (.ireturn, 1) := by decide +kernel
theorem dX7_image_12 : decode cX7_image 12 = .ok (.aload_n 0, 1) := by decide +kernel
theorem dX7_image_13 : decode cX7_image 13 = .ok (.getfield 26, 3) := by decide +kernel
theorem dX7_image_16 : decode cX7_image 16 = .ok (.invokevirtual 231, 3) := by decide +kernel
theorem dX7_image_19 : decode cX7_image 19 = .ok (.ifCond .eq 6, 3) := by decide +kernel
theorem dX7_image_22 : decode cX7_image 22 = .ok (.ldc 168, 2) := by decide +kernel
theorem dX7_image_24 : decode cX7_image 24 = .ok (.ireturn, 1) := by decide +kernel
theorem dX7_image_25 : decode cX7_image 25 = .ok (.aload_n 0, 1) := by decide +kernel
theorem dX7_image_26 : decode cX7_image 26 = .ok (.iload_n 1, 1) := by decide +kernel
theorem dX7_image_27 : decode cX7_image 27 = .ok (.invokevirtual 252, 3) := by decide +kernel
theorem dX7_image_30 : decode cX7_image 30 = .ok (.aload_n 0, 1) := by decide +kernel
theorem dX7_image_31 : decode cX7_image 31 = .ok (.getfield 26, 3) := by decide +kernel
theorem dX7_image_34 : decode cX7_image 34 = .ok (.invokevirtual 142, 3) := by decide +kernel
theorem dX7_image_37 : decode cX7_image 37 = .ok (.iconst 1, 1) := by decide +kernel
theorem dX7_image_38 : decode cX7_image 38 = .ok (.ireturn, 1) := by decide +kernel
set_option maxRecDepth 20000 in
theorem ggX7_restore_X7_isWithin : GoodIn wsX7_restore wsX7_isWithin := goodIn_r _ [9] (by decide +kernel) (by decide +kernel)
set_option maxRecDepth 20000 in
theorem gX7_restore_X7_isWithin : GoodIn wsX7_restore (va_wsS RX7 71 yX7_isWithin wsX7_isWithin) := goodIn_app (goodIn_of _ (by decide +kernel)) ggX7_restore_X7_isWithin
set_option maxRecDepth 20000 in
theorem ggX7_restore_X7_imageOf : GoodIn wsX7_restore wsX7_imageOf := goodIn_r _ [13, 14, 15, 30, 31, 32, 33, 34, 35, 36, 37, 38, 39, 40, 41] (by decide +kernel) (by decide +kernel)
set_option maxRecDepth 20000 in
theorem gX7_restore_X7_imageOf : GoodIn wsX7_restore (wsV RX7 252 RX7 yX7_imageOf wsX7_imageOf) := goodIn_app (goodIn_of _ (by decide +kernel)) ggX7_restore_X7_imageOf
set_option maxRecDepth 20000 in
theorem ggX7_restore_X2_isNone : GoodIn wsX7_restore wsX2_isNone := goodIn_r _ [20, 21, 45, 46, 47, 48, 49] (by decide +kernel) (by decide +kernel)
set_option maxRecDepth 20000 in
theorem gX7_restore_X2_isNone : GoodIn wsX7_restore (wsV RX7 231 RX2 yX2_isNone wsX2_isNone) := goodIn_app (goodIn_of _ (by decide +kernel)) ggX7_restore_X2_isNone
set_option maxRecDepth 20000 in
theorem ggX7_restore_X2_become : GoodIn wsX7_restore wsX2_become := goodIn_r _ [25, 26, 21, 27, 28, 29, 45, 46, 47, 48, 49] (by decide +kernel) (by decide +kernel)
set_option maxRecDepth 20000 in
theorem gX7_restore_X2_become : GoodIn wsX7_restore (wsV RX7 142 RX2 yX2_become wsX2_become) := goodIn_app (goodIn_of _ (by decide +kernel)) ggX7_restore_X2_become
theorem dX7_restore_0 : decode cX7_restore 0 = .ok (.iload_n 1, 1) := by decide +kernel
theorem dX7_restore_1 : decode cX7_restore 1 = .ok (.iconst 0, 1) := by decide +kernel
theorem dX7_restore_2 : decode cX7_restore 2 = .ok (.iconst 1, 1) := by decide +kernel
theorem dX7_restore_3 : decode cX7_restore 3 = .ok (.invokestatic 71, 3) := by decide +kernel
theorem dX7_restore_6 : decode cX7_restore 6 = .ok (.ifCond .ne 6, 3) := by decide +kernel
theorem dX7_restore_9 : decode cX7_restore 9 = .ok (.ldc 75, 2) := by decide +kernel
theorem dX7_restore_11 : decode cX7_restore 11 = .ok (.ireturn, 1) := by decide +kernel
theorem dX7_restore_12 : decode cX7_restore 12 = .ok (.aload_n 0, 1) := by decide +kernel
theorem dX7_restore_13 : decode cX7_restore 13 = .ok (.iload_n 1, 1) := by decide +kernel
theorem dX7_restore_14 : decode cX7_restore 14 = .ok (.invokevirtual 252, 3) := by decide +kernel
theorem dX7_restore_17 : decode cX7_restore 17 = .ok (.invokevirtual 231, 3) := by decide +kernel
theorem dX7_restore_20 : decode cX7_restore 20 = .ok (.ifCond .eq 6, 3) := by decide +kernel
theorem dX7_restore_23 : decode cX7_restore 23 = .ok (.ldc 168, 2) := by decide +kernel
theorem dX7_restore_25 : decode cX7_restore 25 = .ok (.ireturn, 1) := by decide +kernel
theorem dX7_restore_26 : decode cX7_restore 26 = .ok (.aload_n 0, 1) := by decide +kernel
theorem dX7_restore_27 : decode cX7_restore 27 = .ok (.getfield 26, 3) := by decide +kernel
theorem dX7_restore_30 : decode cX7_restore 30 = .ok (.aload_n 0, 1) := by decide +kernel
theorem dX7_restore_31 : decode cX7_restore 31 = .ok (.iload_n 1, 1) := by decide +kernel
theorem dX7_restore_32 : decode cX7_restore 32 = .ok (.invokevirtual 252, 3) := by decide +kernel
theorem dX7_restore_35 : decode cX7_restore 35 = .ok (.invokevirtual 142, 3) := by decide +kernel
theorem dX7_restore_38 : decode cX7_restore 38 = .ok (.aload_n 0, 1) := by decide +kernel
theorem dX7_restore_39 : decode cX7_restore 39 = .ok (.getfield 42, 3) := by decide +kernel
theorem dX7_restore_42 : decode cX7_restore 42 = .ok (.iconst 0, 1) := by decide +kernel
theorem dX7_restore_43 : decode cX7_restore 43 = .ok (.putfield 145, 3) := by decide +kernel
theorem dX7_restore_46 : decode cX7_restore 46 = .ok (.iconst 1, 1) := by decide +kernel
theorem dX7_restore_47 : decode cX7_restore 47 = .ok (.ireturn, 1) := by decide +kernel
set_option maxRecDepth 20000 in
theorem ggX7_kind_X2_has : GoodIn wsX7_kind wsX2_has := goodIn_r _ [7, 8, 27, 28, 29, 30, 31] (by decide +kernel) (by decide +kernel)
set_option maxRecDepth 20000 in
theorem gX7_kind_X2_has : GoodIn wsX7_kind (wsV RX7 149 RX2 yX2_has wsX2_has) := goodIn_app (goodIn_of _ (by decide +kernel)) ggX7_kind_X2_has
set_option maxRecDepth 20000 in
theorem ggX7_kind_X2_sortOf : GoodIn wsX7_kind wsX2_sortOf := goodIn_r _ [12, 13, 14, 4, 5, 6, 7, 8, 27, 28, 29, 30, 31] (by decide +kernel) (by decide +kernel)
set_option maxRecDepth 20000 in
theorem gX7_kind_X2_sortOf : GoodIn wsX7_kind (wsV RX7 256 RX2 yX2_sortOf wsX2_sortOf) := goodIn_app (goodIn_of _ (by decide +kernel)) ggX7_kind_X2_sortOf
theorem dX7_kind_0 : decode cX7_kind 0 = .ok (.aload_n 0, 1) := by decide +kernel
theorem dX7_kind_1 : decode cX7_kind 1 = .ok (.getfield 26, 3) := by decide +kernel
theorem dX7_kind_4 : decode cX7_kind 4 = .ok (.iload_n 1, 1) := by decide +kernel
theorem dX7_kind_5 : decode cX7_kind 5 = .ok (.invokevirtual 149, 3) := by decide +kernel
theorem dX7_kind_8 : decode cX7_kind 8 = .ok (.ifCond .eq 14, 3) := by decide +kernel
theorem dX7_kind_11 : decode cX7_kind 11 = .ok (.aload_n 0, 1) := by decide +kernel
theorem dX7_kind_12 : decode cX7_kind 12 = .ok (.getfield 26, 3) := by decide +kernel
theorem dX7_kind_15 : decode cX7_kind 15 = .ok (.iload_n 1, 1) := by decide +kernel
theorem dX7_kind_16 : decode cX7_kind 16 = .ok (.invokevirtual 256, 3) := by decide +kernel
theorem dX7_kind_19 : decode cX7_kind 19 = .ok (.goto 5, 3) := by decide +kernel
theorem dX7_kind_22 : decode cX7_kind 22 = .ok (.ldc 75, 2) := by decide +kernel
theorem dX7_kind_24 : decode cX7_kind 24 = .ok (.ireturn, 1) := by decide +kernel
set_option maxRecDepth 20000 in
theorem ggX7_as_X2_has : GoodIn wsX7_as wsX2_has := goodIn_r _ [7, 8, 44, 45, 46, 47, 48] (by decide +kernel) (by decide +kernel)
set_option maxRecDepth 20000 in
theorem gX7_as_X2_has : GoodIn wsX7_as (wsV RX7 149 RX2 yX2_has wsX2_has) := goodIn_app (goodIn_of _ (by decide +kernel)) ggX7_as_X2_has
set_option maxRecDepth 20000 in
theorem ggX7_as_X7_isWithin : GoodIn wsX7_as wsX7_isWithin := goodIn_r _ [12] (by decide +kernel) (by decide +kernel)
set_option maxRecDepth 20000 in
theorem gX7_as_X7_isWithin : GoodIn wsX7_as (va_wsS RX7 71 yX7_isWithin wsX7_isWithin) := goodIn_app (goodIn_of _ (by decide +kernel)) ggX7_as_X7_isWithin
set_option maxRecDepth 20000 in
theorem ggX7_as_X2_sortOf : GoodIn wsX7_as wsX2_sortOf := goodIn_r _ [16, 17, 18, 4, 5, 6, 7, 8, 44, 45, 46, 47, 48] (by decide +kernel) (by decide +kernel)
set_option maxRecDepth 20000 in
theorem gX7_as_X2_sortOf : GoodIn wsX7_as (wsV RX7 256 RX2 yX2_sortOf wsX2_sortOf) := goodIn_app (goodIn_of _ (by decide +kernel)) ggX7_as_X2_sortOf
set_option maxRecDepth 20000 in
theorem ggX7_as_X7_isOfKind : GoodIn wsX7_as wsX7_isOfKind := goodIn_r _ [21] (by decide +kernel) (by decide +kernel)
set_option maxRecDepth 20000 in
theorem gX7_as_X7_isOfKind : GoodIn wsX7_as (va_wsS RX7 259 yX7_isOfKind wsX7_isOfKind) := goodIn_app (goodIn_of _ (by decide +kernel)) ggX7_as_X7_isOfKind
set_option maxRecDepth 20000 in
theorem ggX7_as_X7_fine : GoodIn wsX7_as wsX7_fine := goodIn_r _ [25, 26, 32, 33, 34, 35, 36, 37, 38, 39, 40, 41, 42, 43] (by decide +kernel) (by decide +kernel)
set_option maxRecDepth 20000 in
theorem gX7_as_X7_fine : GoodIn wsX7_as (wsV RX7 84 RX7 yX7_fine wsX7_fine) := goodIn_app (goodIn_of _ (by decide +kernel)) ggX7_as_X7_fine
set_option maxRecDepth 20000 in
theorem ggX7_as_X7_found : GoodIn wsX7_as wsX7_found := goodIn_r _ [30, 26, 31, 32, 33, 34, 35, 36, 37, 38, 39, 40, 41, 42, 43] (by decide +kernel) (by decide +kernel)
set_option maxRecDepth 20000 in
theorem gX7_as_X7_found : GoodIn wsX7_as (wsV RX7 76 RX7 yX7_found wsX7_found) := goodIn_app (goodIn_of _ (by decide +kernel)) ggX7_as_X7_found
theorem dX7_as_0 : decode cX7_as 0 = .ok (.aload_n 0, 1) := by decide +kernel
theorem dX7_as_1 : decode cX7_as 1 = .ok (.getfield 26, 3) := by decide +kernel
theorem dX7_as_4 : decode cX7_as 4 = .ok (.iload_n 1, 1) := by decide +kernel
theorem dX7_as_5 : decode cX7_as 5 = .ok (.invokevirtual 149, 3) := by decide +kernel
theorem dX7_as_8 : decode cX7_as 8 = .ok (.ifCond .eq 12, 3) := by decide +kernel
theorem dX7_as_11 : decode cX7_as 11 = .ok (.iload_n 2, 1) := by decide +kernel
theorem dX7_as_12 : decode cX7_as 12 = .ok (.iconst 0, 1) := by decide +kernel
theorem dX7_as_13 : decode cX7_as 13 = .ok (.iconst 5, 1) := by decide +kernel
theorem dX7_as_14 : decode cX7_as 14 = .ok (.invokestatic 71, 3) := by decide +kernel
theorem dX7_as_17 : decode cX7_as 17 = .ok (.ifCond .ne 6, 3) := by decide +kernel
theorem dX7_as_20 : decode cX7_as 20 = .ok (.ldc 75, 2) := by decide +kernel
theorem dX7_as_22 : decode cX7_as 22 = .ok (.ireturn, 1) := by decide +kernel
theorem dX7_as_23 : decode cX7_as 23 = .ok (.aload_n 0, 1) := by decide +kernel
theorem dX7_as_24 : decode cX7_as 24 = .ok (.getfield 26, 3) := by decide +kernel
theorem dX7_as_27 : decode cX7_as 27 = .ok (.iload_n 1, 1) := by decide +kernel
theorem dX7_as_28 : decode cX7_as 28 = .ok (.invokevirtual 256, 3) := by decide +kernel
theorem dX7_as_31 : decode cX7_as 31 = .ok (.iload_n 2, 1) := by decide +kernel
theorem dX7_as_32 : decode cX7_as 32 = .ok (.invokestatic 259, 3) := by decide +kernel
theorem dX7_as_35 : decode cX7_as 35 = .ok (.ifCond .eq 11, 3) := by decide +kernel
theorem dX7_as_38 : decode cX7_as 38 = .ok (.aload_n 0, 1) := by decide +kernel
theorem dX7_as_39 : decode cX7_as 39 = .ok (.iload_n 1, 1) := by decide +kernel
theorem dX7_as_40 : decode cX7_as 40 = .ok (.invokevirtual 84, 3) := by decide +kernel
theorem dX7_as_43 : decode cX7_as 43 = .ok (.goto 8, 3) := by decide +kernel
theorem dX7_as_46 : decode cX7_as 46 = .ok (.aload_n 0, 1) := by decide +kernel
theorem dX7_as_47 : decode cX7_as 47 = .ok (.iconst 3, 1) := by decide +kernel
theorem dX7_as_48 : decode cX7_as 48 = .ok (.invokevirtual 76, 3) := by decide +kernel
theorem dX7_as_51 : decode cX7_as 51 = .ok (.ireturn, 1) := by decide +kernel
set_option maxRecDepth 20000 in
theorem ggX7_ask_X2_has : GoodIn wsX7_ask wsX2_has := goodIn_r _ [9, 10, 94, 95, 96, 97, 98] (by decide +kernel) (by decide +kernel)
set_option maxRecDepth 20000 in
theorem gX7_ask_X2_has : GoodIn wsX7_ask (wsV RX7 149 RX2 yX2_has wsX2_has) := goodIn_app (goodIn_of _ (by decide +kernel)) ggX7_ask_X2_has
set_option maxRecDepth 20000 in
theorem ggX7_ask_X7_isWithin : GoodIn wsX7_ask wsX7_isWithin := goodIn_r _ [14] (by decide +kernel) (by decide +kernel)
set_option maxRecDepth 20000 in
theorem gX7_ask_X7_isWithin : GoodIn wsX7_ask (va_wsS RX7 71 yX7_isWithin wsX7_isWithin) := goodIn_app (goodIn_of _ (by decide +kernel)) ggX7_ask_X7_isWithin
set_option maxRecDepth 20000 in
theorem ggX7_ask_X2_sortOf : GoodIn wsX7_ask wsX2_sortOf := goodIn_r _ [18, 19, 20, 6, 7, 8, 9, 10, 94, 95, 96, 97, 98] (by decide +kernel) (by decide +kernel)
set_option maxRecDepth 20000 in
theorem gX7_ask_X2_sortOf : GoodIn wsX7_ask (wsV RX7 256 RX2 yX2_sortOf wsX2_sortOf) := goodIn_app (goodIn_of _ (by decide +kernel)) ggX7_ask_X2_sortOf
set_option maxRecDepth 20000 in
theorem ggX7_ask_X7_isOfKind : GoodIn wsX7_ask wsX7_isOfKind := goodIn_r _ [23] (by decide +kernel) (by decide +kernel)
set_option maxRecDepth 20000 in
theorem gX7_ask_X7_isOfKind : GoodIn wsX7_ask (va_wsS RX7 259 yX7_isOfKind wsX7_isOfKind) := goodIn_app (goodIn_of _ (by decide +kernel)) ggX7_ask_X7_isOfKind
set_option maxRecDepth 20000 in
theorem ggX7_ask_X1_sizeOfBacks : GoodIn wsX7_ask wsX1_sizeOfBacks := goodIn_r _ [28, 29, 16, 17, 8, 18, 19, 20, 6, 7, 9, 10, 30, 31, 32, 27, 33, 34, 35, 36, 37, 38, 39, 40, 41, 42, 43, 44, 45, 46, 47, 48, 94, 95, 96, 97, 98, 92, 93] (by decide +kernel) (by decide +kernel)
set_option maxRecDepth 20000 in
theorem gX7_ask_X1_sizeOfBacks : GoodIn wsX7_ask (wsV RX7 263 RX1 yX1_sizeOfBacks wsX1_sizeOfBacks) := goodIn_app (goodIn_of _ (by decide +kernel)) ggX7_ask_X1_sizeOfBacks
set_option maxRecDepth 20000 in
theorem ggX7_ask_X1_markOfBacks : GoodIn wsX7_ask wsX1_markOfBacks := goodIn_r _ [52, 30, 31, 32, 27, 33, 34, 35, 53, 54, 55, 56, 57, 25, 26, 28, 29, 16, 17, 8, 18, 19, 20, 6, 7, 9, 10, 36, 37, 38, 39, 40, 41, 42, 43, 44, 45, 46, 47, 48, 92, 93, 94, 95, 96, 97, 98] (by decide +kernel) (by decide +kernel)
set_option maxRecDepth 20000 in
theorem gX7_ask_X1_markOfBacks : GoodIn wsX7_ask (wsV RX7 267 RX1 yX1_markOfBacks wsX1_markOfBacks) := goodIn_app (goodIn_of _ (by decide +kernel)) ggX7_ask_X1_markOfBacks
set_option maxRecDepth 20000 in
theorem ggX7_ask_X1_sizeOfHours : GoodIn wsX7_ask wsX1_sizeOfHours := goodIn_r _ [61, 29, 16, 17, 8, 18, 19, 20, 6, 7, 9, 10, 30, 31, 32, 27, 33, 34, 35, 62, 63, 64, 65, 40, 41, 42, 43, 44, 45, 46, 47, 48, 66, 67, 68, 69, 70, 71, 72, 73, 53, 54, 55, 56, 74, 75, 76, 77, 78, 94, 95, 96, 97, 98, 92, 93] (by decide +kernel) (by decide +kernel)
set_option maxRecDepth 20000 in
theorem gX7_ask_X1_sizeOfHours : GoodIn wsX7_ask (wsV RX7 270 RX1 yX1_sizeOfHours wsX1_sizeOfHours) := goodIn_app (goodIn_of _ (by decide +kernel)) ggX7_ask_X1_sizeOfHours
set_option maxRecDepth 20000 in
theorem ggX7_ask_X1_markOfHours : GoodIn wsX7_ask wsX1_markOfHours := goodIn_r _ [69, 29, 16, 17, 8, 18, 19, 20, 6, 7, 9, 10, 30, 31, 32, 27, 33, 34, 35, 70, 71, 72, 73, 53, 54, 55, 56, 74, 75, 76, 77, 78, 94, 95, 96, 97, 98, 92, 93] (by decide +kernel) (by decide +kernel)
set_option maxRecDepth 20000 in
theorem gX7_ask_X1_markOfHours : GoodIn wsX7_ask (wsV RX7 273 RX1 yX1_markOfHours wsX1_markOfHours) := goodIn_app (goodIn_of _ (by decide +kernel)) ggX7_ask_X1_markOfHours
theorem dX7_ask_0 : decode cX7_ask 0 = .ok (.aload_n 0, 1) := by decide +kernel
theorem dX7_ask_1 : decode cX7_ask 1 = .ok (.getfield 26, 3) := by decide +kernel
theorem dX7_ask_4 : decode cX7_ask 4 = .ok (.iload_n 1, 1) := by decide +kernel
theorem dX7_ask_5 : decode cX7_ask 5 = .ok (.invokevirtual 149, 3) := by decide +kernel
theorem dX7_ask_8 : decode cX7_ask 8 = .ok (.ifCond .eq 12, 3) := by decide +kernel
theorem dX7_ask_11 : decode cX7_ask 11 = .ok (.iload_n 2, 1) := by decide +kernel
theorem dX7_ask_12 : decode cX7_ask 12 = .ok (.iconst 0, 1) := by decide +kernel
theorem dX7_ask_13 : decode cX7_ask 13 = .ok (.iconst 1, 1) := by decide +kernel
theorem dX7_ask_14 : decode cX7_ask 14 = .ok (.invokestatic 71, 3) := by decide +kernel
theorem dX7_ask_17 : decode cX7_ask 17 = .ok (.ifCond .ne 6, 3) := by decide +kernel
theorem dX7_ask_20 : decode cX7_ask 20 = .ok (.ldc 75, 2) := by decide +kernel
theorem dX7_ask_22 : decode cX7_ask 22 = .ok (.ireturn, 1) := by decide +kernel
theorem dX7_ask_23 : decode cX7_ask 23 = .ok (.aload_n 0, 1) := by decide +kernel
theorem dX7_ask_24 : decode cX7_ask 24 = .ok (.getfield 63, 3) := by decide +kernel
theorem dX7_ask_27 : decode cX7_ask 27 = .ok (.iconst 0, 1) := by decide +kernel
theorem dX7_ask_28 : decode cX7_ask 28 = .ok (.putfield 262, 3) := by decide +kernel
theorem dX7_ask_31 : decode cX7_ask 31 = .ok (.aload_n 0, 1) := by decide +kernel
theorem dX7_ask_32 : decode cX7_ask 32 = .ok (.getfield 26, 3) := by decide +kernel
theorem dX7_ask_35 : decode cX7_ask 35 = .ok (.iload_n 1, 1) := by decide +kernel
theorem dX7_ask_36 : decode cX7_ask 36 = .ok (.invokevirtual 256, 3) := by decide +kernel
theorem dX7_ask_39 : decode cX7_ask 39 = .ok (.iconst 4, 1) := by decide +kernel
theorem dX7_ask_40 : decode cX7_ask 40 = .ok (.invokestatic 259, 3) := by decide +kernel
theorem dX7_ask_43 : decode cX7_ask 43 = .ok (.ifCond .eq 35, 3) := by decide +kernel
theorem dX7_ask_46 : decode cX7_ask 46 = .ok (.iload_n 2, 1) := by decide +kernel
theorem dX7_ask_47 : decode cX7_ask 47 = .ok (.ifCond .ne 18, 3) := by decide +kernel
theorem dX7_ask_50 : decode cX7_ask 50 = .ok (.aload_n 0, 1) := by decide +kernel
theorem dX7_ask_51 : decode cX7_ask 51 = .ok (.getfield 63, 3) := by decide +kernel
theorem dX7_ask_54 : decode cX7_ask 54 = .ok (.aload_n 0, 1) := by decide +kernel
theorem dX7_ask_55 : decode cX7_ask 55 = .ok (.getfield 26, 3) := by decide +kernel
theorem dX7_ask_58 : decode cX7_ask 58 = .ok (.iload_n 1, 1) := by decide +kernel
theorem dX7_ask_59 : decode cX7_ask 59 = .ok (.invokevirtual 263, 3) := by decide +kernel
theorem dX7_ask_62 : decode cX7_ask 62 = .ok (.goto 15, 3) := by decide +kernel
theorem dX7_ask_65 : decode cX7_ask 65 = .ok (.aload_n 0, 1) := by decide +kernel
theorem dX7_ask_66 : decode cX7_ask 66 = .ok (.getfield 63, 3) := by decide +kernel
theorem dX7_ask_69 : decode cX7_ask 69 = .ok (.aload_n 0, 1) := by decide +kernel
theorem dX7_ask_70 : decode cX7_ask 70 = .ok (.getfield 26, 3) := by decide +kernel
theorem dX7_ask_73 : decode cX7_ask 73 = .ok (.iload_n 1, 1) := by decide +kernel
theorem dX7_ask_74 : decode cX7_ask 74 = .ok (.invokevirtual 267, 3) := by decide +kernel
theorem dX7_ask_77 : decode cX7_ask 77 = .ok (.ireturn, 1) := by decide +kernel
theorem dX7_ask_78 : decode cX7_ask 78 = .ok (.iload_n 2, 1) := by decide +kernel
theorem dX7_ask_79 : decode cX7_ask 79 = .ok (.ifCond .ne 18, 3) := by decide +kernel
theorem dX7_ask_82 : decode cX7_ask 82 = .ok (.aload_n 0, 1) := by decide +kernel
theorem dX7_ask_83 : decode cX7_ask 83 = .ok (.getfield 63, 3) := by decide +kernel
theorem dX7_ask_86 : decode cX7_ask 86 = .ok (.aload_n 0, 1) := by decide +kernel
theorem dX7_ask_87 : decode cX7_ask 87 = .ok (.getfield 26, 3) := by decide +kernel
theorem dX7_ask_90 : decode cX7_ask 90 = .ok (.iload_n 1, 1) := by decide +kernel
theorem dX7_ask_91 : decode cX7_ask 91 = .ok (.invokevirtual 270, 3) := by decide +kernel
theorem dX7_ask_94 : decode cX7_ask 94 = .ok (.goto 15, 3) := by decide +kernel
theorem dX7_ask_97 : decode cX7_ask 97 = .ok (.aload_n 0, 1) := by decide +kernel
theorem dX7_ask_98 : decode cX7_ask 98 = .ok (.getfield 63, 3) := by decide +kernel
theorem dX7_ask_101 : decode cX7_ask 101 = .ok (.aload_n 0, 1) := by decide +kernel
theorem dX7_ask_102 : decode cX7_ask 102 = .ok (.getfield 26, 3) := by decide +kernel
theorem dX7_ask_105 : decode cX7_ask 105 = .ok (.iload_n 1, 1) := by decide +kernel
theorem dX7_ask_106 : decode cX7_ask 106 = .ok (.invokevirtual 273, 3) := by decide +kernel
theorem dX7_ask_109 : decode cX7_ask 109 = .ok (.ireturn, 1) := by decide +kernel
set_option maxRecDepth 20000 in
theorem ggX7_trace_X1_numberAt : GoodIn wsX7_trace wsX1_numberAt := goodIn_r _ [6, 7, 8, 9, 22, 23] (by decide +kernel) (by decide +kernel)
set_option maxRecDepth 20000 in
theorem gX7_trace_X1_numberAt : GoodIn wsX7_trace (wsV RX7 276 RX1 yX1_numberAt wsX1_numberAt) := goodIn_app (goodIn_of _ (by decide +kernel)) ggX7_trace_X1_numberAt
theorem dX7_trace_0 : decode cX7_trace 0 = .ok (.aload_n 0, 1) := by decide +kernel
theorem dX7_trace_1 : decode cX7_trace 1 = .ok (.getfield 63, 3) := by decide +kernel
theorem dX7_trace_4 : decode cX7_trace 4 = .ok (.iload_n 1, 1) := by decide +kernel
theorem dX7_trace_5 : decode cX7_trace 5 = .ok (.invokevirtual 276, 3) := by decide +kernel
theorem dX7_trace_8 : decode cX7_trace 8 = .ok (.ireturn, 1) := by decide +kernel
set_option maxRecDepth 20000 in
theorem ggX7_count_X5_present : GoodIn wsX7_count wsX5_present := goodIn_r _ [14, 15, 16, 17, 13, 18, 19, 20, 21, 22, 23, 24, 25, 26, 68, 69, 70] (by decide +kernel) (by decide +kernel)
set_option maxRecDepth 20000 in
theorem gX7_count_X5_present : GoodIn wsX7_count (wsV RX7 279 RX5 yX5_present wsX5_present) := goodIn_app (goodIn_of _ (by decide +kernel)) ggX7_count_X5_present
set_option maxRecDepth 20000 in
theorem ggX7_count_X2_slippedHands : GoodIn wsX7_count wsX2_slippedHands := goodIn_r _ [31, 32, 33, 34, 35, 30, 36, 37, 38, 39, 40, 41, 54, 55, 56, 57, 58] (by decide +kernel) (by decide +kernel)
set_option maxRecDepth 20000 in
theorem gX7_count_X2_slippedHands : GoodIn wsX7_count (wsV RX7 282 RX2 yX2_slippedHands wsX2_slippedHands) := goodIn_app (goodIn_of _ (by decide +kernel)) ggX7_count_X2_slippedHands
theorem dX7_count_0 : decode cX7_count 0 = .ok (.iload_n 1, 1) := by decide +kernel
theorem dX7_count_1 : decode cX7_count 1 = .ok (.tableswitch 87 0 5 #[39, 47, 55, 63, 71, 79], 39) := by decide +kernel
theorem dX7_count_40 : decode cX7_count 40 = .ok (.aload_n 0, 1) := by decide +kernel
theorem dX7_count_41 : decode cX7_count 41 = .ok (.getfield 10, 3) := by decide +kernel
theorem dX7_count_44 : decode cX7_count 44 = .ok (.invokevirtual 279, 3) := by decide +kernel
theorem dX7_count_47 : decode cX7_count 47 = .ok (.ireturn, 1) := by decide +kernel
theorem dX7_count_48 : decode cX7_count 48 = .ok (.aload_n 0, 1) := by decide +kernel
theorem dX7_count_49 : decode cX7_count 49 = .ok (.getfield 26, 3) := by decide +kernel
theorem dX7_count_52 : decode cX7_count 52 = .ok (.getfield 146, 3) := by decide +kernel
theorem dX7_count_55 : decode cX7_count 55 = .ok (.ireturn, 1) := by decide +kernel
theorem dX7_count_56 : decode cX7_count 56 = .ok (.aload_n 0, 1) := by decide +kernel
theorem dX7_count_57 : decode cX7_count 57 = .ok (.getfield 26, 3) := by decide +kernel
theorem dX7_count_60 : decode cX7_count 60 = .ok (.getfield 159, 3) := by decide +kernel
theorem dX7_count_63 : decode cX7_count 63 = .ok (.ireturn, 1) := by decide +kernel
theorem dX7_count_64 : decode cX7_count 64 = .ok (.aload_n 0, 1) := by decide +kernel
theorem dX7_count_65 : decode cX7_count 65 = .ok (.getfield 26, 3) := by decide +kernel
theorem dX7_count_68 : decode cX7_count 68 = .ok (.invokevirtual 282, 3) := by decide +kernel
theorem dX7_count_71 : decode cX7_count 71 = .ok (.ireturn, 1) := by decide +kernel
theorem dX7_count_72 : decode cX7_count 72 = .ok (.aload_n 0, 1) := by decide +kernel
theorem dX7_count_73 : decode cX7_count 73 = .ok (.getfield 42, 3) := by decide +kernel
theorem dX7_count_76 : decode cX7_count 76 = .ok (.getfield 145, 3) := by decide +kernel
theorem dX7_count_79 : decode cX7_count 79 = .ok (.ireturn, 1) := by decide +kernel
theorem dX7_count_80 : decode cX7_count 80 = .ok (.aload_n 0, 1) := by decide +kernel
theorem dX7_count_81 : decode cX7_count 81 = .ok (.getfield 19, 3) := by decide +kernel
theorem dX7_count_84 : decode cX7_count 84 = .ok (.getfield 125, 3) := by decide +kernel
theorem dX7_count_87 : decode cX7_count 87 = .ok (.ireturn, 1) := by decide +kernel
theorem dX7_count_88 : decode cX7_count 88 = .ok (.ldc 75, 2) := by decide +kernel
theorem dX7_count_90 : decode cX7_count 90 = .ok (.ireturn, 1) := by decide +kernel
theorem dX7_status_0 : decode cX7_status 0 = .ok (.aload_n 0, 1) := by decide +kernel
theorem dX7_status_1 : decode cX7_status 1 = .ok (.getfield 285, 3) := by decide +kernel
theorem dX7_status_4 : decode cX7_status 4 = .ok (.ireturn, 1) := by decide +kernel
theorem dX7_found_0 : decode cX7_found 0 = .ok (.aload_n 0, 1) := by decide +kernel
theorem dX7_found_1 : decode cX7_found 1 = .ok (.iload_n 1, 1) := by decide +kernel
theorem dX7_found_2 : decode cX7_found 2 = .ok (.putfield 285, 3) := by decide +kernel
theorem dX7_found_5 : decode cX7_found 5 = .ok (.ldc_w 288, 3) := by decide +kernel
theorem dX7_found_8 : decode cX7_found 8 = .ok (.iload_n 1, 1) := by decide +kernel
theorem dX7_found_9 : decode cX7_found 9 = .ok (.isub, 1) := by decide +kernel
theorem dX7_found_10 : decode cX7_found 10 = .ok (.ireturn, 1) := by decide +kernel
theorem dX7_fine_0 : decode cX7_fine 0 = .ok (.aload_n 0, 1) := by decide +kernel
theorem dX7_fine_1 : decode cX7_fine 1 = .ok (.iconst 0, 1) := by decide +kernel
theorem dX7_fine_2 : decode cX7_fine 2 = .ok (.putfield 285, 3) := by decide +kernel
theorem dX7_fine_5 : decode cX7_fine 5 = .ok (.iload_n 1, 1) := by decide +kernel
theorem dX7_fine_6 : decode cX7_fine 6 = .ok (.ireturn, 1) := by decide +kernel
set_option maxRecDepth 20000 in
theorem ggX7_isPair_X2_has : GoodIn wsX7_isPair wsX2_has := goodIn_r _ [6, 7, 20, 21, 22, 23, 24] (by decide +kernel) (by decide +kernel)
set_option maxRecDepth 20000 in
theorem gX7_isPair_X2_has : GoodIn wsX7_isPair (wsV RX7 149 RX2 yX2_has wsX2_has) := goodIn_app (goodIn_of _ (by decide +kernel)) ggX7_isPair_X2_has
theorem dX7_isPair_0 : decode cX7_isPair 0 = .ok (.aload_n 0, 1) := by decide +kernel
theorem dX7_isPair_1 : decode cX7_isPair 1 = .ok (.getfield 26, 3) := by decide +kernel
theorem dX7_isPair_4 : decode cX7_isPair 4 = .ok (.iload_n 1, 1) := by decide +kernel
theorem dX7_isPair_5 : decode cX7_isPair 5 = .ok (.invokevirtual 149, 3) := by decide +kernel
theorem dX7_isPair_8 : decode cX7_isPair 8 = .ok (.ifCond .eq 23, 3) := by decide +kernel
theorem dX7_isPair_11 : decode cX7_isPair 11 = .ok (.aload_n 0, 1) := by decide +kernel
theorem dX7_isPair_12 : decode cX7_isPair 12 = .ok (.getfield 26, 3) := by decide +kernel
theorem dX7_isPair_15 : decode cX7_isPair 15 = .ok (.iload_n 2, 1) := by decide +kernel
theorem dX7_isPair_16 : decode cX7_isPair 16 = .ok (.invokevirtual 149, 3) := by decide +kernel
theorem dX7_isPair_19 : decode cX7_isPair 19 = .ok (.ifCond .eq 12, 3) := by decide +kernel
theorem dX7_isPair_22 : decode cX7_isPair 22 = .ok (.iload_n 1, 1) := by decide +kernel
theorem dX7_isPair_23 : decode cX7_isPair 23 = .ok (.iload_n 2, 1) := by decide +kernel
theorem dX7_isPair_24 : decode cX7_isPair 24 = .ok (.if_icmp .eq 7, 3) := by decide +kernel
theorem dX7_isPair_27 : decode cX7_isPair 27 = .ok (.iconst 1, 1) := by decide +kernel
theorem dX7_isPair_28 : decode cX7_isPair 28 = .ok (.goto 4, 3) := by decide +kernel
theorem dX7_isPair_31 : decode cX7_isPair 31 = .ok (.iconst 0, 1) := by decide +kernel
theorem dX7_isPair_32 : decode cX7_isPair 32 = .ok (.ireturn, 1) := by decide +kernel
set_option maxRecDepth 20000 in
theorem ggX7_speedApart_X2_speedOf : GoodIn wsX7_speedApart wsX2_speedOf := goodIn_r _ [10, 11, 12, 13, 9, 14, 15, 16, 17, 18, 19, 20, 21, 22, 23, 24, 25, 38, 39, 40, 41, 42] (by decide +kernel) (by decide +kernel)
set_option maxRecDepth 20000 in
theorem gX7_speedApart_X2_speedOf : GoodIn wsX7_speedApart (wsV RX7 179 RX2 yX2_speedOf wsX2_speedOf) := goodIn_app (goodIn_of _ (by decide +kernel)) ggX7_speedApart_X2_speedOf
theorem dX7_speedApart_0 : decode cX7_speedApart 0 = .ok (.aload_n 0, 1) := by decide +kernel
theorem dX7_speedApart_1 : decode cX7_speedApart 1 = .ok (.getfield 26, 3) := by decide +kernel
theorem dX7_speedApart_4 : decode cX7_speedApart 4 = .ok (.iload_n 1, 1) := by decide +kernel
theorem dX7_speedApart_5 : decode cX7_speedApart 5 = .ok (.invokevirtual 179, 3) := by decide +kernel
theorem dX7_speedApart_8 : decode cX7_speedApart 8 = .ok (.aload_n 0, 1) := by decide +kernel
theorem dX7_speedApart_9 : decode cX7_speedApart 9 = .ok (.getfield 26, 3) := by decide +kernel
theorem dX7_speedApart_12 : decode cX7_speedApart 12 = .ok (.iload_n 2, 1) := by decide +kernel
theorem dX7_speedApart_13 : decode cX7_speedApart 13 = .ok (.invokevirtual 179, 3) := by decide +kernel
theorem dX7_speedApart_16 : decode cX7_speedApart 16 = .ok (.isub, 1) := by decide +kernel
theorem dX7_speedApart_17 : decode cX7_speedApart 17 = .ok (.invokestatic 289, 3) := by decide +kernel
theorem dX7_speedApart_20 : decode cX7_speedApart 20 = .ok (.ireturn, 1) := by decide +kernel
theorem dX7_imageOf_0 : decode cX7_imageOf 0 = .ok (.iload_n 1, 1) := by decide +kernel
theorem dX7_imageOf_1 : decode cX7_imageOf 1 = .ok (.ifCond .ne 10, 3) := by decide +kernel
theorem dX7_imageOf_4 : decode cX7_imageOf 4 = .ok (.aload_n 0, 1) := by decide +kernel
theorem dX7_imageOf_5 : decode cX7_imageOf 5 = .ok (.getfield 33, 3) := by decide +kernel
theorem dX7_imageOf_8 : decode cX7_imageOf 8 = .ok (.goto 7, 3) := by decide +kernel
theorem dX7_imageOf_11 : decode cX7_imageOf 11 = .ok (.aload_n 0, 1) := by decide +kernel
theorem dX7_imageOf_12 : decode cX7_imageOf 12 = .ok (.getfield 36, 3) := by decide +kernel
theorem dX7_imageOf_15 : decode cX7_imageOf 15 = .ok (.areturn, 1) := by decide +kernel
set_option maxRecDepth 20000 in
theorem ggX7_lieOfReading_X4_fitsWithout : GoodIn wsX7_lieOfReading wsX4_fitsWithout := goodIn_r _ [7, 8, 9, 10, 11, 12, 13, 14, 15, 6, 16, 17, 18, 19, 20, 21, 22, 23, 24, 25, 26, 27, 28, 29, 30, 31, 32, 33, 34, 35, 36, 37, 38, 39, 40, 41, 76, 77, 78, 79] (by decide +kernel) (by decide +kernel)
set_option maxRecDepth 20000 in
theorem gX7_lieOfReading_X4_fitsWithout : GoodIn wsX7_lieOfReading (wsV RX7 294 RX4 yX4_fitsWithout wsX4_fitsWithout) := goodIn_app (goodIn_of _ (by decide +kernel)) ggX7_lieOfReading_X4_fitsWithout
set_option maxRecDepth 20000 in
theorem ggX7_lieOfReading_X4_moved : GoodIn wsX7_lieOfReading wsX4_moved := goodIn_r _ [45, 8, 46, 4, 5, 6, 7, 9, 10, 11, 12, 13, 14, 15, 16, 17, 18, 19, 20, 21, 22, 23, 24, 25, 26, 27, 28, 29, 30, 31, 32, 33, 34, 35, 36, 37, 38, 39, 40, 41, 76, 77, 78, 79] (by decide +kernel) (by decide +kernel)
set_option maxRecDepth 20000 in
theorem gX7_lieOfReading_X4_moved : GoodIn wsX7_lieOfReading (wsV RX7 297 RX4 yX4_moved wsX4_moved) := goodIn_app (goodIn_of _ (by decide +kernel)) ggX7_lieOfReading_X4_moved
set_option maxRecDepth 20000 in
theorem ggX7_lieOfReading_X4_leastMove : GoodIn wsX7_lieOfReading wsX4_leastMove := goodIn_r _ [50, 8, 9, 10, 11, 12, 27, 28, 29, 13, 14, 15, 6, 16, 17, 18, 19, 20, 21, 22, 23, 24, 25, 26, 30, 31, 32, 33, 34, 35, 36, 37, 38, 39, 40, 41, 76, 77, 78, 79] (by decide +kernel) (by decide +kernel)
set_option maxRecDepth 20000 in
theorem gX7_lieOfReading_X4_leastMove : GoodIn wsX7_lieOfReading (wsV RX7 300 RX4 yX4_leastMove wsX4_leastMove) := goodIn_app (goodIn_of _ (by decide +kernel)) ggX7_lieOfReading_X4_leastMove
set_option maxRecDepth 20000 in
theorem ggX7_lieOfReading_X4_whole : GoodIn wsX7_lieOfReading wsX4_whole := goodIn_r _ [54, 9, 10, 11, 12, 26, 55, 56, 57, 13, 14, 15, 6, 16, 17, 76, 77, 78, 79] (by decide +kernel) (by decide +kernel)
set_option maxRecDepth 20000 in
theorem gX7_lieOfReading_X4_whole : GoodIn wsX7_lieOfReading (wsV RX7 303 RX4 yX4_whole wsX4_whole) := goodIn_app (goodIn_of _ (by decide +kernel)) ggX7_lieOfReading_X4_whole
set_option maxRecDepth 20000 in
theorem ggX7_lieOfReading_X7_part : GoodIn wsX7_lieOfReading wsX7_part := goodIn_r _ [60, 61, 62, 36, 63] (by decide +kernel) (by decide +kernel)
set_option maxRecDepth 20000 in
theorem gX7_lieOfReading_X7_part : GoodIn wsX7_lieOfReading (va_wsS RX7 192 yX7_part wsX7_part) := goodIn_app (goodIn_of _ (by decide +kernel)) ggX7_lieOfReading_X7_part
theorem dX7_lieOfReading_0 : decode cX7_lieOfReading 0 = .ok (.iload_n 1, 1) := by decide +kernel
theorem dX7_lieOfReading_1 : decode cX7_lieOfReading 1 = .ok (.ifCond .ne 20, 3) := by decide +kernel
theorem dX7_lieOfReading_4 : decode cX7_lieOfReading 4 = .ok (.aload_n 0, 1) := by decide +kernel
theorem dX7_lieOfReading_5 : decode cX7_lieOfReading 5 = .ok (.getfield 56, 3) := by decide +kernel
theorem dX7_lieOfReading_8 : decode cX7_lieOfReading 8 = .ok (.iconst (-1), 1) := by decide +kernel
theorem dX7_lieOfReading_9 : decode cX7_lieOfReading 9 = .ok (.invokevirtual 294, 3) := by decide +kernel
theorem dX7_lieOfReading_12 : decode cX7_lieOfReading 12 = .ok (.ifCond .eq 7, 3) := by decide +kernel
theorem dX7_lieOfReading_15 : decode cX7_lieOfReading 15 = .ok (.iconst 1, 1) := by decide +kernel
theorem dX7_lieOfReading_16 : decode cX7_lieOfReading 16 = .ok (.goto 4, 3) := by decide +kernel
theorem dX7_lieOfReading_19 : decode cX7_lieOfReading 19 = .ok (.iconst 0, 1) := by decide +kernel
theorem dX7_lieOfReading_20 : decode cX7_lieOfReading 20 = .ok (.ireturn, 1) := by decide +kernel
theorem dX7_lieOfReading_21 : decode cX7_lieOfReading 21 = .ok (.iload_n 1, 1) := by decide +kernel
theorem dX7_lieOfReading_22 : decode cX7_lieOfReading 22 = .ok (.iconst 1, 1) := by decide +kernel
theorem dX7_lieOfReading_23 : decode cX7_lieOfReading 23 = .ok (.if_icmp .ne 11, 3) := by decide +kernel
theorem dX7_lieOfReading_26 : decode cX7_lieOfReading 26 = .ok (.aload_n 0, 1) := by decide +kernel
theorem dX7_lieOfReading_27 : decode cX7_lieOfReading 27 = .ok (.getfield 56, 3) := by decide +kernel
theorem dX7_lieOfReading_30 : decode cX7_lieOfReading 30 = .ok (.invokevirtual 297, 3) := by decide +kernel
theorem dX7_lieOfReading_33 : decode cX7_lieOfReading 33 = .ok (.ireturn, 1) := by decide +kernel
theorem dX7_lieOfReading_34 : decode cX7_lieOfReading 34 = .ok (.aload_n 0, 1) := by decide +kernel
theorem dX7_lieOfReading_35 : decode cX7_lieOfReading 35 = .ok (.getfield 56, 3) := by decide +kernel
theorem dX7_lieOfReading_38 : decode cX7_lieOfReading 38 = .ok (.invokevirtual 300, 3) := by decide +kernel
theorem dX7_lieOfReading_41 : decode cX7_lieOfReading 41 = .ok (.istore_n 2, 1) := by decide +kernel
theorem dX7_lieOfReading_42 : decode cX7_lieOfReading 42 = .ok (.iload_n 2, 1) := by decide +kernel
theorem dX7_lieOfReading_43 : decode cX7_lieOfReading 43 = .ok (.ifCond .ge 8, 3) := by decide +kernel
theorem dX7_lieOfReading_46 : decode cX7_lieOfReading 46 = .ok (.ldc 205, 2) := by decide +kernel
theorem dX7_lieOfReading_48 : decode cX7_lieOfReading 48 = .ok (.goto 17, 3) := by decide +kernel
theorem dX7_lieOfReading_51 : decode cX7_lieOfReading 51 = .ok (.iload_n 2, 1) := by decide +kernel
theorem dX7_lieOfReading_52 : decode cX7_lieOfReading 52 = .ok (.aload_n 0, 1) := by decide +kernel
theorem dX7_lieOfReading_53 : decode cX7_lieOfReading 53 = .ok (.getfield 56, 3) := by decide +kernel
theorem dX7_lieOfReading_56 : decode cX7_lieOfReading 56 = .ok (.invokevirtual 303, 3) := by decide +kernel
theorem dX7_lieOfReading_59 : decode cX7_lieOfReading 59 = .ok (.iload_n 1, 1) := by decide +kernel
theorem dX7_lieOfReading_60 : decode cX7_lieOfReading 60 = .ok (.iconst 2, 1) := by decide +kernel
theorem dX7_lieOfReading_61 : decode cX7_lieOfReading 61 = .ok (.isub, 1) := by decide +kernel
theorem dX7_lieOfReading_62 : decode cX7_lieOfReading 62 = .ok (.invokestatic 192, 3) := by decide +kernel
theorem dX7_lieOfReading_65 : decode cX7_lieOfReading 65 = .ok (.ireturn, 1) := by decide +kernel
set_option maxRecDepth 20000 in
theorem ggX7_firstLieOf_X4_take : GoodIn wsX7_firstLieOf wsX4_take := goodIn_r _ [10, 11, 12, 13, 14, 15, 16, 17, 18, 19, 20, 21, 22, 23, 24, 25, 26, 27, 28, 29, 30, 31, 32, 33, 34, 35, 36, 37, 38, 39, 40, 41, 42, 43, 44, 45, 46, 47, 48, 49, 50, 51, 52, 53, 54, 55, 56, 57, 99, 100, 101, 102, 103, 104, 105, 106, 107, 108, 109, 110] (by decide +kernel) (by decide +kernel)
set_option maxRecDepth 20000 in
theorem gX7_firstLieOf_X4_take : GoodIn wsX7_firstLieOf (wsV RX7 239 RX4 yX4_take wsX4_take) := goodIn_app (goodIn_of _ (by decide +kernel)) ggX7_firstLieOf_X4_take
set_option maxRecDepth 20000 in
theorem ggX7_firstLieOf_X4_fitsWithout : GoodIn wsX7_firstLieOf wsX4_fitsWithout := goodIn_r _ [61, 16, 62, 63, 14, 64, 65, 66, 67, 9, 68, 19, 69, 70, 71, 72, 73, 74, 75, 76, 17, 12, 13, 15, 77, 78, 79, 80, 18, 81, 27, 82, 83, 84, 85, 86, 104, 105, 106, 107] (by decide +kernel) (by decide +kernel)
set_option maxRecDepth 20000 in
theorem gX7_firstLieOf_X4_fitsWithout : GoodIn wsX7_firstLieOf (wsV RX7 294 RX4 yX4_fitsWithout wsX4_fitsWithout) := goodIn_app (goodIn_of _ (by decide +kernel)) ggX7_firstLieOf_X4_fitsWithout
theorem dX7_firstLieOf_0 : decode cX7_firstLieOf 0 = .ok (.iconst 0, 1) := by decide +kernel
theorem dX7_firstLieOf_1 : decode cX7_firstLieOf 1 = .ok (.istore 4, 2) := by decide +kernel
theorem dX7_firstLieOf_3 : decode cX7_firstLieOf 3 = .ok (.iload 4, 2) := by decide +kernel
theorem dX7_firstLieOf_5 : decode cX7_firstLieOf 5 = .ok (.iload_n 2, 1) := by decide +kernel
theorem dX7_firstLieOf_6 : decode cX7_firstLieOf 6 = .ok (.if_icmp .ge 50, 3) := by decide +kernel
theorem dX7_firstLieOf_9 : decode cX7_firstLieOf 9 = .ok (.aload_n 0, 1) := by decide +kernel
theorem dX7_firstLieOf_10 : decode cX7_firstLieOf 10 = .ok (.getfield 56, 3) := by decide +kernel
theorem dX7_firstLieOf_13 : decode cX7_firstLieOf 13 = .ok (.aload_n 0, 1) := by decide +kernel
theorem dX7_firstLieOf_14 : decode cX7_firstLieOf 14 = .ok (.getfield 26, 3) := by decide +kernel
theorem dX7_firstLieOf_17 : decode cX7_firstLieOf 17 = .ok (.aload_n 0, 1) := by decide +kernel
theorem dX7_firstLieOf_18 : decode cX7_firstLieOf 18 = .ok (.getfield 10, 3) := by decide +kernel
theorem dX7_firstLieOf_21 : decode cX7_firstLieOf 21 = .ok (.iload_n 1, 1) := by decide +kernel
theorem dX7_firstLieOf_22 : decode cX7_firstLieOf 22 = .ok (.iload 4, 2) := by decide +kernel
theorem dX7_firstLieOf_24 : decode cX7_firstLieOf 24 = .ok (.aload_n 0, 1) := by decide +kernel
theorem dX7_firstLieOf_25 : decode cX7_firstLieOf 25 = .ok (.getfield 26, 3) := by decide +kernel
theorem dX7_firstLieOf_28 : decode cX7_firstLieOf 28 = .ok (.getfield 146, 3) := by decide +kernel
theorem dX7_firstLieOf_31 : decode cX7_firstLieOf 31 = .ok (.imul, 1) := by decide +kernel
theorem dX7_firstLieOf_32 : decode cX7_firstLieOf 32 = .ok (.iload_n 3, 1) := by decide +kernel
theorem dX7_firstLieOf_33 : decode cX7_firstLieOf 33 = .ok (.invokevirtual 239, 3) := by decide +kernel
theorem dX7_firstLieOf_36 : decode cX7_firstLieOf 36 = .ok (.aload_n 0, 1) := by decide +kernel
theorem dX7_firstLieOf_37 : decode cX7_firstLieOf 37 = .ok (.getfield 56, 3) := by decide +kernel
theorem dX7_firstLieOf_40 : decode cX7_firstLieOf 40 = .ok (.iconst (-1), 1) := by decide +kernel
theorem dX7_firstLieOf_41 : decode cX7_firstLieOf 41 = .ok (.invokevirtual 294, 3) := by decide +kernel
theorem dX7_firstLieOf_44 : decode cX7_firstLieOf 44 = .ok (.ifCond .ne 6, 3) := by decide +kernel
theorem dX7_firstLieOf_47 : decode cX7_firstLieOf 47 = .ok (.iload 4, 2) := by decide +kernel
theorem dX7_firstLieOf_49 : decode cX7_firstLieOf 49 = .ok (.ireturn, 1) := by decide +kernel
theorem dX7_firstLieOf_50 : decode cX7_firstLieOf 50 = .ok (.iinc 4 1, 3) := by decide +kernel
theorem dX7_firstLieOf_53 : decode cX7_firstLieOf 53 = .ok (.goto (-50), 3) := by decide +kernel
theorem dX7_firstLieOf_56 : decode cX7_firstLieOf 56 = .ok (.ldc 205, 2) := by decide +kernel
theorem dX7_firstLieOf_58 : decode cX7_firstLieOf 58 = .ok (.ireturn, 1) := by decide +kernel
set_option maxRecDepth 20000 in
theorem ggX7_trueInGlass_X2_arcAbove : GoodIn wsX7_trueInGlass wsX2_arcAbove := goodIn_r _ [7, 8, 9, 10, 11, 6, 12, 13, 14, 15, 16, 17, 18, 19, 20, 21, 22, 23, 24, 25, 26, 27, 28, 29, 30, 31, 32, 33, 34, 35, 36, 37, 38, 39, 40, 41, 42, 43, 58, 59, 60, 61, 62] (by decide +kernel) (by decide +kernel)
set_option maxRecDepth 20000 in
theorem gX7_trueInGlass_X2_arcAbove : GoodIn wsX7_trueInGlass (wsV RX7 186 RX2 yX2_arcAbove wsX2_arcAbove) := goodIn_app (goodIn_of _ (by decide +kernel)) ggX7_trueInGlass_X2_arcAbove
set_option maxRecDepth 20000 in
theorem ggX7_trueInGlass_X2_arcBelow : GoodIn wsX7_trueInGlass wsX2_arcBelow := goodIn_r _ [36, 8, 58, 59, 60, 61, 62] (by decide +kernel) (by decide +kernel)
set_option maxRecDepth 20000 in
theorem gX7_trueInGlass_X2_arcBelow : GoodIn wsX7_trueInGlass (wsV RX7 189 RX2 yX2_arcBelow wsX2_arcBelow) := goodIn_app (goodIn_of _ (by decide +kernel)) ggX7_trueInGlass_X2_arcBelow
set_option maxRecDepth 20000 in
theorem ggX7_trueInGlass_X7_rest : GoodIn wsX7_trueInGlass wsX7_rest := goodIn_r _ [39, 40, 41, 42, 43] (by decide +kernel) (by decide +kernel)
set_option maxRecDepth 20000 in
theorem gX7_trueInGlass_X7_rest : GoodIn wsX7_trueInGlass (va_wsS RX7 162 yX7_rest wsX7_rest) := goodIn_app (goodIn_of _ (by decide +kernel)) ggX7_trueInGlass_X7_rest
theorem dX7_trueInGlass_0 : decode cX7_trueInGlass 0 = .ok (.iconst 0, 1) := by decide +kernel
theorem dX7_trueInGlass_1 : decode cX7_trueInGlass 1 = .ok (.istore_n 3, 1) := by decide +kernel
theorem dX7_trueInGlass_2 : decode cX7_trueInGlass 2 = .ok (.iconst 0, 1) := by decide +kernel
theorem dX7_trueInGlass_3 : decode cX7_trueInGlass 3 = .ok (.istore 4, 2) := by decide +kernel
theorem dX7_trueInGlass_5 : decode cX7_trueInGlass 5 = .ok (.iload 4, 2) := by decide +kernel
theorem dX7_trueInGlass_7 : decode cX7_trueInGlass 7 = .ok (.aload_n 0, 1) := by decide +kernel
theorem dX7_trueInGlass_8 : decode cX7_trueInGlass 8 = .ok (.getfield 26, 3) := by decide +kernel
theorem dX7_trueInGlass_11 : decode cX7_trueInGlass 11 = .ok (.getfield 146, 3) := by decide +kernel
theorem dX7_trueInGlass_14 : decode cX7_trueInGlass 14 = .ok (.if_icmp .ge 43, 3) := by decide +kernel
theorem dX7_trueInGlass_17 : decode cX7_trueInGlass 17 = .ok (.iconst 2, 1) := by decide +kernel
theorem dX7_trueInGlass_18 : decode cX7_trueInGlass 18 = .ok (.aload_n 0, 1) := by decide +kernel
theorem dX7_trueInGlass_19 : decode cX7_trueInGlass 19 = .ok (.getfield 26, 3) := by decide +kernel
theorem dX7_trueInGlass_22 : decode cX7_trueInGlass 22 = .ok (.iload 4, 2) := by decide +kernel
theorem dX7_trueInGlass_24 : decode cX7_trueInGlass 24 = .ok (.iload_n 1, 1) := by decide +kernel
theorem dX7_trueInGlass_25 : decode cX7_trueInGlass 25 = .ok (.iload_n 2, 1) := by decide +kernel
theorem dX7_trueInGlass_26 : decode cX7_trueInGlass 26 = .ok (.invokevirtual 186, 3) := by decide +kernel
theorem dX7_trueInGlass_29 : decode cX7_trueInGlass 29 = .ok (.imul, 1) := by decide +kernel
theorem dX7_trueInGlass_30 : decode cX7_trueInGlass 30 = .ok (.aload_n 0, 1) := by decide +kernel
theorem dX7_trueInGlass_31 : decode cX7_trueInGlass 31 = .ok (.getfield 26, 3) := by decide +kernel
theorem dX7_trueInGlass_34 : decode cX7_trueInGlass 34 = .ok (.iload_n 2, 1) := by decide +kernel
theorem dX7_trueInGlass_35 : decode cX7_trueInGlass 35 = .ok (.invokevirtual 189, 3) := by decide +kernel
theorem dX7_trueInGlass_38 : decode cX7_trueInGlass 38 = .ok (.invokestatic 162, 3) := by decide +kernel
theorem dX7_trueInGlass_41 : decode cX7_trueInGlass 41 = .ok (.ifCond .ne 10, 3) := by decide +kernel
theorem dX7_trueInGlass_44 : decode cX7_trueInGlass 44 = .ok (.iload_n 3, 1) := by decide +kernel
theorem dX7_trueInGlass_45 : decode cX7_trueInGlass 45 = .ok (.iconst 1, 1) := by decide +kernel
theorem dX7_trueInGlass_46 : decode cX7_trueInGlass 46 = .ok (.iload 4, 2) := by decide +kernel
theorem dX7_trueInGlass_48 : decode cX7_trueInGlass 48 = .ok (.ishl, 1) := by decide +kernel
theorem dX7_trueInGlass_49 : decode cX7_trueInGlass 49 = .ok (.ior, 1) := by decide +kernel
theorem dX7_trueInGlass_50 : decode cX7_trueInGlass 50 = .ok (.istore_n 3, 1) := by decide +kernel
theorem dX7_trueInGlass_51 : decode cX7_trueInGlass 51 = .ok (.iinc 4 1, 3) := by decide +kernel
theorem dX7_trueInGlass_54 : decode cX7_trueInGlass 54 = .ok (.goto (-49), 3) := by decide +kernel
theorem dX7_trueInGlass_57 : decode cX7_trueInGlass 57 = .ok (.iload_n 3, 1) := by decide +kernel
theorem dX7_trueInGlass_58 : decode cX7_trueInGlass 58 = .ok (.ireturn, 1) := by decide +kernel
theorem dX7_firstMeeting_0 : decode cX7_firstMeeting 0 = .ok (.iload_n 1, 1) := by decide +kernel
theorem dX7_firstMeeting_1 : decode cX7_firstMeeting 1 = .ok (.ifCond .ne 7, 3) := by decide +kernel
theorem dX7_firstMeeting_4 : decode cX7_firstMeeting 4 = .ok (.iconst 0, 1) := by decide +kernel
theorem dX7_firstMeeting_5 : decode cX7_firstMeeting 5 = .ok (.goto 4, 3) := by decide +kernel
theorem dX7_firstMeeting_8 : decode cX7_firstMeeting 8 = .ok (.iconst 1, 1) := by decide +kernel
theorem dX7_firstMeeting_9 : decode cX7_firstMeeting 9 = .ok (.istore 4, 2) := by decide +kernel
theorem dX7_firstMeeting_11 : decode cX7_firstMeeting 11 = .ok (.iload_n 3, 1) := by decide +kernel
theorem dX7_firstMeeting_12 : decode cX7_firstMeeting 12 = .ok (.iconst 1, 1) := by decide +kernel
theorem dX7_firstMeeting_13 : decode cX7_firstMeeting 13 = .ok (.if_icmp .ge 6, 3) := by decide +kernel
theorem dX7_firstMeeting_16 : decode cX7_firstMeeting 16 = .ok (.iload 4, 2) := by decide +kernel
theorem dX7_firstMeeting_18 : decode cX7_firstMeeting 18 = .ok (.ireturn, 1) := by decide +kernel
theorem dX7_firstMeeting_19 : decode cX7_firstMeeting 19 = .ok (.iload_n 0, 1) := by decide +kernel
theorem dX7_firstMeeting_20 : decode cX7_firstMeeting 20 = .ok (.iload_n 2, 1) := by decide +kernel
theorem dX7_firstMeeting_21 : decode cX7_firstMeeting 21 = .ok (.imul, 1) := by decide +kernel
theorem dX7_firstMeeting_22 : decode cX7_firstMeeting 22 = .ok (.iload_n 3, 1) := by decide +kernel
theorem dX7_firstMeeting_23 : decode cX7_firstMeeting 23 = .ok (.iadd, 1) := by decide +kernel
theorem dX7_firstMeeting_24 : decode cX7_firstMeeting 24 = .ok (.iconst 1, 1) := by decide +kernel
