set_option maxRecDepth 20000 in
theorem ggL_areShares_X0_current : GoodIn wsL_areShares wsX0_current := goodIn_r _ [5, 6, 7, 136, 137, 138, 139, 140, 141, 142, 143, 144, 145, 146, 147, 148, 149, 150] (by decide +kernel) (by decide +kernel)
set_option maxRecDepth 20000 in
theorem gL_areShares_X0_current : GoodIn wsL_areShares (wsV RL 86 RX0 yX0_current wsX0_current) := goodIn_app (goodIn_of _ (by decide +kernel)) ggL_areShares_X0_current
set_option maxRecDepth 20000 in
theorem ggL_areShares_X0_total : GoodIn wsL_areShares wsX0_total := goodIn_r _ [11, 12, 136, 137, 138, 139, 140, 141, 142, 143, 144, 145, 146, 147, 148, 149, 150] (by decide +kernel) (by decide +kernel)
set_option maxRecDepth 20000 in
theorem gL_areShares_X0_total : GoodIn wsL_areShares (wsV RL 71 RX0 yX0_total wsX0_total) := goodIn_app (goodIn_of _ (by decide +kernel)) ggL_areShares_X0_total
set_option maxRecDepth 20000 in
theorem ggL_areShares_L_of : GoodIn wsL_areShares wsL_of := goodIn_ca (goodIn_ca (goodIn_ca (goodIn_r _ [16, 17, 18, 19, 20, 21, 22, 4, 23, 12, 24, 25, 26, 27, 28, 29, 30, 31, 32, 33, 34, 35, 36, 37, 38, 39, 40, 41, 42, 43, 44, 45, 46, 47, 48, 49, 50, 51, 52, 53, 54, 55, 56, 57, 58, 59, 60, 61, 62, 63, 6, 64, 65, 66, 67, 68, 69, 70, 71, 72, 73, 74, 75, 2, 3, 5, 7, 76, 9, 10, 11, 77, 78, 79, 80, 81, 82, 83, 84, 85, 86, 87, 88, 89, 90, 91, 92, 93, 94, 95, 96, 97, 98, 99, 100, 101, 102, 103, 104, 105, 106, 107, 108, 109, 110, 111, 112, 113, 114, 115, 116, 117, 118, 119, 120, 121, 122, 123, 124, 125, 126, 127, 128, 136, 137, 138, 139, 140, 141, 142, 143, 144, 145, 146, 147, 148, 149, 150] (by decide +kernel) (by decide +kernel)) (goodIn_sub (fun _ h => List.mem_cons_of_mem _ (List.mem_append_left _ (List.mem_append_left _ (List.mem_append_right _ h)))) (by decide +kernel))) (goodIn_sub (fun _ h => List.mem_cons_of_mem _ (List.mem_append_left _ (List.mem_append_right _ h))) (by decide +kernel))) (goodIn_sub (fun _ h => List.mem_cons_of_mem _ (List.mem_append_right _ h)) (by decide +kernel))
set_option maxRecDepth 20000 in
theorem gL_areShares_L_of : GoodIn wsL_areShares (va_wsS RL 91 yL_of wsL_of) := goodIn_app (goodIn_of _ (by decide +kernel)) ggL_areShares_L_of
set_option maxRecDepth 20000 in
theorem ggL_areShares_X0_in : GoodIn wsL_areShares wsX0_in := goodIn_ca (goodIn_r _ [23, 12, 24, 25, 4, 26, 27, 28, 29, 30, 31, 136, 137, 138, 139, 140, 141, 142, 143, 144, 145, 146, 147, 148, 149, 150] (by decide +kernel) (by decide +kernel)) (goodIn_sub (fun _ h => List.mem_cons_of_mem _ (List.mem_append_left _ (List.mem_append_left _ (List.mem_append_right _ h)))) (by decide +kernel))
set_option maxRecDepth 20000 in
theorem gL_areShares_X0_in : GoodIn wsL_areShares (wsV RL 48 RX0 yX0_in wsX0_in) := goodIn_app (goodIn_of _ (by decide +kernel)) ggL_areShares_X0_in
set_option maxRecDepth 20000 in
theorem ggL_areShares_X0_share : GoodIn wsL_areShares wsX0_share := goodIn_ca (goodIn_ca (goodIn_r _ [62, 63, 6, 64, 24, 25, 4, 26, 27, 28, 29, 30, 31, 65, 66, 67, 68, 69, 70, 71, 72, 73, 74, 75, 2, 3, 5, 7, 76, 9, 10, 11, 12, 77, 78, 79, 80, 81, 82, 83, 136, 137, 138, 139, 140, 141, 142, 143, 144, 145, 146, 147, 148, 149, 150] (by decide +kernel) (by decide +kernel)) (goodIn_sub (fun _ h => List.mem_cons_of_mem _ (List.mem_append_left _ (List.mem_append_left _ (List.mem_append_right _ h)))) (by decide +kernel))) (goodIn_sub (fun _ h => List.mem_cons_of_mem _ (List.mem_append_right _ h)) (by decide +kernel))
set_option maxRecDepth 20000 in
theorem gL_areShares_X0_share : GoodIn wsL_areShares (wsV RL 60 RX0 yX0_share wsX0_share) := goodIn_app (goodIn_of _ (by decide +kernel)) ggL_areShares_X0_share
theorem dL_areShares_0 : decode cL_areShares 0 = .ok (.aload_n 0, 1) := by decide +kernel
theorem dL_areShares_1 : decode cL_areShares 1 = .ok (.invokevirtual 86, 3) := by decide +kernel
theorem dL_areShares_4 : decode cL_areShares 4 = .ok (.istore 5, 2) := by decide +kernel
theorem dL_areShares_6 : decode cL_areShares 6 = .ok (.aload_n 0, 1) := by decide +kernel
theorem dL_areShares_7 : decode cL_areShares 7 = .ok (.invokevirtual 71, 3) := by decide +kernel
theorem dL_areShares_10 : decode cL_areShares 10 = .ok (.i2l, 1) := by decide +kernel
theorem dL_areShares_11 : decode cL_areShares 11 = .ok (.lstore 6, 2) := by decide +kernel
theorem dL_areShares_13 : decode cL_areShares 13 = .ok (.iload 5, 2) := by decide +kernel
theorem dL_areShares_15 : decode cL_areShares 15 = .ok (.ifCond .lt 14, 3) := by decide +kernel
theorem dL_areShares_18 : decode cL_areShares 18 = .ok (.lload 6, 2) := by decide +kernel
theorem dL_areShares_20 : decode cL_areShares 20 = .ok (.aload_n 2, 1) := by decide +kernel
theorem dL_areShares_21 : decode cL_areShares 21 = .ok (.iload 5, 2) := by decide +kernel
theorem dL_areShares_23 : decode cL_areShares 23 = .ok (.iaload, 1) := by decide +kernel
theorem dL_areShares_24 : decode cL_areShares 24 = .ok (.i2l, 1) := by decide +kernel
theorem dL_areShares_25 : decode cL_areShares 25 = .ok (.lcmp, 1) := by decide +kernel
theorem dL_areShares_26 : decode cL_areShares 26 = .ok (.ifCond .ge 79, 3) := by decide +kernel
theorem dL_areShares_29 : decode cL_areShares 29 = .ok (.aload_n 0, 1) := by decide +kernel
theorem dL_areShares_30 : decode cL_areShares 30 = .ok (.iconst 5, 1) := by decide +kernel
theorem dL_areShares_31 : decode cL_areShares 31 = .ok (.iconst 0, 1) := by decide +kernel
theorem dL_areShares_32 : decode cL_areShares 32 = .ok (.invokestatic 91, 3) := by decide +kernel
theorem dL_areShares_35 : decode cL_areShares 35 = .ok (.sipush (-1044), 3) := by decide +kernel
theorem dL_areShares_38 : decode cL_areShares 38 = .ok (.if_icmp .ne 20, 3) := by decide +kernel
theorem dL_areShares_41 : decode cL_areShares 41 = .ok (.aload_n 0, 1) := by decide +kernel
theorem dL_areShares_42 : decode cL_areShares 42 = .ok (.bipush 6, 2) := by decide +kernel
theorem dL_areShares_44 : decode cL_areShares 44 = .ok (.iconst 0, 1) := by decide +kernel
theorem dL_areShares_45 : decode cL_areShares 45 = .ok (.invokestatic 91, 3) := by decide +kernel
theorem dL_areShares_48 : decode cL_areShares 48 = .ok (.sipush (-1044), 3) := by decide +kernel
theorem dL_areShares_51 : decode cL_areShares 51 = .ok (.if_icmp .ne 7, 3) := by decide +kernel
theorem dL_areShares_54 : decode cL_areShares 54 = .ok (.iconst 1, 1) := by decide +kernel
theorem dL_areShares_55 : decode cL_areShares 55 = .ok (.goto 4, 3) := by decide +kernel
theorem dL_areShares_58 : decode cL_areShares 58 = .ok (.iconst 0, 1) := by decide +kernel
theorem dL_areShares_59 : decode cL_areShares 59 = .ok (.istore 8, 2) := by decide +kernel
theorem dL_areShares_61 : decode cL_areShares 61 = .ok (.iconst 0, 1) := by decide +kernel
theorem dL_areShares_62 : decode cL_areShares 62 = .ok (.istore 9, 2) := by decide +kernel
theorem dL_areShares_64 : decode cL_areShares 64 = .ok (.iload 9, 2) := by decide +kernel
theorem dL_areShares_66 : decode cL_areShares 66 = .ok (.bipush 8, 2) := by decide +kernel
theorem dL_areShares_68 : decode cL_areShares 68 = .ok (.if_icmp .ge 34, 3) := by decide +kernel
theorem dL_areShares_71 : decode cL_areShares 71 = .ok (.iload 8, 2) := by decide +kernel
theorem dL_areShares_73 : decode cL_areShares 73 = .ok (.ifCond .eq 29, 3) := by decide +kernel
theorem dL_areShares_76 : decode cL_areShares 76 = .ok (.aload_n 0, 1) := by decide +kernel
theorem dL_areShares_77 : decode cL_areShares 77 = .ok (.iconst 4, 1) := by decide +kernel
theorem dL_areShares_78 : decode cL_areShares 78 = .ok (.iload 9, 2) := by decide +kernel
theorem dL_areShares_80 : decode cL_areShares 80 = .ok (.invokestatic 91, 3) := by decide +kernel
theorem dL_areShares_83 : decode cL_areShares 83 = .ok (.sipush (-1044), 3) := by decide +kernel
theorem dL_areShares_86 : decode cL_areShares 86 = .ok (.if_icmp .ne 7, 3) := by decide +kernel
theorem dL_areShares_89 : decode cL_areShares 89 = .ok (.iconst 1, 1) := by decide +kernel
theorem dL_areShares_90 : decode cL_areShares 90 = .ok (.goto 4, 3) := by decide +kernel
theorem dL_areShares_93 : decode cL_areShares 93 = .ok (.iconst 0, 1) := by decide +kernel
theorem dL_areShares_94 : decode cL_areShares 94 = .ok (.istore 8, 2) := by decide +kernel
theorem dL_areShares_96 : decode cL_areShares 96 = .ok (.iinc 9 1, 3) := by decide +kernel
theorem dL_areShares_99 : decode cL_areShares 99 = .ok (.goto (-35), 3) := by decide +kernel
theorem dL_areShares_102 : decode cL_areShares 102 = .ok (.iload 8, 2) := by decide +kernel
theorem dL_areShares_104 : decode cL_areShares 104 = .ok (.ireturn, 1) := by decide +kernel
theorem dL_areShares_105 : decode cL_areShares 105 = .ok (.iconst 0, 1) := by decide +kernel
theorem dL_areShares_106 : decode cL_areShares 106 = .ok (.istore 8, 2) := by decide +kernel
theorem dL_areShares_108 : decode cL_areShares 108 = .ok (.iconst 0, 1) := by decide +kernel
theorem dL_areShares_109 : decode cL_areShares 109 = .ok (.istore 9, 2) := by decide +kernel
theorem dL_areShares_111 : decode cL_areShares 111 = .ok (.iconst 1, 1) := by decide +kernel
theorem dL_areShares_112 : decode cL_areShares 112 = .ok (.istore 10, 2) := by decide +kernel
theorem dL_areShares_114 : decode cL_areShares 114 = .ok (.iconst 0, 1) := by decide +kernel
theorem dL_areShares_115 : decode cL_areShares 115 = .ok (.istore 11, 2) := by decide +kernel
theorem dL_areShares_117 : decode cL_areShares 117 = .ok (.iload 11, 2) := by decide +kernel
theorem dL_areShares_119 : decode cL_areShares 119 = .ok (.bipush 8, 2) := by decide +kernel
theorem dL_areShares_121 : decode cL_areShares 121 = .ok (.if_icmp .ge 218, 3) := by decide +kernel
theorem dL_areShares_124 : decode cL_areShares 124 = .ok (.iload 10, 2) := by decide +kernel
theorem dL_areShares_126 : decode cL_areShares 126 = .ok (.ifCond .eq 213, 3) := by decide +kernel
theorem dL_areShares_129 : decode cL_areShares 129 = .ok (.aload_n 2, 1) := by decide +kernel
theorem dL_areShares_130 : decode cL_areShares 130 = .ok (.iload 5, 2) := by decide +kernel
theorem dL_areShares_132 : decode cL_areShares 132 = .ok (.iaload, 1) := by decide +kernel
theorem dL_areShares_133 : decode cL_areShares 133 = .ok (.i2l, 1) := by decide +kernel
theorem dL_areShares_134 : decode cL_areShares 134 = .ok (.aload_n 0, 1) := by decide +kernel
theorem dL_areShares_135 : decode cL_areShares 135 = .ok (.iload 11, 2) := by decide +kernel
theorem dL_areShares_137 : decode cL_areShares 137 = .ok (.invokevirtual 48, 3) := by decide +kernel
theorem dL_areShares_140 : decode cL_areShares 140 = .ok (.i2l, 1) := by decide +kernel
theorem dL_areShares_141 : decode cL_areShares 141 = .ok (.lmul, 1) := by decide +kernel
theorem dL_areShares_142 : decode cL_areShares 142 = .ok (.lstore 12, 2) := by decide +kernel
theorem dL_areShares_144 : decode cL_areShares 144 = .ok (.aload 4, 2) := by decide +kernel
theorem dL_areShares_146 : decode cL_areShares 146 = .ok (.iload 11, 2) := by decide +kernel
theorem dL_areShares_148 : decode cL_areShares 148 = .ok (.aload_n 0, 1) := by decide +kernel
theorem dL_areShares_149 : decode cL_areShares 149 = .ok (.iload 11, 2) := by decide +kernel
theorem dL_areShares_151 : decode cL_areShares 151 = .ok (.invokevirtual 60, 3) := by decide +kernel
theorem dL_areShares_154 : decode cL_areShares 154 = .ok (.iastore, 1) := by decide +kernel
theorem dL_areShares_155 : decode cL_areShares 155 = .ok (.iload 8, 2) := by decide +kernel
theorem dL_areShares_157 : decode cL_areShares 157 = .ok (.aload 4, 2) := by decide +kernel
theorem dL_areShares_159 : decode cL_areShares 159 = .ok (.iload 11, 2) := by decide +kernel
theorem dL_areShares_161 : decode cL_areShares 161 = .ok (.iaload, 1) := by decide +kernel
theorem dL_areShares_162 : decode cL_areShares 162 = .ok (.iadd, 1) := by decide +kernel
theorem dL_areShares_163 : decode cL_areShares 163 = .ok (.istore 8, 2) := by decide +kernel
theorem dL_areShares_165 : decode cL_areShares 165 = .ok (.aload 4, 2) := by decide +kernel
theorem dL_areShares_167 : decode cL_areShares 167 = .ok (.iload 11, 2) := by decide +kernel
theorem dL_areShares_169 : decode cL_areShares 169 = .ok (.iaload, 1) := by decide +kernel
theorem dL_areShares_170 : decode cL_areShares 170 = .ok (.i2l, 1) := by decide +kernel
theorem dL_areShares_171 : decode cL_areShares 171 = .ok (.lload 6, 2) := by decide +kernel
theorem dL_areShares_173 : decode cL_areShares 173 = .ok (.lmul, 1) := by decide +kernel
theorem dL_areShares_174 : decode cL_areShares 174 = .ok (.lload 12, 2) := by decide +kernel
theorem dL_areShares_176 : decode cL_areShares 176 = .ok (.lload 12, 2) := by decide +kernel
theorem dL_areShares_178 : decode cL_areShares 178 = .ok (.lload 6, 2) := by decide +kernel
theorem dL_areShares_180 : decode cL_areShares 180 = .ok (.lrem, 1) := by decide +kernel
theorem dL_areShares_181 : decode cL_areShares 181 = .ok (.lsub, 1) := by decide +kernel
theorem dL_areShares_182 : decode cL_areShares 182 = .ok (.lcmp, 1) := by decide +kernel
theorem dL_areShares_183 : decode cL_areShares 183 = .ok (.ifCond .le 7, 3) := by decide +kernel
theorem dL_areShares_186 : decode cL_areShares 186 = .ok (.iconst 1, 1) := by decide +kernel
theorem dL_areShares_187 : decode cL_areShares 187 = .ok (.goto 4, 3) := by decide +kernel
theorem dL_areShares_190 : decode cL_areShares 190 = .ok (.iconst 0, 1) := by decide +kernel
theorem dL_areShares_191 : decode cL_areShares 191 = .ok (.istore 14, 2) := by decide +kernel
theorem dL_areShares_193 : decode cL_areShares 193 = .ok (.aload 4, 2) := by decide +kernel
theorem dL_areShares_195 : decode cL_areShares 195 = .ok (.iload 11, 2) := by decide +kernel
theorem dL_areShares_197 : decode cL_areShares 197 = .ok (.iaload, 1) := by decide +kernel
theorem dL_areShares_198 : decode cL_areShares 198 = .ok (.ifCond .lt 101, 3) := by decide +kernel
theorem dL_areShares_201 : decode cL_areShares 201 = .ok (.aload 4, 2) := by decide +kernel
theorem dL_areShares_203 : decode cL_areShares 203 = .ok (.iload 11, 2) := by decide +kernel
theorem dL_areShares_205 : decode cL_areShares 205 = .ok (.iaload, 1) := by decide +kernel
theorem dL_areShares_206 : decode cL_areShares 206 = .ok (.aload_n 0, 1) := by decide +kernel
theorem dL_areShares_207 : decode cL_areShares 207 = .ok (.iload 11, 2) := by decide +kernel
theorem dL_areShares_209 : decode cL_areShares 209 = .ok (.invokevirtual 48, 3) := by decide +kernel
theorem dL_areShares_212 : decode cL_areShares 212 = .ok (.if_icmp .gt 87, 3) := by decide +kernel
theorem dL_areShares_215 : decode cL_areShares 215 = .ok (.iload 14, 2) := by decide +kernel
theorem dL_areShares_217 : decode cL_areShares 217 = .ok (.ifCond .eq 46, 3) := by decide +kernel
theorem dL_areShares_220 : decode cL_areShares 220 = .ok (.aload 4, 2) := by decide +kernel
theorem dL_areShares_222 : decode cL_areShares 222 = .ok (.iload 11, 2) := by decide +kernel
theorem dL_areShares_224 : decode cL_areShares 224 = .ok (.iaload, 1) := by decide +kernel
theorem dL_areShares_225 : decode cL_areShares 225 = .ok (.iconst 1, 1) := by decide +kernel
theorem dL_areShares_226 : decode cL_areShares 226 = .ok (.isub, 1) := by decide +kernel
theorem dL_areShares_227 : decode cL_areShares 227 = .ok (.i2l, 1) := by decide +kernel
theorem dL_areShares_228 : decode cL_areShares 228 = .ok (.lload 6, 2) := by decide +kernel
theorem dL_areShares_230 : decode cL_areShares 230 = .ok (.lmul, 1) := by decide +kernel
theorem dL_areShares_231 : decode cL_areShares 231 = .ok (.lload 12, 2) := by decide +kernel
theorem dL_areShares_233 : decode cL_areShares 233 = .ok (.lcmp, 1) := by decide +kernel
theorem dL_areShares_234 : decode cL_areShares 234 = .ok (.ifCond .gt 65, 3) := by decide +kernel
theorem dL_areShares_237 : decode cL_areShares 237 = .ok (.aload 4, 2) := by decide +kernel
theorem dL_areShares_239 : decode cL_areShares 239 = .ok (.iload 11, 2) := by decide +kernel
theorem dL_areShares_241 : decode cL_areShares 241 = .ok (.iaload, 1) := by decide +kernel
theorem dL_areShares_242 : decode cL_areShares 242 = .ok (.i2l, 1) := by decide +kernel
theorem dL_areShares_243 : decode cL_areShares 243 = .ok (.lload 6, 2) := by decide +kernel
theorem dL_areShares_245 : decode cL_areShares 245 = .ok (.lmul, 1) := by decide +kernel
theorem dL_areShares_246 : decode cL_areShares 246 = .ok (.lload 12, 2) := by decide +kernel
theorem dL_areShares_248 : decode cL_areShares 248 = .ok (.lload 6, 2) := by decide +kernel
theorem dL_areShares_250 : decode cL_areShares 250 = .ok (.lsub, 1) := by decide +kernel
theorem dL_areShares_251 : decode cL_areShares 251 = .ok (.lcmp, 1) := by decide +kernel
theorem dL_areShares_252 : decode cL_areShares 252 = .ok (.ifCond .le 47, 3) := by decide +kernel
theorem dL_areShares_255 : decode cL_areShares 255 = .ok (.iload 9, 2) := by decide +kernel
theorem dL_areShares_257 : decode cL_areShares 257 = .ok (.ifCond .ne 42, 3) := by decide +kernel
theorem dL_areShares_260 : decode cL_areShares 260 = .ok (.goto 35, 3) := by decide +kernel
theorem dL_areShares_263 : decode cL_areShares 263 = .ok (.aload 4, 2) := by decide +kernel
theorem dL_areShares_265 : decode cL_areShares 265 = .ok (.iload 11, 2) := by decide +kernel
theorem dL_areShares_267 : decode cL_areShares 267 = .ok (.iaload, 1) := by decide +kernel
theorem dL_areShares_268 : decode cL_areShares 268 = .ok (.i2l, 1) := by decide +kernel
theorem dL_areShares_269 : decode cL_areShares 269 = .ok (.lload 6, 2) := by decide +kernel
theorem dL_areShares_271 : decode cL_areShares 271 = .ok (.lmul, 1) := by decide +kernel
theorem dL_areShares_272 : decode cL_areShares 272 = .ok (.lload 12, 2) := by decide +kernel
theorem dL_areShares_274 : decode cL_areShares 274 = .ok (.lcmp, 1) := by decide +kernel
theorem dL_areShares_275 : decode cL_areShares 275 = .ok (.ifCond .gt 24, 3) := by decide +kernel
theorem dL_areShares_278 : decode cL_areShares 278 = .ok (.aload 4, 2) := by decide +kernel
theorem dL_areShares_280 : decode cL_areShares 280 = .ok (.iload 11, 2) := by decide +kernel
theorem dL_areShares_282 : decode cL_areShares 282 = .ok (.iaload, 1) := by decide +kernel
theorem dL_areShares_283 : decode cL_areShares 283 = .ok (.iconst 1, 1) := by decide +kernel
theorem dL_areShares_284 : decode cL_areShares 284 = .ok (.iadd, 1) := by decide +kernel
theorem dL_areShares_285 : decode cL_areShares 285 = .ok (.i2l, 1) := by decide +kernel
theorem dL_areShares_286 : decode cL_areShares 286 = .ok (.lload 6, 2) := by decide +kernel
theorem dL_areShares_288 : decode cL_areShares 288 = .ok (.lmul, 1) := by decide +kernel
theorem dL_areShares_289 : decode cL_areShares 289 = .ok (.lload 12, 2) := by decide +kernel
theorem dL_areShares_291 : decode cL_areShares 291 = .ok (.lcmp, 1) := by decide +kernel
theorem dL_areShares_292 : decode cL_areShares 292 = .ok (.ifCond .le 7, 3) := by decide +kernel
theorem dL_areShares_295 : decode cL_areShares 295 = .ok (.iconst 1, 1) := by decide +kernel
theorem dL_areShares_296 : decode cL_areShares 296 = .ok (.goto 4, 3) := by decide +kernel
theorem dL_areShares_299 : decode cL_areShares 299 = .ok (.iconst 0, 1) := by decide +kernel
theorem dL_areShares_300 : decode cL_areShares 300 = .ok (.istore 10, 2) := by decide +kernel
theorem dL_areShares_302 : decode cL_areShares 302 = .ok (.iload 9, 2) := by decide +kernel
theorem dL_areShares_304 : decode cL_areShares 304 = .ok (.ifCond .ne 22, 3) := by decide +kernel
theorem dL_areShares_307 : decode cL_areShares 307 = .ok (.iload 14, 2) := by decide +kernel
theorem dL_areShares_309 : decode cL_areShares 309 = .ok (.ifCond .ne 21, 3) := by decide +kernel
theorem dL_areShares_312 : decode cL_areShares 312 = .ok (.aload_n 0, 1) := by decide +kernel
theorem dL_areShares_313 : decode cL_areShares 313 = .ok (.iload 11, 2) := by decide +kernel
theorem dL_areShares_315 : decode cL_areShares 315 = .ok (.invokevirtual 48, 3) := by decide +kernel
theorem dL_areShares_318 : decode cL_areShares 318 = .ok (.aload 4, 2) := by decide +kernel
theorem dL_areShares_320 : decode cL_areShares 320 = .ok (.iload 11, 2) := by decide +kernel
theorem dL_areShares_322 : decode cL_areShares 322 = .ok (.iaload, 1) := by decide +kernel
theorem dL_areShares_323 : decode cL_areShares 323 = .ok (.if_icmp .le 7, 3) := by decide +kernel
theorem dL_areShares_326 : decode cL_areShares 326 = .ok (.iconst 1, 1) := by decide +kernel
theorem dL_areShares_327 : decode cL_areShares 327 = .ok (.goto 4, 3) := by decide +kernel
theorem dL_areShares_330 : decode cL_areShares 330 = .ok (.iconst 0, 1) := by decide +kernel
theorem dL_areShares_331 : decode cL_areShares 331 = .ok (.istore 9, 2) := by decide +kernel
theorem dL_areShares_333 : decode cL_areShares 333 = .ok (.iinc 11 1, 3) := by decide +kernel
theorem dL_areShares_336 : decode cL_areShares 336 = .ok (.goto (-219), 3) := by decide +kernel
theorem dL_areShares_339 : decode cL_areShares 339 = .ok (.iload 10, 2) := by decide +kernel
theorem dL_areShares_341 : decode cL_areShares 341 = .ok (.ifCond .eq 30, 3) := by decide +kernel
theorem dL_areShares_344 : decode cL_areShares 344 = .ok (.iload 8, 2) := by decide +kernel
theorem dL_areShares_346 : decode cL_areShares 346 = .ok (.aload_n 2, 1) := by decide +kernel
theorem dL_areShares_347 : decode cL_areShares 347 = .ok (.iload 5, 2) := by decide +kernel
theorem dL_areShares_349 : decode cL_areShares 349 = .ok (.iaload, 1) := by decide +kernel
theorem dL_areShares_350 : decode cL_areShares 350 = .ok (.if_icmp .ne 21, 3) := by decide +kernel
theorem dL_areShares_353 : decode cL_areShares 353 = .ok (.aload_n 0, 1) := by decide +kernel
theorem dL_areShares_354 : decode cL_areShares 354 = .ok (.aload_n 1, 1) := by decide +kernel
theorem dL_areShares_355 : decode cL_areShares 355 = .ok (.aload 4, 2) := by decide +kernel
theorem dL_areShares_357 : decode cL_areShares 357 = .ok (.aload_n 2, 1) := by decide +kernel
theorem dL_areShares_358 : decode cL_areShares 358 = .ok (.iload 5, 2) := by decide +kernel
theorem dL_areShares_360 : decode cL_areShares 360 = .ok (.iaload, 1) := by decide +kernel
theorem dL_areShares_361 : decode cL_areShares 361 = .ok (.invokestatic 103, 3) := by decide +kernel
theorem dL_areShares_364 : decode cL_areShares 364 = .ok (.ifCond .eq 7, 3) := by decide +kernel
theorem dL_areShares_367 : decode cL_areShares 367 = .ok (.iconst 1, 1) := by decide +kernel
theorem dL_areShares_368 : decode cL_areShares 368 = .ok (.goto 4, 3) := by decide +kernel
theorem dL_areShares_371 : decode cL_areShares 371 = .ok (.iconst 0, 1) := by decide +kernel
theorem dL_areShares_372 : decode cL_areShares 372 = .ok (.ireturn, 1) := by decide +kernel
set_option maxRecDepth 20000 in
theorem ggL_isReleased_X0_current : GoodIn wsL_isReleased wsX0_current := goodIn_r _ [5, 6, 7, 183, 184, 185, 186, 187, 188, 189, 190, 191, 192, 193, 194, 195, 196, 197] (by decide +kernel) (by decide +kernel)
set_option maxRecDepth 20000 in
theorem gL_isReleased_X0_current : GoodIn wsL_isReleased (wsV RL 86 RX0 yX0_current wsX0_current) := goodIn_app (goodIn_of _ (by decide +kernel)) ggL_isReleased_X0_current
set_option maxRecDepth 20000 in
theorem ggL_isReleased_X0_total : GoodIn wsL_isReleased wsX0_total := goodIn_r _ [11, 12, 183, 184, 185, 186, 187, 188, 189, 190, 191, 192, 193, 194, 195, 196, 197] (by decide +kernel) (by decide +kernel)
set_option maxRecDepth 20000 in
theorem gL_isReleased_X0_total : GoodIn wsL_isReleased (wsV RL 71 RX0 yX0_total wsX0_total) := goodIn_app (goodIn_of _ (by decide +kernel)) ggL_isReleased_X0_total
set_option maxRecDepth 20000 in
theorem ggL_isReleased_X0_weight : GoodIn wsL_isReleased wsX0_weight := goodIn_ca (goodIn_r _ [16, 17, 18, 12, 19, 20, 21, 4, 22, 23, 24, 25, 26, 27, 28, 29, 30, 31, 183, 184, 185, 186, 187, 188, 189, 190, 191, 192, 193, 194, 195, 196, 197] (by decide +kernel) (by decide +kernel)) (goodIn_sub (fun _ h => List.mem_cons_of_mem _ (List.mem_append_left _ (List.mem_append_left _ (List.mem_append_left _ (List.mem_append_right _ h))))) (by decide +kernel))
set_option maxRecDepth 20000 in
theorem gL_isReleased_X0_weight : GoodIn wsL_isReleased (wsV RL 57 RX0 yX0_weight wsX0_weight) := goodIn_app (goodIn_of _ (by decide +kernel)) ggL_isReleased_X0_weight
set_option maxRecDepth 20000 in
theorem ggL_isReleased_L_act : GoodIn wsL_isReleased wsL_act := goodIn_ca (goodIn_ca (goodIn_ca (goodIn_r _ [35, 36, 37, 38, 39, 40, 41, 4, 42, 43, 44, 12, 45, 46, 47, 48, 49, 50, 51, 29, 30, 31, 52, 53, 54, 17, 18, 55, 56, 57, 58, 59, 23, 60, 61, 62, 63, 28, 64, 65, 66, 67, 68, 69, 70, 71, 72, 73, 74, 75, 76, 77, 78, 79, 80, 81, 82, 7, 83, 84, 85, 86, 87, 6, 88, 89, 90, 91, 92, 93, 2, 3, 5, 94, 95, 96, 97, 98, 99, 100, 101, 102, 103, 9, 10, 11, 104, 14, 15, 16, 19, 20, 21, 22, 24, 25, 26, 27, 105, 106, 107, 108, 109, 110, 111, 112, 113, 114, 115, 116, 117, 118, 119, 120, 121, 122, 123, 124, 125, 126, 127, 128, 129, 130, 131, 132, 133, 134, 135, 136, 137, 138, 139, 140, 141, 142, 143, 144, 145, 146, 147, 148, 149, 150, 151, 152, 183, 184, 185, 186, 187, 188, 189, 190, 191, 192, 193, 194, 195, 196, 197] (by decide +kernel) (by decide +kernel)) (goodIn_sub (fun _ h => List.mem_cons_of_mem _ (List.mem_append_left _ (List.mem_append_left _ (List.mem_append_right _ h)))) (by decide +kernel))) (goodIn_sub (fun _ h => List.mem_cons_of_mem _ (List.mem_append_left _ (List.mem_append_right _ h))) (by decide +kernel))) (goodIn_sub (fun _ h => List.mem_cons_of_mem _ (List.mem_append_left _ (List.mem_append_left _ (List.mem_append_left _ (List.mem_append_right _ h))))) (by decide +kernel))
set_option maxRecDepth 20000 in
theorem gL_isReleased_L_act : GoodIn wsL_isReleased (va_wsS RL 111 yL_act wsL_act) := goodIn_app (goodIn_of _ (by decide +kernel)) ggL_isReleased_L_act
set_option maxRecDepth 20000 in
theorem ggL_isReleased_X0_match : GoodIn wsL_isReleased wsX0_match := goodIn_ca (goodIn_r _ [156, 157, 158, 159, 4, 160, 161, 162, 99, 100, 101, 102, 6, 83, 93, 2, 3, 5, 7, 103, 9, 10, 11, 12, 105, 106, 107, 108, 109, 110, 111, 112, 113, 114, 115, 116, 117, 118, 119, 120, 121, 122, 123, 124, 125, 72, 126, 127, 128, 129, 130, 131, 132, 133, 134, 135, 136, 137, 138, 139, 140, 77, 141, 142, 143, 183, 184, 185, 186, 187, 188, 189, 190, 191, 192, 193, 194, 195, 196, 197] (by decide +kernel) (by decide +kernel)) (goodIn_sub (fun _ h => List.mem_cons_of_mem _ (List.mem_append_right _ h)) (by decide +kernel))
set_option maxRecDepth 20000 in
theorem gL_isReleased_X0_match : GoodIn wsL_isReleased (wsV RL 63 RX0 yX0_match wsX0_match) := goodIn_app (goodIn_of _ (by decide +kernel)) ggL_isReleased_X0_match
set_option maxRecDepth 20000 in
theorem ggL_isReleased_X0_pot : GoodIn wsL_isReleased wsX0_pot := goodIn_r _ [166, 77, 183, 184, 185, 186, 187, 188, 189, 190, 191, 192, 193, 194, 195, 196, 197] (by decide +kernel) (by decide +kernel)
set_option maxRecDepth 20000 in
theorem gL_isReleased_X0_pot : GoodIn wsL_isReleased (wsV RL 76 RX0 yX0_pot wsX0_pot) := goodIn_app (goodIn_of _ (by decide +kernel)) ggL_isReleased_X0_pot
set_option maxRecDepth 20000 in
theorem ggL_isReleased_X0_out : GoodIn wsL_isReleased wsX0_out := goodIn_r _ [170, 98, 183, 184, 185, 186, 187, 188, 189, 190, 191, 192, 193, 194, 195, 196, 197] (by decide +kernel) (by decide +kernel)
set_option maxRecDepth 20000 in
theorem gL_isReleased_X0_out : GoodIn wsL_isReleased (wsV RL 81 RX0 yX0_out wsX0_out) := goodIn_app (goodIn_of _ (by decide +kernel)) ggL_isReleased_X0_out
set_option maxRecDepth 20000 in
theorem ggL_isReleased_X0_share : GoodIn wsL_isReleased wsX0_share := goodIn_ca (goodIn_ca (goodIn_r _ [174, 83, 6, 113, 47, 48, 4, 49, 50, 51, 29, 30, 31, 157, 158, 159, 160, 161, 162, 99, 100, 101, 102, 93, 2, 3, 5, 7, 103, 9, 10, 11, 12, 109, 110, 111, 112, 114, 115, 116, 183, 184, 185, 186, 187, 188, 189, 190, 191, 192, 193, 194, 195, 196, 197] (by decide +kernel) (by decide +kernel)) (goodIn_sub (fun _ h => List.mem_cons_of_mem _ (List.mem_append_left _ (List.mem_append_right _ h))) (by decide +kernel))) (goodIn_sub (fun _ h => List.mem_cons_of_mem _ (List.mem_append_right _ h)) (by decide +kernel))
set_option maxRecDepth 20000 in
theorem gL_isReleased_X0_share : GoodIn wsL_isReleased (wsV RL 60 RX0 yX0_share wsX0_share) := goodIn_app (goodIn_of _ (by decide +kernel)) ggL_isReleased_X0_share
set_option maxRecDepth 20000 in
theorem ggL_isReleased_X0_in : GoodIn wsL_isReleased wsX0_in := goodIn_ca (goodIn_r _ [178, 12, 47, 48, 4, 49, 50, 51, 29, 30, 31, 183, 184, 185, 186, 187, 188, 189, 190, 191, 192, 193, 194, 195, 196, 197] (by decide +kernel) (by decide +kernel)) (goodIn_sub (fun _ h => List.mem_cons_of_mem _ (List.mem_append_left _ (List.mem_append_right _ h))) (by decide +kernel))
set_option maxRecDepth 20000 in
theorem gL_isReleased_X0_in : GoodIn wsL_isReleased (wsV RL 48 RX0 yX0_in wsX0_in) := goodIn_app (goodIn_of _ (by decide +kernel)) ggL_isReleased_X0_in
set_option maxRecDepth 20000 in
theorem ggL_isReleased_X0_speaker : GoodIn wsL_isReleased wsX0_speaker := goodIn_ca (goodIn_r _ [182, 47, 48, 4, 49, 50, 51, 29, 30, 31, 24, 25, 26, 27, 23, 28, 183, 184, 185, 186, 187, 188, 189, 190, 191, 192, 193, 194, 195, 196, 197] (by decide +kernel) (by decide +kernel)) (goodIn_sub (fun _ h => List.mem_cons_of_mem _ (List.mem_append_left _ (List.mem_append_right _ h))) (by decide +kernel))
set_option maxRecDepth 20000 in
theorem gL_isReleased_X0_speaker : GoodIn wsL_isReleased (wsV RL 54 RX0 yX0_speaker wsX0_speaker) := goodIn_app (goodIn_of _ (by decide +kernel)) ggL_isReleased_X0_speaker
theorem dL_isReleased_0 : decode cL_isReleased 0 = .ok (.aload_n 0, 1) := by decide +kernel
theorem dL_isReleased_1 : decode cL_isReleased 1 = .ok (.invokevirtual 86, 3) := by decide +kernel
theorem dL_isReleased_4 : decode cL_isReleased 4 = .ok (.istore 4, 2) := by decide +kernel
theorem dL_isReleased_6 : decode cL_isReleased 6 = .ok (.iload 4, 2) := by decide +kernel
theorem dL_isReleased_8 : decode cL_isReleased 8 = .ok (.ifCond .lt 43, 3) := by decide +kernel
theorem dL_isReleased_11 : decode cL_isReleased 11 = .ok (.aload_n 2, 1) := by decide +kernel
theorem dL_isReleased_12 : decode cL_isReleased 12 = .ok (.bipush 6, 2) := by decide +kernel
theorem dL_isReleased_14 : decode cL_isReleased 14 = .ok (.iload 4, 2) := by decide +kernel
theorem dL_isReleased_16 : decode cL_isReleased 16 = .ok (.iadd, 1) := by decide +kernel
theorem dL_isReleased_17 : decode cL_isReleased 17 = .ok (.iaload, 1) := by decide +kernel
theorem dL_isReleased_18 : decode cL_isReleased 18 = .ok (.iconst 1, 1) := by decide +kernel
theorem dL_isReleased_19 : decode cL_isReleased 19 = .ok (.if_icmp .ne 32, 3) := by decide +kernel
theorem dL_isReleased_22 : decode cL_isReleased 22 = .ok (.aload_n 0, 1) := by decide +kernel
theorem dL_isReleased_23 : decode cL_isReleased 23 = .ok (.invokevirtual 71, 3) := by decide +kernel
theorem dL_isReleased_26 : decode cL_isReleased 26 = .ok (.aload_n 2, 1) := by decide +kernel
theorem dL_isReleased_27 : decode cL_isReleased 27 = .ok (.iload 4, 2) := by decide +kernel
theorem dL_isReleased_29 : decode cL_isReleased 29 = .ok (.iaload, 1) := by decide +kernel
theorem dL_isReleased_30 : decode cL_isReleased 30 = .ok (.if_icmp .lt 21, 3) := by decide +kernel
theorem dL_isReleased_33 : decode cL_isReleased 33 = .ok (.iconst 2, 1) := by decide +kernel
theorem dL_isReleased_34 : decode cL_isReleased 34 = .ok (.aload_n 0, 1) := by decide +kernel
theorem dL_isReleased_35 : decode cL_isReleased 35 = .ok (.iconst 1, 1) := by decide +kernel
theorem dL_isReleased_36 : decode cL_isReleased 36 = .ok (.invokevirtual 57, 3) := by decide +kernel
theorem dL_isReleased_39 : decode cL_isReleased 39 = .ok (.imul, 1) := by decide +kernel
theorem dL_isReleased_40 : decode cL_isReleased 40 = .ok (.aload_n 0, 1) := by decide +kernel
theorem dL_isReleased_41 : decode cL_isReleased 41 = .ok (.invokevirtual 71, 3) := by decide +kernel
theorem dL_isReleased_44 : decode cL_isReleased 44 = .ok (.if_icmp .le 7, 3) := by decide +kernel
theorem dL_isReleased_47 : decode cL_isReleased 47 = .ok (.iconst 1, 1) := by decide +kernel
theorem dL_isReleased_48 : decode cL_isReleased 48 = .ok (.goto 4, 3) := by decide +kernel
theorem dL_isReleased_51 : decode cL_isReleased 51 = .ok (.iconst 0, 1) := by decide +kernel
theorem dL_isReleased_52 : decode cL_isReleased 52 = .ok (.istore 5, 2) := by decide +kernel
theorem dL_isReleased_54 : decode cL_isReleased 54 = .ok (.iload 5, 2) := by decide +kernel
theorem dL_isReleased_56 : decode cL_isReleased 56 = .ok (.ifCond .ne 23, 3) := by decide +kernel
theorem dL_isReleased_59 : decode cL_isReleased 59 = .ok (.aload_n 0, 1) := by decide +kernel
theorem dL_isReleased_60 : decode cL_isReleased 60 = .ok (.bipush 8, 2) := by decide +kernel
theorem dL_isReleased_62 : decode cL_isReleased 62 = .ok (.iconst 0, 1) := by decide +kernel
theorem dL_isReleased_63 : decode cL_isReleased 63 = .ok (.iconst 0, 1) := by decide +kernel
theorem dL_isReleased_64 : decode cL_isReleased 64 = .ok (.invokestatic 111, 3) := by decide +kernel
theorem dL_isReleased_67 : decode cL_isReleased 67 = .ok (.sipush (-1043), 3) := by decide +kernel
theorem dL_isReleased_70 : decode cL_isReleased 70 = .ok (.if_icmp .ne 7, 3) := by decide +kernel
theorem dL_isReleased_73 : decode cL_isReleased 73 = .ok (.iconst 1, 1) := by decide +kernel
theorem dL_isReleased_74 : decode cL_isReleased 74 = .ok (.goto 4, 3) := by decide +kernel
theorem dL_isReleased_77 : decode cL_isReleased 77 = .ok (.iconst 0, 1) := by decide +kernel
theorem dL_isReleased_78 : decode cL_isReleased 78 = .ok (.ireturn, 1) := by decide +kernel
theorem dL_isReleased_79 : decode cL_isReleased 79 = .ok (.aload_n 0, 1) := by decide +kernel
theorem dL_isReleased_80 : decode cL_isReleased 80 = .ok (.invokevirtual 63, 3) := by decide +kernel
theorem dL_isReleased_83 : decode cL_isReleased 83 = .ok (.istore 6, 2) := by decide +kernel
theorem dL_isReleased_85 : decode cL_isReleased 85 = .ok (.aload_n 0, 1) := by decide +kernel
theorem dL_isReleased_86 : decode cL_isReleased 86 = .ok (.invokevirtual 76, 3) := by decide +kernel
theorem dL_isReleased_89 : decode cL_isReleased 89 = .ok (.istore 7, 2) := by decide +kernel
theorem dL_isReleased_91 : decode cL_isReleased 91 = .ok (.aload_n 0, 1) := by decide +kernel
theorem dL_isReleased_92 : decode cL_isReleased 92 = .ok (.invokevirtual 81, 3) := by decide +kernel
theorem dL_isReleased_95 : decode cL_isReleased 95 = .ok (.istore 8, 2) := by decide +kernel
theorem dL_isReleased_97 : decode cL_isReleased 97 = .ok (.iconst 0, 1) := by decide +kernel
theorem dL_isReleased_98 : decode cL_isReleased 98 = .ok (.istore 9, 2) := by decide +kernel
theorem dL_isReleased_100 : decode cL_isReleased 100 = .ok (.iload 9, 2) := by decide +kernel
theorem dL_isReleased_102 : decode cL_isReleased 102 = .ok (.bipush 8, 2) := by decide +kernel
theorem dL_isReleased_104 : decode cL_isReleased 104 = .ok (.if_icmp .ge 32, 3) := by decide +kernel
theorem dL_isReleased_107 : decode cL_isReleased 107 = .ok (.aload_n 3, 1) := by decide +kernel
theorem dL_isReleased_108 : decode cL_isReleased 108 = .ok (.iload 9, 2) := by decide +kernel
theorem dL_isReleased_110 : decode cL_isReleased 110 = .ok (.aload_n 0, 1) := by decide +kernel
theorem dL_isReleased_111 : decode cL_isReleased 111 = .ok (.iload 9, 2) := by decide +kernel
theorem dL_isReleased_113 : decode cL_isReleased 113 = .ok (.invokevirtual 60, 3) := by decide +kernel
theorem dL_isReleased_116 : decode cL_isReleased 116 = .ok (.iastore, 1) := by decide +kernel
theorem dL_isReleased_117 : decode cL_isReleased 117 = .ok (.aload_n 3, 1) := by decide +kernel
theorem dL_isReleased_118 : decode cL_isReleased 118 = .ok (.bipush 8, 2) := by decide +kernel
theorem dL_isReleased_120 : decode cL_isReleased 120 = .ok (.iload 9, 2) := by decide +kernel
theorem dL_isReleased_122 : decode cL_isReleased 122 = .ok (.iadd, 1) := by decide +kernel
theorem dL_isReleased_123 : decode cL_isReleased 123 = .ok (.aload_n 0, 1) := by decide +kernel
theorem dL_isReleased_124 : decode cL_isReleased 124 = .ok (.iload 9, 2) := by decide +kernel
theorem dL_isReleased_126 : decode cL_isReleased 126 = .ok (.invokevirtual 48, 3) := by decide +kernel
theorem dL_isReleased_129 : decode cL_isReleased 129 = .ok (.iastore, 1) := by decide +kernel
theorem dL_isReleased_130 : decode cL_isReleased 130 = .ok (.iinc 9 1, 3) := by decide +kernel
theorem dL_isReleased_133 : decode cL_isReleased 133 = .ok (.goto (-33), 3) := by decide +kernel
theorem dL_isReleased_136 : decode cL_isReleased 136 = .ok (.aload_n 0, 1) := by decide +kernel
theorem dL_isReleased_137 : decode cL_isReleased 137 = .ok (.bipush 8, 2) := by decide +kernel
theorem dL_isReleased_139 : decode cL_isReleased 139 = .ok (.iconst 0, 1) := by decide +kernel
theorem dL_isReleased_140 : decode cL_isReleased 140 = .ok (.iconst 0, 1) := by decide +kernel
theorem dL_isReleased_141 : decode cL_isReleased 141 = .ok (.invokestatic 111, 3) := by decide +kernel
theorem dL_isReleased_144 : decode cL_isReleased 144 = .ok (.aload_n 2, 1) := by decide +kernel
theorem dL_isReleased_145 : decode cL_isReleased 145 = .ok (.iload 4, 2) := by decide +kernel
theorem dL_isReleased_147 : decode cL_isReleased 147 = .ok (.iaload, 1) := by decide +kernel
theorem dL_isReleased_148 : decode cL_isReleased 148 = .ok (.iload 6, 2) := by decide +kernel
theorem dL_isReleased_150 : decode cL_isReleased 150 = .ok (.iadd, 1) := by decide +kernel
theorem dL_isReleased_151 : decode cL_isReleased 151 = .ok (.if_icmp .ne 61, 3) := by decide +kernel
theorem dL_isReleased_154 : decode cL_isReleased 154 = .ok (.aload_n 0, 1) := by decide +kernel
theorem dL_isReleased_155 : decode cL_isReleased 155 = .ok (.invokevirtual 76, 3) := by decide +kernel
theorem dL_isReleased_158 : decode cL_isReleased 158 = .ok (.iload 7, 2) := by decide +kernel
theorem dL_isReleased_160 : decode cL_isReleased 160 = .ok (.iload 6, 2) := by decide +kernel
theorem dL_isReleased_162 : decode cL_isReleased 162 = .ok (.isub, 1) := by decide +kernel
theorem dL_isReleased_163 : decode cL_isReleased 163 = .ok (.if_icmp .ne 49, 3) := by decide +kernel
theorem dL_isReleased_166 : decode cL_isReleased 166 = .ok (.aload_n 0, 1) := by decide +kernel
theorem dL_isReleased_167 : decode cL_isReleased 167 = .ok (.invokevirtual 81, 3) := by decide +kernel
theorem dL_isReleased_170 : decode cL_isReleased 170 = .ok (.iload 8, 2) := by decide +kernel
theorem dL_isReleased_172 : decode cL_isReleased 172 = .ok (.aload_n 2, 1) := by decide +kernel
theorem dL_isReleased_173 : decode cL_isReleased 173 = .ok (.iload 4, 2) := by decide +kernel
theorem dL_isReleased_175 : decode cL_isReleased 175 = .ok (.iaload, 1) := by decide +kernel
theorem dL_isReleased_176 : decode cL_isReleased 176 = .ok (.iadd, 1) := by decide +kernel
theorem dL_isReleased_177 : decode cL_isReleased 177 = .ok (.iload 6, 2) := by decide +kernel
theorem dL_isReleased_179 : decode cL_isReleased 179 = .ok (.iadd, 1) := by decide +kernel
theorem dL_isReleased_180 : decode cL_isReleased 180 = .ok (.if_icmp .ne 32, 3) := by decide +kernel
theorem dL_isReleased_183 : decode cL_isReleased 183 = .ok (.aload_n 0, 1) := by decide +kernel
theorem dL_isReleased_184 : decode cL_isReleased 184 = .ok (.iconst 1, 1) := by decide +kernel
theorem dL_isReleased_185 : decode cL_isReleased 185 = .ok (.invokevirtual 57, 3) := by decide +kernel
theorem dL_isReleased_188 : decode cL_isReleased 188 = .ok (.ifCond .ne 24, 3) := by decide +kernel
theorem dL_isReleased_191 : decode cL_isReleased 191 = .ok (.aload_n 0, 1) := by decide +kernel
theorem dL_isReleased_192 : decode cL_isReleased 192 = .ok (.iconst 2, 1) := by decide +kernel
theorem dL_isReleased_193 : decode cL_isReleased 193 = .ok (.invokevirtual 57, 3) := by decide +kernel
theorem dL_isReleased_196 : decode cL_isReleased 196 = .ok (.ifCond .ne 16, 3) := by decide +kernel
theorem dL_isReleased_199 : decode cL_isReleased 199 = .ok (.aload_n 0, 1) := by decide +kernel
theorem dL_isReleased_200 : decode cL_isReleased 200 = .ok (.invokevirtual 86, 3) := by decide +kernel
theorem dL_isReleased_203 : decode cL_isReleased 203 = .ok (.iload 4, 2) := by decide +kernel
theorem dL_isReleased_205 : decode cL_isReleased 205 = .ok (.if_icmp .eq 7, 3) := by decide +kernel
theorem dL_isReleased_208 : decode cL_isReleased 208 = .ok (.iconst 1, 1) := by decide +kernel
theorem dL_isReleased_209 : decode cL_isReleased 209 = .ok (.goto 4, 3) := by decide +kernel
theorem dL_isReleased_212 : decode cL_isReleased 212 = .ok (.iconst 0, 1) := by decide +kernel
theorem dL_isReleased_213 : decode cL_isReleased 213 = .ok (.istore 9, 2) := by decide +kernel
theorem dL_isReleased_215 : decode cL_isReleased 215 = .ok (.iconst 0, 1) := by decide +kernel
theorem dL_isReleased_216 : decode cL_isReleased 216 = .ok (.istore 10, 2) := by decide +kernel
theorem dL_isReleased_218 : decode cL_isReleased 218 = .ok (.iload 10, 2) := by decide +kernel
theorem dL_isReleased_220 : decode cL_isReleased 220 = .ok (.bipush 8, 2) := by decide +kernel
theorem dL_isReleased_222 : decode cL_isReleased 222 = .ok (.if_icmp .ge 60, 3) := by decide +kernel
theorem dL_isReleased_225 : decode cL_isReleased 225 = .ok (.iload 9, 2) := by decide +kernel
theorem dL_isReleased_227 : decode cL_isReleased 227 = .ok (.ifCond .eq 55, 3) := by decide +kernel
theorem dL_isReleased_230 : decode cL_isReleased 230 = .ok (.aload_n 1, 1) := by decide +kernel
theorem dL_isReleased_231 : decode cL_isReleased 231 = .ok (.bipush 16, 2) := by decide +kernel
theorem dL_isReleased_233 : decode cL_isReleased 233 = .ok (.iload 10, 2) := by decide +kernel
theorem dL_isReleased_235 : decode cL_isReleased 235 = .ok (.iadd, 1) := by decide +kernel
theorem dL_isReleased_236 : decode cL_isReleased 236 = .ok (.iconst 0, 1) := by decide +kernel
theorem dL_isReleased_237 : decode cL_isReleased 237 = .ok (.iastore, 1) := by decide +kernel
theorem dL_isReleased_238 : decode cL_isReleased 238 = .ok (.aload_n 0, 1) := by decide +kernel
theorem dL_isReleased_239 : decode cL_isReleased 239 = .ok (.iload 10, 2) := by decide +kernel
theorem dL_isReleased_241 : decode cL_isReleased 241 = .ok (.invokevirtual 48, 3) := by decide +kernel
theorem dL_isReleased_244 : decode cL_isReleased 244 = .ok (.aload_n 3, 1) := by decide +kernel
theorem dL_isReleased_245 : decode cL_isReleased 245 = .ok (.bipush 8, 2) := by decide +kernel
theorem dL_isReleased_247 : decode cL_isReleased 247 = .ok (.iload 10, 2) := by decide +kernel
theorem dL_isReleased_249 : decode cL_isReleased 249 = .ok (.iadd, 1) := by decide +kernel
theorem dL_isReleased_250 : decode cL_isReleased 250 = .ok (.iaload, 1) := by decide +kernel
theorem dL_isReleased_251 : decode cL_isReleased 251 = .ok (.aload_n 3, 1) := by decide +kernel
theorem dL_isReleased_252 : decode cL_isReleased 252 = .ok (.iload 10, 2) := by decide +kernel
theorem dL_isReleased_254 : decode cL_isReleased 254 = .ok (.iaload, 1) := by decide +kernel
theorem dL_isReleased_255 : decode cL_isReleased 255 = .ok (.isub, 1) := by decide +kernel
theorem dL_isReleased_256 : decode cL_isReleased 256 = .ok (.if_icmp .ne 17, 3) := by decide +kernel
theorem dL_isReleased_259 : decode cL_isReleased 259 = .ok (.aload_n 0, 1) := by decide +kernel
theorem dL_isReleased_260 : decode cL_isReleased 260 = .ok (.iload 10, 2) := by decide +kernel
theorem dL_isReleased_262 : decode cL_isReleased 262 = .ok (.invokevirtual 54, 3) := by decide +kernel
theorem dL_isReleased_265 : decode cL_isReleased 265 = .ok (.iconst (-1), 1) := by decide +kernel
theorem dL_isReleased_266 : decode cL_isReleased 266 = .ok (.if_icmp .ne 7, 3) := by decide +kernel
theorem dL_isReleased_269 : decode cL_isReleased 269 = .ok (.iconst 1, 1) := by decide +kernel
theorem dL_isReleased_270 : decode cL_isReleased 270 = .ok (.goto 4, 3) := by decide +kernel
theorem dL_isReleased_273 : decode cL_isReleased 273 = .ok (.iconst 0, 1) := by decide +kernel
theorem dL_isReleased_274 : decode cL_isReleased 274 = .ok (.istore 9, 2) := by decide +kernel
theorem dL_isReleased_276 : decode cL_isReleased 276 = .ok (.iinc 10 1, 3) := by decide +kernel
theorem dL_isReleased_279 : decode cL_isReleased 279 = .ok (.goto (-61), 3) := by decide +kernel
theorem dL_isReleased_282 : decode cL_isReleased 282 = .ok (.iload 9, 2) := by decide +kernel
theorem dL_isReleased_284 : decode cL_isReleased 284 = .ok (.ireturn, 1) := by decide +kernel
