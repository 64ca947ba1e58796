set_option maxRecDepth 20000 in
theorem ggL_isRefused_X0_current : GoodIn wsL_isRefused wsX0_current := goodIn_r _ [7, 8, 9, 210, 211, 212, 213, 214, 215, 216, 217, 218, 219, 220, 221, 222, 223, 224] (by decide +kernel) (by decide +kernel)
set_option maxRecDepth 20000 in
theorem gL_isRefused_X0_current : GoodIn wsL_isRefused (wsV RL 86 RX0 yX0_current wsX0_current) := goodIn_app (goodIn_of _ (by decide +kernel)) ggL_isRefused_X0_current
set_option maxRecDepth 20000 in
theorem ggL_isRefused_L_all : GoodIn wsL_isRefused wsL_all := goodIn_ca (goodIn_ca (goodIn_ca (goodIn_r _ [13, 14, 15, 16, 17, 18, 19, 20, 21, 22, 6, 23, 24, 25, 26, 27, 28, 29, 30, 31, 32, 33, 34, 3, 4, 5, 7, 8, 9, 35, 36, 12, 37, 38, 39, 40, 41, 42, 43, 44, 45, 46, 47, 48, 49, 50, 51, 52, 53, 54, 55, 56, 57, 58, 59, 60, 61, 62, 63, 64, 65, 66, 67, 68, 69, 70, 71, 72, 73, 74, 75, 76, 77, 78, 79, 80, 81, 82, 83, 84, 85, 86, 87, 88, 89, 90, 91, 92, 93, 94, 95, 96, 97, 98, 99, 100, 101, 102, 103, 104, 105, 106, 107, 108, 109, 110, 111, 112, 113, 114, 115, 116, 117, 118, 119, 120, 121, 122, 123, 124, 125, 126, 127, 128, 129, 130, 131, 132, 133, 134, 135, 136, 137, 138, 139, 140, 141, 142, 143, 144, 145, 146, 147, 148, 210, 211, 212, 213, 214, 215, 216, 217, 218, 219, 220, 221, 222, 223, 224] (by decide +kernel) (by decide +kernel)) (goodIn_sub (fun _ h => List.mem_cons_of_mem _ (List.mem_append_left _ (List.mem_append_left _ (List.mem_append_left _ (List.mem_append_right _ h))))) (by decide +kernel))) (goodIn_sub (fun _ h => List.mem_cons_of_mem _ (List.mem_append_left _ (List.mem_append_left _ (List.mem_append_right _ h)))) (by decide +kernel))) (goodIn_sub (fun _ h => List.mem_cons_of_mem _ (List.mem_append_left _ (List.mem_append_right _ h))) (by decide +kernel))
set_option maxRecDepth 20000 in
theorem gL_isRefused_L_all : GoodIn wsL_isRefused (va_wsS RL 107 yL_all wsL_all) := goodIn_app (goodIn_of _ (by decide +kernel)) ggL_isRefused_L_all
set_option maxRecDepth 20000 in
theorem ggL_isRefused_L_act : GoodIn wsL_isRefused wsL_act := goodIn_ca (goodIn_ca (goodIn_ca (goodIn_r _ [151, 38, 39, 152, 153, 154, 155, 6, 156, 157, 158, 24, 159, 57, 45, 46, 47, 48, 49, 50, 51, 52, 160, 161, 162, 74, 75, 163, 164, 165, 166, 58, 68, 167, 168, 169, 170, 69, 171, 172, 173, 174, 175, 176, 177, 178, 122, 179, 180, 181, 182, 29, 183, 184, 185, 186, 187, 9, 84, 188, 189, 190, 191, 8, 192, 193, 194, 195, 196, 96, 4, 5, 7, 197, 198, 199, 200, 34, 92, 93, 94, 95, 97, 21, 22, 23, 201, 71, 72, 73, 76, 77, 78, 79, 64, 65, 66, 67, 109, 110, 111, 112, 98, 99, 100, 101, 85, 102, 103, 104, 113, 114, 115, 116, 117, 118, 119, 120, 121, 123, 124, 125, 126, 127, 128, 129, 130, 131, 132, 133, 134, 135, 136, 137, 138, 139, 140, 202, 203, 204, 205, 59, 206, 207, 208, 209, 210, 211, 212, 213, 214, 215, 216, 217, 218, 219, 220, 221, 222, 223, 224] (by decide +kernel) (by decide +kernel)) (goodIn_sub (fun _ h => List.mem_cons_of_mem _ (List.mem_append_right _ h)) (by decide +kernel))) (goodIn_sub (fun _ h => List.mem_cons_of_mem _ (List.mem_append_left _ (List.mem_append_left _ (List.mem_append_left _ (List.mem_append_right _ h))))) (by decide +kernel))) (goodIn_sub (fun _ h => List.mem_cons_of_mem _ (List.mem_append_left _ (List.mem_append_left _ (List.mem_append_right _ h)))) (by decide +kernel))
set_option maxRecDepth 20000 in
theorem gL_isRefused_L_act : GoodIn wsL_isRefused (va_wsS RL 111 yL_act wsL_act) := goodIn_app (goodIn_of _ (by decide +kernel)) ggL_isRefused_L_act
set_option maxRecDepth 20000 in
theorem ggL_isRefused_L_of : GoodIn wsL_isRefused wsL_of := goodIn_ca (goodIn_ca (goodIn_ca (goodIn_r _ [37, 38, 39, 40, 41, 42, 43, 6, 44, 24, 45, 46, 47, 48, 49, 50, 51, 52, 53, 54, 55, 56, 57, 58, 59, 60, 61, 62, 63, 64, 65, 66, 67, 68, 69, 70, 71, 72, 73, 74, 75, 76, 77, 78, 79, 80, 81, 82, 83, 84, 8, 85, 86, 87, 88, 89, 90, 91, 92, 93, 94, 95, 96, 4, 5, 7, 9, 97, 21, 22, 23, 98, 99, 100, 101, 102, 103, 104, 105, 106, 107, 108, 109, 110, 111, 112, 113, 114, 115, 116, 117, 118, 119, 120, 121, 122, 123, 124, 125, 126, 127, 128, 129, 130, 131, 132, 133, 134, 135, 136, 137, 29, 138, 139, 140, 141, 142, 143, 144, 145, 146, 147, 148, 210, 211, 212, 213, 214, 215, 216, 217, 218, 219, 220, 221, 222, 223, 224] (by decide +kernel) (by decide +kernel)) (goodIn_sub (fun _ h => List.mem_cons_of_mem _ (List.mem_append_left _ (List.mem_append_left _ (List.mem_append_left _ (List.mem_append_right _ h))))) (by decide +kernel))) (goodIn_sub (fun _ h => List.mem_cons_of_mem _ (List.mem_append_left _ (List.mem_append_left _ (List.mem_append_right _ h)))) (by decide +kernel))) (goodIn_sub (fun _ h => List.mem_cons_of_mem _ (List.mem_append_left _ (List.mem_append_right _ h))) (by decide +kernel))
set_option maxRecDepth 20000 in
theorem gL_isRefused_L_of : GoodIn wsL_isRefused (va_wsS RL 91 yL_of wsL_of) := goodIn_app (goodIn_of _ (by decide +kernel)) ggL_isRefused_L_of
set_option maxRecDepth 20000 in
theorem ggL_isRefused_X0_in : GoodIn wsL_isRefused wsX0_in := goodIn_ca (goodIn_r _ [44, 24, 45, 46, 6, 47, 48, 49, 50, 51, 52, 210, 211, 212, 213, 214, 215, 216, 217, 218, 219, 220, 221, 222, 223, 224] (by decide +kernel) (by decide +kernel)) (goodIn_sub (fun _ h => List.mem_cons_of_mem _ (List.mem_append_left _ (List.mem_append_left _ (List.mem_append_left _ (List.mem_append_right _ h))))) (by decide +kernel))
set_option maxRecDepth 20000 in
theorem gL_isRefused_X0_in : GoodIn wsL_isRefused (wsV RL 48 RX0 yX0_in wsX0_in) := goodIn_app (goodIn_of _ (by decide +kernel)) ggL_isRefused_X0_in
theorem dL_isRefused_0 : decode cL_isRefused 0 = .ok (.iload_n 2, 1) := by decide +kernel
theorem dL_isRefused_1 : decode cL_isRefused 1 = .ok (.iconst 2, 1) := by decide +kernel
theorem dL_isRefused_2 : decode cL_isRefused 2 = .ok (.irem, 1) := by decide +kernel
theorem dL_isRefused_3 : decode cL_isRefused 3 = .ok (.ifCond .ne 7, 3) := by decide +kernel
theorem dL_isRefused_6 : decode cL_isRefused 6 = .ok (.iconst 1, 1) := by decide +kernel
theorem dL_isRefused_7 : decode cL_isRefused 7 = .ok (.goto 4, 3) := by decide +kernel
theorem dL_isRefused_10 : decode cL_isRefused 10 = .ok (.iconst 0, 1) := by decide +kernel
theorem dL_isRefused_11 : decode cL_isRefused 11 = .ok (.istore_n 3, 1) := by decide +kernel
theorem dL_isRefused_12 : decode cL_isRefused 12 = .ok (.iload_n 3, 1) := by decide +kernel
theorem dL_isRefused_13 : decode cL_isRefused 13 = .ok (.ifCond .eq 12, 3) := by decide +kernel
theorem dL_isRefused_16 : decode cL_isRefused 16 = .ok (.iconst (-1), 1) := by decide +kernel
theorem dL_isRefused_17 : decode cL_isRefused 17 = .ok (.iload_n 2, 1) := by decide +kernel
theorem dL_isRefused_18 : decode cL_isRefused 18 = .ok (.bipush 30, 2) := by decide +kernel
theorem dL_isRefused_20 : decode cL_isRefused 20 = .ok (.irem, 1) := by decide +kernel
theorem dL_isRefused_21 : decode cL_isRefused 21 = .ok (.isub, 1) := by decide +kernel
theorem dL_isRefused_22 : decode cL_isRefused 22 = .ok (.goto 10, 3) := by decide +kernel
theorem dL_isRefused_25 : decode cL_isRefused 25 = .ok (.bipush 8, 2) := by decide +kernel
theorem dL_isRefused_27 : decode cL_isRefused 27 = .ok (.iload_n 2, 1) := by decide +kernel
theorem dL_isRefused_28 : decode cL_isRefused 28 = .ok (.bipush 30, 2) := by decide +kernel
theorem dL_isRefused_30 : decode cL_isRefused 30 = .ok (.irem, 1) := by decide +kernel
theorem dL_isRefused_31 : decode cL_isRefused 31 = .ok (.iadd, 1) := by decide +kernel
theorem dL_isRefused_32 : decode cL_isRefused 32 = .ok (.istore 4, 2) := by decide +kernel
theorem dL_isRefused_34 : decode cL_isRefused 34 = .ok (.iload_n 3, 1) := by decide +kernel
theorem dL_isRefused_35 : decode cL_isRefused 35 = .ok (.ifCond .eq 13, 3) := by decide +kernel
theorem dL_isRefused_38 : decode cL_isRefused 38 = .ok (.bipush (-2), 2) := by decide +kernel
theorem dL_isRefused_40 : decode cL_isRefused 40 = .ok (.iload_n 2, 1) := by decide +kernel
theorem dL_isRefused_41 : decode cL_isRefused 41 = .ok (.bipush 30, 2) := by decide +kernel
theorem dL_isRefused_43 : decode cL_isRefused 43 = .ok (.irem, 1) := by decide +kernel
theorem dL_isRefused_44 : decode cL_isRefused 44 = .ok (.isub, 1) := by decide +kernel
theorem dL_isRefused_45 : decode cL_isRefused 45 = .ok (.goto 10, 3) := by decide +kernel
theorem dL_isRefused_48 : decode cL_isRefused 48 = .ok (.bipush 8, 2) := by decide +kernel
theorem dL_isRefused_50 : decode cL_isRefused 50 = .ok (.iload_n 2, 1) := by decide +kernel
theorem dL_isRefused_51 : decode cL_isRefused 51 = .ok (.bipush 30, 2) := by decide +kernel
theorem dL_isRefused_53 : decode cL_isRefused 53 = .ok (.irem, 1) := by decide +kernel
theorem dL_isRefused_54 : decode cL_isRefused 54 = .ok (.iadd, 1) := by decide +kernel
theorem dL_isRefused_55 : decode cL_isRefused 55 = .ok (.istore 5, 2) := by decide +kernel
theorem dL_isRefused_57 : decode cL_isRefused 57 = .ok (.iload_n 2, 1) := by decide +kernel
theorem dL_isRefused_58 : decode cL_isRefused 58 = .ok (.iconst 2, 1) := by decide +kernel
theorem dL_isRefused_59 : decode cL_isRefused 59 = .ok (.idiv, 1) := by decide +kernel
theorem dL_isRefused_60 : decode cL_isRefused 60 = .ok (.bipush 8, 2) := by decide +kernel
theorem dL_isRefused_62 : decode cL_isRefused 62 = .ok (.irem, 1) := by decide +kernel
theorem dL_isRefused_63 : decode cL_isRefused 63 = .ok (.istore 6, 2) := by decide +kernel
theorem dL_isRefused_65 : decode cL_isRefused 65 = .ok (.aload_n 0, 1) := by decide +kernel
theorem dL_isRefused_66 : decode cL_isRefused 66 = .ok (.invokevirtual 86, 3) := by decide +kernel
theorem dL_isRefused_69 : decode cL_isRefused 69 = .ok (.ifCond .ge 9, 3) := by decide +kernel
theorem dL_isRefused_72 : decode cL_isRefused 72 = .ok (.aload_n 1, 1) := by decide +kernel
theorem dL_isRefused_73 : decode cL_isRefused 73 = .ok (.iconst 0, 1) := by decide +kernel
theorem dL_isRefused_74 : decode cL_isRefused 74 = .ok (.iaload, 1) := by decide +kernel
theorem dL_isRefused_75 : decode cL_isRefused 75 = .ok (.goto 7, 3) := by decide +kernel
theorem dL_isRefused_78 : decode cL_isRefused 78 = .ok (.aload_n 0, 1) := by decide +kernel
theorem dL_isRefused_79 : decode cL_isRefused 79 = .ok (.invokevirtual 86, 3) := by decide +kernel
theorem dL_isRefused_82 : decode cL_isRefused 82 = .ok (.istore 7, 2) := by decide +kernel
theorem dL_isRefused_84 : decode cL_isRefused 84 = .ok (.aload_n 0, 1) := by decide +kernel
theorem dL_isRefused_85 : decode cL_isRefused 85 = .ok (.invokestatic 107, 3) := by decide +kernel
theorem dL_isRefused_88 : decode cL_isRefused 88 = .ok (.lstore 8, 2) := by decide +kernel
theorem dL_isRefused_90 : decode cL_isRefused 90 = .ok (.aload_n 0, 1) := by decide +kernel
theorem dL_isRefused_91 : decode cL_isRefused 91 = .ok (.iconst 0, 1) := by decide +kernel
theorem dL_isRefused_92 : decode cL_isRefused 92 = .ok (.iload 4, 2) := by decide +kernel
theorem dL_isRefused_94 : decode cL_isRefused 94 = .ok (.iconst 0, 1) := by decide +kernel
theorem dL_isRefused_95 : decode cL_isRefused 95 = .ok (.invokestatic 111, 3) := by decide +kernel
theorem dL_isRefused_98 : decode cL_isRefused 98 = .ok (.sipush (-1041), 3) := by decide +kernel
theorem dL_isRefused_101 : decode cL_isRefused 101 = .ok (.if_icmp .ne 295, 3) := by decide +kernel
theorem dL_isRefused_104 : decode cL_isRefused 104 = .ok (.aload_n 0, 1) := by decide +kernel
theorem dL_isRefused_105 : decode cL_isRefused 105 = .ok (.iconst 0, 1) := by decide +kernel
theorem dL_isRefused_106 : decode cL_isRefused 106 = .ok (.iload 6, 2) := by decide +kernel
theorem dL_isRefused_108 : decode cL_isRefused 108 = .ok (.iload_n 3, 1) := by decide +kernel
theorem dL_isRefused_109 : decode cL_isRefused 109 = .ok (.ifCond .eq 12, 3) := by decide +kernel
theorem dL_isRefused_112 : decode cL_isRefused 112 = .ok (.iconst 0, 1) := by decide +kernel
theorem dL_isRefused_113 : decode cL_isRefused 113 = .ok (.iload_n 2, 1) := by decide +kernel
theorem dL_isRefused_114 : decode cL_isRefused 114 = .ok (.bipush 30, 2) := by decide +kernel
theorem dL_isRefused_116 : decode cL_isRefused 116 = .ok (.irem, 1) := by decide +kernel
theorem dL_isRefused_117 : decode cL_isRefused 117 = .ok (.isub, 1) := by decide +kernel
theorem dL_isRefused_118 : decode cL_isRefused 118 = .ok (.goto 11, 3) := by decide +kernel
theorem dL_isRefused_121 : decode cL_isRefused 121 = .ok (.sipush 10001, 3) := by decide +kernel
theorem dL_isRefused_124 : decode cL_isRefused 124 = .ok (.iload_n 2, 1) := by decide +kernel
theorem dL_isRefused_125 : decode cL_isRefused 125 = .ok (.bipush 30, 2) := by decide +kernel
theorem dL_isRefused_127 : decode cL_isRefused 127 = .ok (.irem, 1) := by decide +kernel
theorem dL_isRefused_128 : decode cL_isRefused 128 = .ok (.iadd, 1) := by decide +kernel
theorem dL_isRefused_129 : decode cL_isRefused 129 = .ok (.invokestatic 111, 3) := by decide +kernel
theorem dL_isRefused_132 : decode cL_isRefused 132 = .ok (.sipush (-1042), 3) := by decide +kernel
theorem dL_isRefused_135 : decode cL_isRefused 135 = .ok (.if_icmp .ne 261, 3) := by decide +kernel
theorem dL_isRefused_138 : decode cL_isRefused 138 = .ok (.aload_n 0, 1) := by decide +kernel
theorem dL_isRefused_139 : decode cL_isRefused 139 = .ok (.iconst 1, 1) := by decide +kernel
theorem dL_isRefused_140 : decode cL_isRefused 140 = .ok (.iload 4, 2) := by decide +kernel
theorem dL_isRefused_142 : decode cL_isRefused 142 = .ok (.iconst 0, 1) := by decide +kernel
theorem dL_isRefused_143 : decode cL_isRefused 143 = .ok (.invokestatic 111, 3) := by decide +kernel
theorem dL_isRefused_146 : decode cL_isRefused 146 = .ok (.sipush (-1041), 3) := by decide +kernel
theorem dL_isRefused_149 : decode cL_isRefused 149 = .ok (.if_icmp .ne 247, 3) := by decide +kernel
theorem dL_isRefused_152 : decode cL_isRefused 152 = .ok (.aload_n 0, 1) := by decide +kernel
theorem dL_isRefused_153 : decode cL_isRefused 153 = .ok (.iconst 2, 1) := by decide +kernel
theorem dL_isRefused_154 : decode cL_isRefused 154 = .ok (.iload 4, 2) := by decide +kernel
theorem dL_isRefused_156 : decode cL_isRefused 156 = .ok (.iconst (-1), 1) := by decide +kernel
theorem dL_isRefused_157 : decode cL_isRefused 157 = .ok (.invokestatic 111, 3) := by decide +kernel
theorem dL_isRefused_160 : decode cL_isRefused 160 = .ok (.sipush (-1041), 3) := by decide +kernel
theorem dL_isRefused_163 : decode cL_isRefused 163 = .ok (.if_icmp .ne 233, 3) := by decide +kernel
theorem dL_isRefused_166 : decode cL_isRefused 166 = .ok (.aload_n 0, 1) := by decide +kernel
theorem dL_isRefused_167 : decode cL_isRefused 167 = .ok (.iconst 2, 1) := by decide +kernel
theorem dL_isRefused_168 : decode cL_isRefused 168 = .ok (.iload 6, 2) := by decide +kernel
theorem dL_isRefused_170 : decode cL_isRefused 170 = .ok (.iload 5, 2) := by decide +kernel
theorem dL_isRefused_172 : decode cL_isRefused 172 = .ok (.invokestatic 111, 3) := by decide +kernel
theorem dL_isRefused_175 : decode cL_isRefused 175 = .ok (.sipush (-1041), 3) := by decide +kernel
theorem dL_isRefused_178 : decode cL_isRefused 178 = .ok (.if_icmp .ne 218, 3) := by decide +kernel
theorem dL_isRefused_181 : decode cL_isRefused 181 = .ok (.aload_n 0, 1) := by decide +kernel
theorem dL_isRefused_182 : decode cL_isRefused 182 = .ok (.iconst 2, 1) := by decide +kernel
theorem dL_isRefused_183 : decode cL_isRefused 183 = .ok (.iload 6, 2) := by decide +kernel
theorem dL_isRefused_185 : decode cL_isRefused 185 = .ok (.iload 6, 2) := by decide +kernel
theorem dL_isRefused_187 : decode cL_isRefused 187 = .ok (.invokestatic 111, 3) := by decide +kernel
theorem dL_isRefused_190 : decode cL_isRefused 190 = .ok (.sipush (-1043), 3) := by decide +kernel
theorem dL_isRefused_193 : decode cL_isRefused 193 = .ok (.if_icmp .ne 203, 3) := by decide +kernel
theorem dL_isRefused_196 : decode cL_isRefused 196 = .ok (.aload_n 0, 1) := by decide +kernel
theorem dL_isRefused_197 : decode cL_isRefused 197 = .ok (.iconst 3, 1) := by decide +kernel
theorem dL_isRefused_198 : decode cL_isRefused 198 = .ok (.iload 4, 2) := by decide +kernel
theorem dL_isRefused_200 : decode cL_isRefused 200 = .ok (.iconst 0, 1) := by decide +kernel
theorem dL_isRefused_201 : decode cL_isRefused 201 = .ok (.invokestatic 111, 3) := by decide +kernel
theorem dL_isRefused_204 : decode cL_isRefused 204 = .ok (.sipush (-1041), 3) := by decide +kernel
theorem dL_isRefused_207 : decode cL_isRefused 207 = .ok (.if_icmp .ne 189, 3) := by decide +kernel
theorem dL_isRefused_210 : decode cL_isRefused 210 = .ok (.aload_n 0, 1) := by decide +kernel
theorem dL_isRefused_211 : decode cL_isRefused 211 = .ok (.iconst 3, 1) := by decide +kernel
theorem dL_isRefused_212 : decode cL_isRefused 212 = .ok (.iload 6, 2) := by decide +kernel
theorem dL_isRefused_214 : decode cL_isRefused 214 = .ok (.iload 4, 2) := by decide +kernel
theorem dL_isRefused_216 : decode cL_isRefused 216 = .ok (.invokestatic 111, 3) := by decide +kernel
theorem dL_isRefused_219 : decode cL_isRefused 219 = .ok (.sipush (-1041), 3) := by decide +kernel
theorem dL_isRefused_222 : decode cL_isRefused 222 = .ok (.if_icmp .ne 174, 3) := by decide +kernel
theorem dL_isRefused_225 : decode cL_isRefused 225 = .ok (.aload_n 0, 1) := by decide +kernel
theorem dL_isRefused_226 : decode cL_isRefused 226 = .ok (.iconst 4, 1) := by decide +kernel
theorem dL_isRefused_227 : decode cL_isRefused 227 = .ok (.iload_n 3, 1) := by decide +kernel
theorem dL_isRefused_228 : decode cL_isRefused 228 = .ok (.ifCond .eq 12, 3) := by decide +kernel
theorem dL_isRefused_231 : decode cL_isRefused 231 = .ok (.iconst 0, 1) := by decide +kernel
theorem dL_isRefused_232 : decode cL_isRefused 232 = .ok (.iload_n 2, 1) := by decide +kernel
theorem dL_isRefused_233 : decode cL_isRefused 233 = .ok (.bipush 30, 2) := by decide +kernel
theorem dL_isRefused_235 : decode cL_isRefused 235 = .ok (.irem, 1) := by decide +kernel
theorem dL_isRefused_236 : decode cL_isRefused 236 = .ok (.isub, 1) := by decide +kernel
theorem dL_isRefused_237 : decode cL_isRefused 237 = .ok (.goto 5, 3) := by decide +kernel
theorem dL_isRefused_240 : decode cL_isRefused 240 = .ok (.ldc 115, 2) := by decide +kernel
theorem dL_isRefused_242 : decode cL_isRefused 242 = .ok (.iconst 0, 1) := by decide +kernel
theorem dL_isRefused_243 : decode cL_isRefused 243 = .ok (.invokestatic 111, 3) := by decide +kernel
theorem dL_isRefused_246 : decode cL_isRefused 246 = .ok (.sipush (-1042), 3) := by decide +kernel
theorem dL_isRefused_249 : decode cL_isRefused 249 = .ok (.if_icmp .ne 147, 3) := by decide +kernel
theorem dL_isRefused_252 : decode cL_isRefused 252 = .ok (.aload_n 0, 1) := by decide +kernel
theorem dL_isRefused_253 : decode cL_isRefused 253 = .ok (.iconst 5, 1) := by decide +kernel
theorem dL_isRefused_254 : decode cL_isRefused 254 = .ok (.iload_n 3, 1) := by decide +kernel
theorem dL_isRefused_255 : decode cL_isRefused 255 = .ok (.ifCond .eq 12, 3) := by decide +kernel
theorem dL_isRefused_258 : decode cL_isRefused 258 = .ok (.iconst 0, 1) := by decide +kernel
theorem dL_isRefused_259 : decode cL_isRefused 259 = .ok (.iload_n 2, 1) := by decide +kernel
theorem dL_isRefused_260 : decode cL_isRefused 260 = .ok (.bipush 30, 2) := by decide +kernel
theorem dL_isRefused_262 : decode cL_isRefused 262 = .ok (.irem, 1) := by decide +kernel
theorem dL_isRefused_263 : decode cL_isRefused 263 = .ok (.isub, 1) := by decide +kernel
theorem dL_isRefused_264 : decode cL_isRefused 264 = .ok (.goto 5, 3) := by decide +kernel
theorem dL_isRefused_267 : decode cL_isRefused 267 = .ok (.ldc 115, 2) := by decide +kernel
theorem dL_isRefused_269 : decode cL_isRefused 269 = .ok (.iconst 0, 1) := by decide +kernel
theorem dL_isRefused_270 : decode cL_isRefused 270 = .ok (.invokestatic 111, 3) := by decide +kernel
theorem dL_isRefused_273 : decode cL_isRefused 273 = .ok (.sipush (-1042), 3) := by decide +kernel
theorem dL_isRefused_276 : decode cL_isRefused 276 = .ok (.if_icmp .ne 120, 3) := by decide +kernel
theorem dL_isRefused_279 : decode cL_isRefused 279 = .ok (.aload_n 0, 1) := by decide +kernel
theorem dL_isRefused_280 : decode cL_isRefused 280 = .ok (.bipush 6, 2) := by decide +kernel
theorem dL_isRefused_282 : decode cL_isRefused 282 = .ok (.iload_n 3, 1) := by decide +kernel
theorem dL_isRefused_283 : decode cL_isRefused 283 = .ok (.ifCond .eq 12, 3) := by decide +kernel
theorem dL_isRefused_286 : decode cL_isRefused 286 = .ok (.iconst (-1), 1) := by decide +kernel
theorem dL_isRefused_287 : decode cL_isRefused 287 = .ok (.iload_n 2, 1) := by decide +kernel
theorem dL_isRefused_288 : decode cL_isRefused 288 = .ok (.bipush 30, 2) := by decide +kernel
theorem dL_isRefused_290 : decode cL_isRefused 290 = .ok (.irem, 1) := by decide +kernel
theorem dL_isRefused_291 : decode cL_isRefused 291 = .ok (.isub, 1) := by decide +kernel
theorem dL_isRefused_292 : decode cL_isRefused 292 = .ok (.goto 11, 3) := by decide +kernel
theorem dL_isRefused_295 : decode cL_isRefused 295 = .ok (.aload_n 1, 1) := by decide +kernel
theorem dL_isRefused_296 : decode cL_isRefused 296 = .ok (.iconst 0, 1) := by decide +kernel
theorem dL_isRefused_297 : decode cL_isRefused 297 = .ok (.iaload, 1) := by decide +kernel
theorem dL_isRefused_298 : decode cL_isRefused 298 = .ok (.iload_n 2, 1) := by decide +kernel
theorem dL_isRefused_299 : decode cL_isRefused 299 = .ok (.bipush 30, 2) := by decide +kernel
theorem dL_isRefused_301 : decode cL_isRefused 301 = .ok (.irem, 1) := by decide +kernel
theorem dL_isRefused_302 : decode cL_isRefused 302 = .ok (.iadd, 1) := by decide +kernel
theorem dL_isRefused_303 : decode cL_isRefused 303 = .ok (.iconst 0, 1) := by decide +kernel
theorem dL_isRefused_304 : decode cL_isRefused 304 = .ok (.invokestatic 111, 3) := by decide +kernel
theorem dL_isRefused_307 : decode cL_isRefused 307 = .ok (.sipush (-1041), 3) := by decide +kernel
theorem dL_isRefused_310 : decode cL_isRefused 310 = .ok (.if_icmp .ne 86, 3) := by decide +kernel
theorem dL_isRefused_313 : decode cL_isRefused 313 = .ok (.aload_n 0, 1) := by decide +kernel
theorem dL_isRefused_314 : decode cL_isRefused 314 = .ok (.bipush 7, 2) := by decide +kernel
theorem dL_isRefused_316 : decode cL_isRefused 316 = .ok (.iload 4, 2) := by decide +kernel
theorem dL_isRefused_318 : decode cL_isRefused 318 = .ok (.bipush (-5), 2) := by decide +kernel
theorem dL_isRefused_320 : decode cL_isRefused 320 = .ok (.invokestatic 111, 3) := by decide +kernel
theorem dL_isRefused_323 : decode cL_isRefused 323 = .ok (.sipush (-1041), 3) := by decide +kernel
theorem dL_isRefused_326 : decode cL_isRefused 326 = .ok (.if_icmp .ne 70, 3) := by decide +kernel
theorem dL_isRefused_329 : decode cL_isRefused 329 = .ok (.aload_n 0, 1) := by decide +kernel
theorem dL_isRefused_330 : decode cL_isRefused 330 = .ok (.bipush 7, 2) := by decide +kernel
theorem dL_isRefused_332 : decode cL_isRefused 332 = .ok (.iload 6, 2) := by decide +kernel
theorem dL_isRefused_334 : decode cL_isRefused 334 = .ok (.iload_n 3, 1) := by decide +kernel
theorem dL_isRefused_335 : decode cL_isRefused 335 = .ok (.ifCond .eq 12, 3) := by decide +kernel
theorem dL_isRefused_338 : decode cL_isRefused 338 = .ok (.iconst (-1), 1) := by decide +kernel
theorem dL_isRefused_339 : decode cL_isRefused 339 = .ok (.iload_n 2, 1) := by decide +kernel
theorem dL_isRefused_340 : decode cL_isRefused 340 = .ok (.bipush 30, 2) := by decide +kernel
theorem dL_isRefused_342 : decode cL_isRefused 342 = .ok (.irem, 1) := by decide +kernel
theorem dL_isRefused_343 : decode cL_isRefused 343 = .ok (.isub, 1) := by decide +kernel
theorem dL_isRefused_344 : decode cL_isRefused 344 = .ok (.goto 9, 3) := by decide +kernel
theorem dL_isRefused_347 : decode cL_isRefused 347 = .ok (.iconst 3, 1) := by decide +kernel
theorem dL_isRefused_348 : decode cL_isRefused 348 = .ok (.iload_n 2, 1) := by decide +kernel
theorem dL_isRefused_349 : decode cL_isRefused 349 = .ok (.bipush 30, 2) := by decide +kernel
theorem dL_isRefused_351 : decode cL_isRefused 351 = .ok (.irem, 1) := by decide +kernel
theorem dL_isRefused_352 : decode cL_isRefused 352 = .ok (.iadd, 1) := by decide +kernel
theorem dL_isRefused_353 : decode cL_isRefused 353 = .ok (.invokestatic 111, 3) := by decide +kernel
theorem dL_isRefused_356 : decode cL_isRefused 356 = .ok (.sipush (-1042), 3) := by decide +kernel
theorem dL_isRefused_359 : decode cL_isRefused 359 = .ok (.if_icmp .ne 37, 3) := by decide +kernel
theorem dL_isRefused_362 : decode cL_isRefused 362 = .ok (.aload_n 0, 1) := by decide +kernel
theorem dL_isRefused_363 : decode cL_isRefused 363 = .ok (.iconst 3, 1) := by decide +kernel
theorem dL_isRefused_364 : decode cL_isRefused 364 = .ok (.iload_n 3, 1) := by decide +kernel
theorem dL_isRefused_365 : decode cL_isRefused 365 = .ok (.ifCond .eq 12, 3) := by decide +kernel
theorem dL_isRefused_368 : decode cL_isRefused 368 = .ok (.iconst 0, 1) := by decide +kernel
theorem dL_isRefused_369 : decode cL_isRefused 369 = .ok (.iload_n 2, 1) := by decide +kernel
theorem dL_isRefused_370 : decode cL_isRefused 370 = .ok (.bipush 30, 2) := by decide +kernel
theorem dL_isRefused_372 : decode cL_isRefused 372 = .ok (.irem, 1) := by decide +kernel
theorem dL_isRefused_373 : decode cL_isRefused 373 = .ok (.isub, 1) := by decide +kernel
theorem dL_isRefused_374 : decode cL_isRefused 374 = .ok (.goto 9, 3) := by decide +kernel
theorem dL_isRefused_377 : decode cL_isRefused 377 = .ok (.iconst 3, 1) := by decide +kernel
theorem dL_isRefused_378 : decode cL_isRefused 378 = .ok (.iload_n 2, 1) := by decide +kernel
theorem dL_isRefused_379 : decode cL_isRefused 379 = .ok (.bipush 30, 2) := by decide +kernel
theorem dL_isRefused_381 : decode cL_isRefused 381 = .ok (.irem, 1) := by decide +kernel
theorem dL_isRefused_382 : decode cL_isRefused 382 = .ok (.iadd, 1) := by decide +kernel
theorem dL_isRefused_383 : decode cL_isRefused 383 = .ok (.invokestatic 91, 3) := by decide +kernel
theorem dL_isRefused_386 : decode cL_isRefused 386 = .ok (.sipush (-1042), 3) := by decide +kernel
theorem dL_isRefused_389 : decode cL_isRefused 389 = .ok (.if_icmp .ne 7, 3) := by decide +kernel
theorem dL_isRefused_392 : decode cL_isRefused 392 = .ok (.iconst 1, 1) := by decide +kernel
theorem dL_isRefused_393 : decode cL_isRefused 393 = .ok (.goto 4, 3) := by decide +kernel
theorem dL_isRefused_396 : decode cL_isRefused 396 = .ok (.iconst 0, 1) := by decide +kernel
theorem dL_isRefused_397 : decode cL_isRefused 397 = .ok (.istore 10, 2) := by decide +kernel
theorem dL_isRefused_399 : decode cL_isRefused 399 = .ok (.iconst 0, 1) := by decide +kernel
theorem dL_isRefused_400 : decode cL_isRefused 400 = .ok (.istore 11, 2) := by decide +kernel
theorem dL_isRefused_402 : decode cL_isRefused 402 = .ok (.iload 11, 2) := by decide +kernel
theorem dL_isRefused_404 : decode cL_isRefused 404 = .ok (.iconst 5, 1) := by decide +kernel
theorem dL_isRefused_405 : decode cL_isRefused 405 = .ok (.if_icmp .ge 41, 3) := by decide +kernel
theorem dL_isRefused_408 : decode cL_isRefused 408 = .ok (.iload 10, 2) := by decide +kernel
theorem dL_isRefused_410 : decode cL_isRefused 410 = .ok (.ifCond .eq 36, 3) := by decide +kernel
theorem dL_isRefused_413 : decode cL_isRefused 413 = .ok (.iload 11, 2) := by decide +kernel
theorem dL_isRefused_415 : decode cL_isRefused 415 = .ok (.iconst 3, 1) := by decide +kernel
theorem dL_isRefused_416 : decode cL_isRefused 416 = .ok (.if_icmp .eq 17, 3) := by decide +kernel
theorem dL_isRefused_419 : decode cL_isRefused 419 = .ok (.aload_n 0, 1) := by decide +kernel
theorem dL_isRefused_420 : decode cL_isRefused 420 = .ok (.iload 11, 2) := by decide +kernel
theorem dL_isRefused_422 : decode cL_isRefused 422 = .ok (.iload 4, 2) := by decide +kernel
theorem dL_isRefused_424 : decode cL_isRefused 424 = .ok (.invokestatic 91, 3) := by decide +kernel
theorem dL_isRefused_427 : decode cL_isRefused 427 = .ok (.sipush (-1041), 3) := by decide +kernel
theorem dL_isRefused_430 : decode cL_isRefused 430 = .ok (.if_icmp .ne 7, 3) := by decide +kernel
theorem dL_isRefused_433 : decode cL_isRefused 433 = .ok (.iconst 1, 1) := by decide +kernel
theorem dL_isRefused_434 : decode cL_isRefused 434 = .ok (.goto 4, 3) := by decide +kernel
theorem dL_isRefused_437 : decode cL_isRefused 437 = .ok (.iconst 0, 1) := by decide +kernel
theorem dL_isRefused_438 : decode cL_isRefused 438 = .ok (.istore 10, 2) := by decide +kernel
theorem dL_isRefused_440 : decode cL_isRefused 440 = .ok (.iinc 11 1, 3) := by decide +kernel
theorem dL_isRefused_443 : decode cL_isRefused 443 = .ok (.goto (-41), 3) := by decide +kernel
theorem dL_isRefused_446 : decode cL_isRefused 446 = .ok (.iconst 0, 1) := by decide +kernel
theorem dL_isRefused_447 : decode cL_isRefused 447 = .ok (.istore 11, 2) := by decide +kernel
theorem dL_isRefused_449 : decode cL_isRefused 449 = .ok (.iload 11, 2) := by decide +kernel
theorem dL_isRefused_451 : decode cL_isRefused 451 = .ok (.iload 7, 2) := by decide +kernel
theorem dL_isRefused_453 : decode cL_isRefused 453 = .ok (.if_icmp .ge 36, 3) := by decide +kernel
theorem dL_isRefused_456 : decode cL_isRefused 456 = .ok (.iload 10, 2) := by decide +kernel
theorem dL_isRefused_458 : decode cL_isRefused 458 = .ok (.ifCond .eq 31, 3) := by decide +kernel
theorem dL_isRefused_461 : decode cL_isRefused 461 = .ok (.aload_n 0, 1) := by decide +kernel
theorem dL_isRefused_462 : decode cL_isRefused 462 = .ok (.bipush 6, 2) := by decide +kernel
theorem dL_isRefused_464 : decode cL_isRefused 464 = .ok (.iload 11, 2) := by decide +kernel
theorem dL_isRefused_466 : decode cL_isRefused 466 = .ok (.iconst 0, 1) := by decide +kernel
theorem dL_isRefused_467 : decode cL_isRefused 467 = .ok (.invokestatic 111, 3) := by decide +kernel
theorem dL_isRefused_470 : decode cL_isRefused 470 = .ok (.sipush (-1043), 3) := by decide +kernel
theorem dL_isRefused_473 : decode cL_isRefused 473 = .ok (.if_icmp .ne 7, 3) := by decide +kernel
theorem dL_isRefused_476 : decode cL_isRefused 476 = .ok (.iconst 1, 1) := by decide +kernel
theorem dL_isRefused_477 : decode cL_isRefused 477 = .ok (.goto 4, 3) := by decide +kernel
theorem dL_isRefused_480 : decode cL_isRefused 480 = .ok (.iconst 0, 1) := by decide +kernel
theorem dL_isRefused_481 : decode cL_isRefused 481 = .ok (.istore 10, 2) := by decide +kernel
theorem dL_isRefused_483 : decode cL_isRefused 483 = .ok (.iinc 11 1, 3) := by decide +kernel
theorem dL_isRefused_486 : decode cL_isRefused 486 = .ok (.goto (-37), 3) := by decide +kernel
theorem dL_isRefused_489 : decode cL_isRefused 489 = .ok (.iload 10, 2) := by decide +kernel
theorem dL_isRefused_491 : decode cL_isRefused 491 = .ok (.ifCond .eq 104, 3) := by decide +kernel
theorem dL_isRefused_494 : decode cL_isRefused 494 = .ok (.aload_n 0, 1) := by decide +kernel
theorem dL_isRefused_495 : decode cL_isRefused 495 = .ok (.invokevirtual 86, 3) := by decide +kernel
theorem dL_isRefused_498 : decode cL_isRefused 498 = .ok (.ifCond .ge 32, 3) := by decide +kernel
theorem dL_isRefused_501 : decode cL_isRefused 501 = .ok (.aload_n 0, 1) := by decide +kernel
theorem dL_isRefused_502 : decode cL_isRefused 502 = .ok (.bipush 7, 2) := by decide +kernel
theorem dL_isRefused_504 : decode cL_isRefused 504 = .ok (.iload 6, 2) := by decide +kernel
theorem dL_isRefused_506 : decode cL_isRefused 506 = .ok (.iconst 1, 1) := by decide +kernel
theorem dL_isRefused_507 : decode cL_isRefused 507 = .ok (.invokestatic 111, 3) := by decide +kernel
theorem dL_isRefused_510 : decode cL_isRefused 510 = .ok (.sipush (-1043), 3) := by decide +kernel
theorem dL_isRefused_513 : decode cL_isRefused 513 = .ok (.if_icmp .ne 82, 3) := by decide +kernel
theorem dL_isRefused_516 : decode cL_isRefused 516 = .ok (.aload_n 0, 1) := by decide +kernel
theorem dL_isRefused_517 : decode cL_isRefused 517 = .ok (.bipush 8, 2) := by decide +kernel
theorem dL_isRefused_519 : decode cL_isRefused 519 = .ok (.iconst 0, 1) := by decide +kernel
theorem dL_isRefused_520 : decode cL_isRefused 520 = .ok (.iconst 0, 1) := by decide +kernel
theorem dL_isRefused_521 : decode cL_isRefused 521 = .ok (.invokestatic 111, 3) := by decide +kernel
theorem dL_isRefused_524 : decode cL_isRefused 524 = .ok (.sipush (-1043), 3) := by decide +kernel
theorem dL_isRefused_527 : decode cL_isRefused 527 = .ok (.if_icmp .ne 68, 3) := by decide +kernel
theorem dL_isRefused_530 : decode cL_isRefused 530 = .ok (.aload_n 1, 1) := by decide +kernel
theorem dL_isRefused_531 : decode cL_isRefused 531 = .ok (.iconst 0, 1) := by decide +kernel
theorem dL_isRefused_532 : decode cL_isRefused 532 = .ok (.iaload, 1) := by decide +kernel
theorem dL_isRefused_533 : decode cL_isRefused 533 = .ok (.bipush 6, 2) := by decide +kernel
theorem dL_isRefused_535 : decode cL_isRefused 535 = .ok (.if_icmp .lt 21, 3) := by decide +kernel
theorem dL_isRefused_538 : decode cL_isRefused 538 = .ok (.aload_n 0, 1) := by decide +kernel
theorem dL_isRefused_539 : decode cL_isRefused 539 = .ok (.iconst 5, 1) := by decide +kernel
theorem dL_isRefused_540 : decode cL_isRefused 540 = .ok (.iconst 1, 1) := by decide +kernel
theorem dL_isRefused_541 : decode cL_isRefused 541 = .ok (.iload_n 2, 1) := by decide +kernel
theorem dL_isRefused_542 : decode cL_isRefused 542 = .ok (.bipush 9, 2) := by decide +kernel
theorem dL_isRefused_544 : decode cL_isRefused 544 = .ok (.irem, 1) := by decide +kernel
theorem dL_isRefused_545 : decode cL_isRefused 545 = .ok (.iadd, 1) := by decide +kernel
theorem dL_isRefused_546 : decode cL_isRefused 546 = .ok (.iconst 0, 1) := by decide +kernel
theorem dL_isRefused_547 : decode cL_isRefused 547 = .ok (.invokestatic 111, 3) := by decide +kernel
theorem dL_isRefused_550 : decode cL_isRefused 550 = .ok (.sipush (-1043), 3) := by decide +kernel
theorem dL_isRefused_553 : decode cL_isRefused 553 = .ok (.if_icmp .ne 42, 3) := by decide +kernel
theorem dL_isRefused_556 : decode cL_isRefused 556 = .ok (.aload_n 0, 1) := by decide +kernel
theorem dL_isRefused_557 : decode cL_isRefused 557 = .ok (.iload 6, 2) := by decide +kernel
theorem dL_isRefused_559 : decode cL_isRefused 559 = .ok (.invokevirtual 48, 3) := by decide +kernel
theorem dL_isRefused_562 : decode cL_isRefused 562 = .ok (.ldc 101, 2) := by decide +kernel
theorem dL_isRefused_564 : decode cL_isRefused 564 = .ok (.if_icmp .lt 17, 3) := by decide +kernel
theorem dL_isRefused_567 : decode cL_isRefused 567 = .ok (.aload_n 0, 1) := by decide +kernel
theorem dL_isRefused_568 : decode cL_isRefused 568 = .ok (.iconst 0, 1) := by decide +kernel
theorem dL_isRefused_569 : decode cL_isRefused 569 = .ok (.iload 6, 2) := by decide +kernel
theorem dL_isRefused_571 : decode cL_isRefused 571 = .ok (.iconst 1, 1) := by decide +kernel
theorem dL_isRefused_572 : decode cL_isRefused 572 = .ok (.invokestatic 111, 3) := by decide +kernel
theorem dL_isRefused_575 : decode cL_isRefused 575 = .ok (.sipush (-1043), 3) := by decide +kernel
theorem dL_isRefused_578 : decode cL_isRefused 578 = .ok (.if_icmp .ne 17, 3) := by decide +kernel
theorem dL_isRefused_581 : decode cL_isRefused 581 = .ok (.aload_n 0, 1) := by decide +kernel
theorem dL_isRefused_582 : decode cL_isRefused 582 = .ok (.invokestatic 107, 3) := by decide +kernel
theorem dL_isRefused_585 : decode cL_isRefused 585 = .ok (.lload 8, 2) := by decide +kernel
theorem dL_isRefused_587 : decode cL_isRefused 587 = .ok (.lcmp, 1) := by decide +kernel
theorem dL_isRefused_588 : decode cL_isRefused 588 = .ok (.ifCond .ne 7, 3) := by decide +kernel
theorem dL_isRefused_591 : decode cL_isRefused 591 = .ok (.iconst 1, 1) := by decide +kernel
theorem dL_isRefused_592 : decode cL_isRefused 592 = .ok (.goto 4, 3) := by decide +kernel
theorem dL_isRefused_595 : decode cL_isRefused 595 = .ok (.iconst 0, 1) := by decide +kernel
theorem dL_isRefused_596 : decode cL_isRefused 596 = .ok (.ireturn, 1) := by decide +kernel
