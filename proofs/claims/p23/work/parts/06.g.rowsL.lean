theorem goodIn_cx {big a : List Cond} {c : Cond} (hc : GoodIn big [c]) (ha : GoodIn big a) : GoodIn big (c :: a) := fun w h => (List.mem_cons.mp h).elim (fun e => hc w (by rw [e]; exact List.mem_cons_self)) (ha w)
set_option maxRecDepth 20000 in
theorem ggL_law_L_isRefused_r1 : GoodIn wsL_law wsL_isRefused_r1 := goodIn_r _ [28, 4, 29, 30, 31, 2, 32, 33, 34, 35, 36, 26, 37, 38, 39, 40, 41, 42, 43, 44, 45, 46, 47, 12] (by decide +kernel) (by decide +kernel)
set_option maxRecDepth 20000 in
theorem ggL_law_L_isRefused_r2 : GoodIn wsL_law wsL_isRefused_r2 := goodIn_r _ [48, 49, 50, 51, 52, 53, 54, 55, 56, 57, 58, 59, 60, 61, 62, 63, 64, 65, 66, 67, 68, 69, 70, 71] (by decide +kernel) (by decide +kernel)
set_option maxRecDepth 20000 in
theorem ggL_law_L_isRefused_r3 : GoodIn wsL_law wsL_isRefused_r3 := goodIn_r _ [72, 73, 74, 75, 76, 77, 78, 79, 13, 14, 15, 80, 81, 82, 83, 84, 85, 86, 87, 18, 16, 88, 89, 90] (by decide +kernel) (by decide +kernel)
set_option maxRecDepth 20000 in
theorem ggL_law_L_isRefused_r4 : GoodIn wsL_law wsL_isRefused_r4 := goodIn_r _ [91, 92, 93, 94, 95, 96, 97, 98, 99, 100, 101, 19, 22, 102, 103, 104, 105, 106, 107, 108, 109, 110, 111, 112] (by decide +kernel) (by decide +kernel)
set_option maxRecDepth 20000 in
theorem ggL_law_L_isRefused_r5 : GoodIn wsL_law wsL_isRefused_r5 := goodIn_r _ [113, 114, 115, 116, 117, 118, 119, 120, 121, 122, 123, 124, 125, 126, 127, 128, 129, 130, 131, 132, 23, 133, 134, 135] (by decide +kernel) (by decide +kernel)
set_option maxRecDepth 20000 in
theorem ggL_law_L_isRefused_r6 : GoodIn wsL_law wsL_isRefused_r6 := goodIn_r _ [136, 17, 137, 138, 139, 140, 141, 142, 143, 144, 145, 146, 147, 148, 149, 150, 151, 152, 153, 154, 155, 156, 157, 158] (by decide +kernel) (by decide +kernel)
set_option maxRecDepth 20000 in
theorem ggL_law_L_isRefused_r7 : GoodIn wsL_law wsL_isRefused_r7 := goodIn_r _ [159, 160, 161, 162, 163, 164, 165, 166, 167, 168, 169, 170, 171, 172, 173, 174, 175, 176, 177, 178, 179, 180, 181, 182] (by decide +kernel) (by decide +kernel)
set_option maxRecDepth 20000 in
theorem ggL_law_L_isRefused_r8 : GoodIn wsL_law wsL_isRefused_r8 := goodIn_r _ [183, 184, 185, 186, 187, 188, 189, 190, 191, 192, 193, 194, 195, 196, 197, 198, 199, 200, 201, 202, 203, 204, 205, 21] (by decide +kernel) (by decide +kernel)
set_option maxRecDepth 20000 in
theorem ggL_law_L_isRefused_r9 : GoodIn wsL_law wsL_isRefused_r9 := goodIn_r _ [206, 207, 208, 209, 210, 211, 212, 213, 214, 215, 216, 217, 218, 219, 220, 221, 222] (by decide +kernel) (by decide +kernel)
set_option maxRecDepth 20000 in
theorem ggL_law_L_isRefused_x : GoodIn wsL_law wsX00 := goodIn_r _ [246, 247, 248, 249, 250, 251, 252, 253, 254, 255, 256, 257, 258, 259, 260] (by decide +kernel) (by decide +kernel)
set_option maxRecDepth 20000 in
theorem ggL_law_L_isRefused_c : GoodIn wsL_law [(Cond.code yL_isRefused cL_isRefused 12 (some .boolean) : Cond)] := goodIn_r _ [27] (by decide +kernel) (by decide +kernel)
theorem ggL_law_L_isRefused : GoodIn wsL_law wsL_isRefused := goodIn_ca (goodIn_ca (goodIn_ca (goodIn_ca (goodIn_cx ggL_law_L_isRefused_c (goodIn_app (goodIn_app ggL_law_L_isRefused_r1 (goodIn_app ggL_law_L_isRefused_r2 (goodIn_app ggL_law_L_isRefused_r3 (goodIn_app ggL_law_L_isRefused_r4 (goodIn_app ggL_law_L_isRefused_r5 (goodIn_app ggL_law_L_isRefused_r6 (goodIn_app ggL_law_L_isRefused_r7 (goodIn_app ggL_law_L_isRefused_r8 ggL_law_L_isRefused_r9)))))))) ggL_law_L_isRefused_x)) (goodIn_sub (fun _ h => List.mem_append_left _ (List.mem_append_left _ (List.mem_append_left _ (List.mem_append_right _ h)))) (by decide +kernel))) (goodIn_sub (fun _ h => List.mem_append_left _ (List.mem_append_left _ (List.mem_append_right _ h))) (by decide +kernel))) (goodIn_sub (fun _ h => List.mem_append_left _ (List.mem_append_right _ h)) (by decide +kernel))) (goodIn_sub (fun _ h => List.mem_append_right _ h) (by decide +kernel))
set_option maxRecDepth 20000 in
theorem gL_law_L_isRefused : GoodIn wsL_law (va_wsS RL 117 yL_isRefused wsL_isRefused) := goodIn_app (goodIn_of _ (by decide +kernel)) ggL_law_L_isRefused
set_option maxRecDepth 20000 in
theorem ggL_law_L_isReleased_r1 : GoodIn wsL_law wsL_isReleased_r1 := goodIn_r _ [29, 30, 31, 2, 32, 33, 34, 44, 45, 46, 47, 12, 88, 89, 90, 91, 92, 93, 94, 95, 96, 97, 18, 84] (by decide +kernel) (by decide +kernel)
set_option maxRecDepth 20000 in
theorem ggL_law_L_isReleased_r2 : GoodIn wsL_law wsL_isReleased_r2 := goodIn_r _ [85, 86, 87, 16, 73, 74, 75, 163, 164, 26, 165, 61, 62, 166, 167, 168, 169, 170, 171, 172, 173, 13, 68, 69] (by decide +kernel) (by decide +kernel)
set_option maxRecDepth 20000 in
theorem ggL_law_L_isReleased_r3 : GoodIn wsL_law wsL_isReleased_r3 := goodIn_r _ [70, 71, 72, 174, 175, 176, 177, 178, 179, 180, 14, 181, 182, 183, 184, 185, 186, 187, 188, 189, 190, 191, 192, 17] (by decide +kernel) (by decide +kernel)
set_option maxRecDepth 20000 in
theorem ggL_law_L_isReleased_r4 : GoodIn wsL_law wsL_isReleased_r4 := goodIn_r _ [193, 194, 195, 196, 52, 197, 198, 199, 200, 201, 19, 202, 203, 204, 205, 21, 206, 207, 208, 209, 112, 210, 211, 212] (by decide +kernel) (by decide +kernel)
set_option maxRecDepth 20000 in
theorem ggL_law_L_isReleased_r5 : GoodIn wsL_law wsL_isReleased_r5 := goodIn_r _ [213, 57, 108, 109, 110, 111, 113, 214, 125, 126, 127, 128, 114, 115, 116, 117, 22, 118, 119, 120, 129, 130, 131, 132] (by decide +kernel) (by decide +kernel)
set_option maxRecDepth 20000 in
theorem ggL_law_L_isReleased_r6 : GoodIn wsL_law wsL_isReleased_r6 := goodIn_r _ [23, 133, 134, 135, 136, 137, 138, 139, 140, 141, 142, 143, 144, 145, 146, 147, 148, 149, 150, 151, 152, 153, 154, 215] (by decide +kernel) (by decide +kernel)
set_option maxRecDepth 20000 in
theorem ggL_law_L_isReleased_r7 : GoodIn wsL_law wsL_isReleased_r7 := goodIn_r _ [216, 217, 218, 15, 219, 220, 221, 222, 121, 122, 123, 124, 102, 103, 104, 105, 106, 107, 48, 49, 50, 51, 53, 54] (by decide +kernel) (by decide +kernel)
set_option maxRecDepth 20000 in
theorem ggL_law_L_isReleased_r8 : GoodIn wsL_law wsL_isReleased_r8 := goodIn_r _ [55, 56, 98, 99, 100, 101, 64, 65, 66, 67, 80, 81, 82, 83] (by decide +kernel) (by decide +kernel)
set_option maxRecDepth 20000 in
theorem ggL_law_L_isReleased_x : GoodIn wsL_law wsX00 := goodIn_r _ [246, 247, 248, 249, 250, 251, 252, 253, 254, 255, 256, 257, 258, 259, 260] (by decide +kernel) (by decide +kernel)
set_option maxRecDepth 20000 in
theorem ggL_law_L_isReleased_c : GoodIn wsL_law [(Cond.code yL_isReleased cL_isReleased 11 (some .boolean) : Cond)] := goodIn_r _ [233] (by decide +kernel) (by decide +kernel)
theorem ggL_law_L_isReleased : GoodIn wsL_law wsL_isReleased := goodIn_ca (goodIn_ca (goodIn_ca (goodIn_ca (goodIn_cx ggL_law_L_isReleased_c (goodIn_app (goodIn_app ggL_law_L_isReleased_r1 (goodIn_app ggL_law_L_isReleased_r2 (goodIn_app ggL_law_L_isReleased_r3 (goodIn_app ggL_law_L_isReleased_r4 (goodIn_app ggL_law_L_isReleased_r5 (goodIn_app ggL_law_L_isReleased_r6 (goodIn_app ggL_law_L_isReleased_r7 ggL_law_L_isReleased_r8))))))) ggL_law_L_isReleased_x)) (goodIn_sub (fun _ h => List.mem_append_left _ (List.mem_append_left _ (List.mem_append_right _ h))) (by decide +kernel))) (goodIn_sub (fun _ h => List.mem_append_right _ h) (by decide +kernel))) (goodIn_sub (fun _ h => List.mem_append_left _ (List.mem_append_left _ (List.mem_append_left _ (List.mem_append_right _ h)))) (by decide +kernel))) (goodIn_sub (fun _ h => List.mem_append_left _ (List.mem_append_right _ h)) (by decide +kernel))
set_option maxRecDepth 20000 in
theorem gL_law_L_isReleased : GoodIn wsL_law (va_wsS RL 129 yL_isReleased wsL_isReleased) := goodIn_app (goodIn_of _ (by decide +kernel)) ggL_law_L_isReleased
set_option maxRecDepth 20000 in
theorem ggL_law_L_areShares_r1 : GoodIn wsL_law wsL_areShares_r1 := goodIn_r _ [29, 30, 31, 2, 32, 33, 34, 44, 45, 46, 47, 12, 58, 59, 26, 60, 61, 62, 63, 64, 65, 66, 67, 68] (by decide +kernel) (by decide +kernel)
set_option maxRecDepth 20000 in
theorem ggL_law_L_areShares_r2 : GoodIn wsL_law wsL_areShares_r2 := goodIn_r _ [69, 70, 71, 72, 73, 74, 75, 76, 77, 78, 79, 13, 14, 15, 80, 81, 82, 83, 84, 85, 86, 87, 18, 16] (by decide +kernel) (by decide +kernel)
set_option maxRecDepth 20000 in
theorem ggL_law_L_areShares_r3 : GoodIn wsL_law wsL_areShares_r3 := goodIn_r _ [88, 89, 90, 91, 92, 93, 94, 95, 96, 97, 98, 99, 100, 101, 19, 22, 102, 103, 104, 105, 106, 107, 108, 109] (by decide +kernel) (by decide +kernel)
set_option maxRecDepth 20000 in
theorem ggL_law_L_areShares_r4 : GoodIn wsL_law wsL_areShares_r4 := goodIn_r _ [110, 111, 112, 113, 114, 115, 116, 117, 118, 119, 120, 121, 122, 123, 124, 125, 126, 127, 128, 129, 130, 131, 132, 23] (by decide +kernel) (by decide +kernel)
set_option maxRecDepth 20000 in
theorem ggL_law_L_areShares_r5 : GoodIn wsL_law wsL_areShares_r5 := goodIn_r _ [133, 134, 135, 136, 17, 137, 138, 139, 140, 141, 142, 143, 144, 145, 146, 147, 148, 149, 150, 151, 52, 152, 153, 154] (by decide +kernel) (by decide +kernel)
set_option maxRecDepth 20000 in
theorem ggL_law_L_areShares_r6 : GoodIn wsL_law wsL_areShares_r6 := goodIn_r _ [155, 156, 157, 158, 159, 160, 161, 162, 243, 244, 245, 48, 49, 50, 51] (by decide +kernel) (by decide +kernel)
set_option maxRecDepth 20000 in
theorem ggL_law_L_areShares_x : GoodIn wsL_law wsX00 := goodIn_r _ [246, 247, 248, 249, 250, 251, 252, 253, 254, 255, 256, 257, 258, 259, 260] (by decide +kernel) (by decide +kernel)
set_option maxRecDepth 20000 in
theorem ggL_law_L_areShares_c : GoodIn wsL_law [(Cond.code yL_areShares cL_areShares 15 (some .boolean) : Cond)] := goodIn_r _ [242] (by decide +kernel) (by decide +kernel)
theorem ggL_law_L_areShares : GoodIn wsL_law wsL_areShares := goodIn_ca (goodIn_ca (goodIn_ca (goodIn_cx ggL_law_L_areShares_c (goodIn_app (goodIn_app ggL_law_L_areShares_r1 (goodIn_app ggL_law_L_areShares_r2 (goodIn_app ggL_law_L_areShares_r3 (goodIn_app ggL_law_L_areShares_r4 (goodIn_app ggL_law_L_areShares_r5 ggL_law_L_areShares_r6))))) ggL_law_L_areShares_x)) (goodIn_sub (fun _ h => List.mem_append_left _ (List.mem_append_left _ (List.mem_append_left _ (List.mem_append_right _ h)))) (by decide +kernel))) (goodIn_sub (fun _ h => List.mem_append_left _ (List.mem_append_left _ (List.mem_append_right _ h))) (by decide +kernel))) (goodIn_sub (fun _ h => List.mem_append_left _ (List.mem_append_right _ h)) (by decide +kernel))
set_option maxRecDepth 20000 in
theorem gL_law_L_areShares : GoodIn wsL_law (va_wsS RL 140 yL_areShares wsL_areShares) := goodIn_app (goodIn_of _ (by decide +kernel)) ggL_law_L_areShares

