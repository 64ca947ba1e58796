set_option maxRecDepth 20000 in
theorem ggL_law_X0_init : GoodIn wsL_law wsX0_init := goodIn_r _ [8, 9, 10, 11, 3, 12, 13, 14, 15, 16, 17, 18, 19, 20, 21, 22, 23, 246, 247, 248, 249, 250, 251, 252, 253, 254, 255, 256, 257, 258, 259, 260] (by decide +kernel) (by decide +kernel)
set_option maxRecDepth 20000 in
theorem gL_law_X0_init : GoodIn wsL_law (wsX0_init) := ggL_law_X0_init
set_option maxRecDepth 20000 in
theorem ggL_law_L_dice : GoodIn wsL_law wsL_dice := goodIn_r _ [225, 226, 227] (by decide +kernel) (by decide +kernel)
set_option maxRecDepth 20000 in
theorem gL_law_L_dice : GoodIn wsL_law (va_wsS RL 121 yL_dice wsL_dice) := goodIn_app (goodIn_of _ (by decide +kernel)) ggL_law_L_dice
set_option maxRecDepth 20000 in
theorem ggL_law_X0_current : GoodIn wsL_law wsX0_current := goodIn_r _ [32, 33, 34, 246, 247, 248, 249, 250, 251, 252, 253, 254, 255, 256, 257, 258, 259, 260] (by decide +kernel) (by decide +kernel)
set_option maxRecDepth 20000 in
theorem gL_law_X0_current : GoodIn wsL_law (wsV RL 86 RX0 yX0_current wsX0_current) := goodIn_app (goodIn_of _ (by decide +kernel)) ggL_law_X0_current
set_option maxRecDepth 20000 in
theorem ggL_law_X0_in : GoodIn wsL_law wsX0_in := goodIn_ca (goodIn_r _ [67, 12, 68, 69, 2, 70, 71, 72, 73, 74, 75, 246, 247, 248, 249, 250, 251, 252, 253, 254, 255, 256, 257, 258, 259, 260] (by decide +kernel) (by decide +kernel)) (goodIn_sub (fun _ h => List.mem_append_left _ (List.mem_append_left _ (List.mem_append_left _ (List.mem_append_right _ h)))) (by decide +kernel))
set_option maxRecDepth 20000 in
theorem gL_law_X0_in : GoodIn wsL_law (wsV RL 48 RX0 yX0_in wsX0_in) := goodIn_app (goodIn_of _ (by decide +kernel)) ggL_law_X0_in
set_option maxRecDepth 20000 in
theorem ggL_law_L_act : GoodIn wsL_law wsL_act := goodIn_ca (goodIn_ca (goodIn_ca (goodIn_r _ [165, 61, 62, 166, 167, 168, 169, 2, 170, 171, 172, 12, 173, 13, 68, 69, 70, 71, 72, 73, 74, 75, 174, 175, 176, 92, 93, 177, 178, 179, 180, 14, 18, 181, 182, 183, 184, 16, 185, 186, 187, 188, 189, 190, 191, 192, 17, 193, 194, 195, 196, 52, 197, 198, 199, 200, 201, 34, 19, 202, 203, 204, 205, 33, 21, 206, 207, 208, 209, 112, 30, 31, 32, 210, 211, 212, 213, 57, 108, 109, 110, 111, 113, 45, 46, 47, 214, 89, 90, 91, 94, 95, 96, 97, 84, 85, 86, 87, 125, 126, 127, 128, 114, 115, 116, 117, 22, 118, 119, 120, 129, 130, 131, 132, 23, 133, 134, 135, 136, 137, 138, 139, 140, 141, 142, 143, 144, 145, 146, 147, 148, 149, 150, 151, 152, 153, 154, 215, 216, 217, 218, 15, 219, 220, 221, 222, 246, 247, 248, 249, 250, 251, 252, 253, 254, 255, 256, 257, 258, 259, 260] (by decide +kernel) (by decide +kernel)) (goodIn_sub (fun _ h => List.mem_append_right _ h) (by decide +kernel))) (goodIn_sub (fun _ h => List.mem_append_left _ (List.mem_append_left _ (List.mem_append_left _ (List.mem_append_right _ h)))) (by decide +kernel))) (goodIn_sub (fun _ h => List.mem_append_left _ (List.mem_append_left _ (List.mem_append_right _ h))) (by decide +kernel))
set_option maxRecDepth 20000 in
theorem gL_law_L_act : GoodIn wsL_law (va_wsS RL 111 yL_act wsL_act) := goodIn_app (goodIn_of _ (by decide +kernel)) ggL_law_L_act
set_option maxRecDepth 20000 in
theorem ggL_law_X0_pot : GoodIn wsL_law wsX0_pot := goodIn_r _ [51, 52, 246, 247, 248, 249, 250, 251, 252, 253, 254, 255, 256, 257, 258, 259, 260] (by decide +kernel) (by decide +kernel)
set_option maxRecDepth 20000 in
theorem gL_law_X0_pot : GoodIn wsL_law (wsV RL 76 RX0 yX0_pot wsX0_pot) := goodIn_app (goodIn_of _ (by decide +kernel)) ggL_law_X0_pot
set_option maxRecDepth 20000 in
theorem ggL_law_L_areSums : GoodIn wsL_law wsL_areSums := goodIn_ca (goodIn_r _ [236, 4, 5, 64, 65, 66, 2, 67, 12, 68, 69, 70, 71, 72, 73, 74, 75, 76, 77, 78, 79, 13, 14, 15, 48, 49, 50, 51, 52, 44, 45, 46, 47, 53, 54, 55, 56, 57, 246, 247, 248, 249, 250, 251, 252, 253, 254, 255, 256, 257, 258, 259, 260] (by decide +kernel) (by decide +kernel)) (goodIn_sub (fun _ h => List.mem_append_left _ (List.mem_append_left _ (List.mem_append_left _ (List.mem_append_right _ h)))) (by decide +kernel))
set_option maxRecDepth 20000 in
theorem gL_law_L_areSums : GoodIn wsL_law (va_wsS RL 133 yL_areSums wsL_areSums) := goodIn_app (goodIn_of _ (by decide +kernel)) ggL_law_L_areSums
set_option maxRecDepth 20000 in
theorem ggL_law_L_areSpeakers : GoodIn wsL_law wsL_areSpeakers := goodIn_ca (goodIn_ca (goodIn_r _ [239, 80, 81, 82, 2, 83, 68, 69, 70, 71, 72, 73, 74, 75, 84, 85, 86, 87, 18, 16, 64, 65, 66, 67, 12, 88, 89, 90, 91, 92, 93, 94, 95, 96, 97, 246, 247, 248, 249, 250, 251, 252, 253, 254, 255, 256, 257, 258, 259, 260] (by decide +kernel) (by decide +kernel)) (goodIn_sub (fun _ h => List.mem_append_left _ (List.mem_append_left _ (List.mem_append_left _ (List.mem_append_right _ h)))) (by decide +kernel))) (goodIn_sub (fun _ h => List.mem_append_left _ (List.mem_append_left _ (List.mem_append_right _ h))) (by decide +kernel))
set_option maxRecDepth 20000 in
theorem gL_law_L_areSpeakers : GoodIn wsL_law (va_wsS RL 137 yL_areSpeakers wsL_areSpeakers) := goodIn_app (goodIn_of _ (by decide +kernel)) ggL_law_L_areSpeakers
