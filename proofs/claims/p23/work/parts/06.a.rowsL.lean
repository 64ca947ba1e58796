theorem dL_dice_0 : decode cL_dice 0 = .ok (.iload_n 1, 1) := by decide +kernel
theorem dL_dice_1 : decode cL_dice 1 = .ok (.aload_n 0, 1) := by decide +kernel
theorem dL_dice_2 : decode cL_dice 2 = .ok (.arraylength, 1) := by decide +kernel
theorem dL_dice_3 : decode cL_dice 3 = .ok (.if_icmp .ge 9, 3) := by decide +kernel
theorem dL_dice_6 : decode cL_dice 6 = .ok (.aload_n 0, 1) := by decide +kernel
theorem dL_dice_7 : decode cL_dice 7 = .ok (.iload_n 1, 1) := by decide +kernel
theorem dL_dice_8 : decode cL_dice 8 = .ok (.iaload, 1) := by decide +kernel
theorem dL_dice_9 : decode cL_dice 9 = .ok (.goto 22, 3) := by decide +kernel
theorem dL_dice_12 : decode cL_dice 12 = .ok (.ldc 7, 2) := by decide +kernel
theorem dL_dice_14 : decode cL_dice 14 = .ok (.iload_n 1, 1) := by decide +kernel
theorem dL_dice_15 : decode cL_dice 15 = .ok (.sipush 193, 3) := by decide +kernel
theorem dL_dice_18 : decode cL_dice 18 = .ok (.iadd, 1) := by decide +kernel
theorem dL_dice_19 : decode cL_dice 19 = .ok (.imul, 1) := by decide +kernel
theorem dL_dice_20 : decode cL_dice 20 = .ok (.sipush 611, 3) := by decide +kernel
theorem dL_dice_23 : decode cL_dice 23 = .ok (.iload_n 1, 1) := by decide +kernel
theorem dL_dice_24 : decode cL_dice 24 = .ok (.imul, 1) := by decide +kernel
theorem dL_dice_25 : decode cL_dice 25 = .ok (.iload_n 1, 1) := by decide +kernel
theorem dL_dice_26 : decode cL_dice 26 = .ok (.imul, 1) := by decide +kernel
theorem dL_dice_27 : decode cL_dice 27 = .ok (.iadd, 1) := by decide +kernel
theorem dL_dice_28 : decode cL_dice 28 = .ok (.bipush 101, 2) := by decide +kernel
theorem dL_dice_30 : decode cL_dice 30 = .ok (.iadd, 1) := by decide +kernel
theorem dL_dice_31 : decode cL_dice 31 = .ok (.ldc 8, 2) := by decide +kernel
theorem dL_dice_33 : decode cL_dice 33 = .ok (.iand, 1) := by decide +kernel
theorem dL_dice_34 : decode cL_dice 34 = .ok (.ireturn, 1) := by decide +kernel
set_option maxRecDepth 20000 in
theorem ggL_act_X0_give : GoodIn wsL_act wsX0_give := goodIn_ca (goodIn_ca (goodIn_ca (goodIn_r _ [8, 9, 10, 11, 12, 13, 14, 15, 7, 16, 17, 18, 19, 20, 21, 22, 23, 24, 25, 26, 146, 147, 148, 149, 150, 151, 152, 153, 154, 155, 156, 157, 158, 159, 160] (by decide +kernel) (by decide +kernel)) (goodIn_sub (fun _ h => List.mem_cons_of_mem _ (List.mem_append_left _ (List.mem_append_left _ (List.mem_append_right _ h)))) (by decide +kernel))) (goodIn_sub (fun _ h => List.mem_cons_of_mem _ (List.mem_append_left _ (List.mem_append_right _ h))) (by decide +kernel))) (goodIn_sub (fun _ h => List.mem_cons_of_mem _ (List.mem_append_right _ h)) (by decide +kernel))
set_option maxRecDepth 20000 in
theorem gL_act_X0_give : GoodIn wsL_act (wsV RL 9 RX0 yX0_give wsX0_give) := goodIn_app (goodIn_of _ (by decide +kernel)) ggL_act_X0_give
set_option maxRecDepth 20000 in
theorem ggL_act_X0_leave : GoodIn wsL_act wsX0_leave := goodIn_ca (goodIn_r _ [30, 11, 31, 32, 14, 15, 7, 16, 17, 18, 19, 20, 21, 146, 147, 148, 149, 150, 151, 152, 153, 154, 155, 156, 157, 158, 159, 160] (by decide +kernel) (by decide +kernel)) (goodIn_sub (fun _ h => List.mem_cons_of_mem _ (List.mem_append_left _ (List.mem_append_right _ h))) (by decide +kernel))
set_option maxRecDepth 20000 in
theorem gL_act_X0_leave : GoodIn wsL_act (wsV RL 15 RX0 yX0_leave wsX0_leave) := goodIn_app (goodIn_of _ (by decide +kernel)) ggL_act_X0_leave
set_option maxRecDepth 20000 in
theorem ggL_act_X0_trust : GoodIn wsL_act wsX0_trust := goodIn_ca (goodIn_ca (goodIn_r _ [36, 9, 10, 37, 14, 15, 7, 16, 17, 18, 19, 20, 21, 38, 39, 40, 41, 146, 147, 148, 149, 150, 151, 152, 153, 154, 155, 156, 157, 158, 159, 160] (by decide +kernel) (by decide +kernel)) (goodIn_sub (fun _ h => List.mem_cons_of_mem _ (List.mem_append_left _ (List.mem_append_left _ (List.mem_append_right _ h)))) (by decide +kernel))) (goodIn_sub (fun _ h => List.mem_cons_of_mem _ (List.mem_append_left _ (List.mem_append_right _ h))) (by decide +kernel))
set_option maxRecDepth 20000 in
theorem gL_act_X0_trust : GoodIn wsL_act (wsV RL 19 RX0 yX0_trust wsX0_trust) := goodIn_app (goodIn_of _ (by decide +kernel)) ggL_act_X0_trust
set_option maxRecDepth 20000 in
theorem ggL_act_X0_setPerson : GoodIn wsL_act wsX0_setPerson := goodIn_ca (goodIn_r _ [45, 17, 18, 46, 14, 15, 7, 16, 19, 20, 21, 146, 147, 148, 149, 150, 151, 152, 153, 154, 155, 156, 157, 158, 159, 160] (by decide +kernel) (by decide +kernel)) (goodIn_sub (fun _ h => List.mem_cons_of_mem _ (List.mem_append_left _ (List.mem_append_right _ h))) (by decide +kernel))
set_option maxRecDepth 20000 in
theorem gL_act_X0_setPerson : GoodIn wsL_act (wsV RL 22 RX0 yX0_setPerson wsX0_setPerson) := goodIn_app (goodIn_of _ (by decide +kernel)) ggL_act_X0_setPerson
set_option maxRecDepth 20000 in
theorem ggL_act_X0_fillPot : GoodIn wsL_act wsX0_fillPot := goodIn_ca (goodIn_ca (goodIn_r _ [50, 9, 10, 12, 51, 52, 22, 23, 7, 24, 25, 26, 146, 147, 148, 149, 150, 151, 152, 153, 154, 155, 156, 157, 158, 159, 160] (by decide +kernel) (by decide +kernel)) (goodIn_sub (fun _ h => List.mem_cons_of_mem _ (List.mem_append_left _ (List.mem_append_left _ (List.mem_append_right _ h)))) (by decide +kernel))) (goodIn_sub (fun _ h => List.mem_cons_of_mem _ (List.mem_append_right _ h)) (by decide +kernel))
set_option maxRecDepth 20000 in
theorem gL_act_X0_fillPot : GoodIn wsL_act (wsV RL 25 RX0 yX0_fillPot wsX0_fillPot) := goodIn_app (goodIn_of _ (by decide +kernel)) ggL_act_X0_fillPot
set_option maxRecDepth 20000 in
theorem ggL_act_X0_addMilestone : GoodIn wsL_act wsX0_addMilestone := goodIn_ca (goodIn_ca (goodIn_r _ [56, 9, 10, 12, 57, 58, 22, 23, 7, 24, 25, 26, 146, 147, 148, 149, 150, 151, 152, 153, 154, 155, 156, 157, 158, 159, 160] (by decide +kernel) (by decide +kernel)) (goodIn_sub (fun _ h => List.mem_cons_of_mem _ (List.mem_append_left _ (List.mem_append_left _ (List.mem_append_right _ h)))) (by decide +kernel))) (goodIn_sub (fun _ h => List.mem_cons_of_mem _ (List.mem_append_right _ h)) (by decide +kernel))
set_option maxRecDepth 20000 in
theorem gL_act_X0_addMilestone : GoodIn wsL_act (wsV RL 28 RX0 yX0_addMilestone wsX0_addMilestone) := goodIn_app (goodIn_of _ (by decide +kernel)) ggL_act_X0_addMilestone
set_option maxRecDepth 20000 in
theorem ggL_act_X0_prove : GoodIn wsL_act wsX0_prove := goodIn_ca (goodIn_ca (goodIn_r _ [62, 17, 18, 9, 10, 57, 63, 64, 146, 147, 148, 149, 150, 151, 152, 153, 154, 155, 156, 157, 158, 159, 160] (by decide +kernel) (by decide +kernel)) (goodIn_sub (fun _ h => List.mem_cons_of_mem _ (List.mem_append_left _ (List.mem_append_right _ h))) (by decide +kernel))) (goodIn_sub (fun _ h => List.mem_cons_of_mem _ (List.mem_append_left _ (List.mem_append_left _ (List.mem_append_right _ h)))) (by decide +kernel))
set_option maxRecDepth 20000 in
theorem gL_act_X0_prove : GoodIn wsL_act (wsV RL 31 RX0 yX0_prove wsX0_prove) := goodIn_app (goodIn_of _ (by decide +kernel)) ggL_act_X0_prove
set_option maxRecDepth 20000 in
theorem ggL_act_X0_vote : GoodIn wsL_act wsX0_vote := goodIn_ca (goodIn_ca (goodIn_ca (goodIn_r _ [68, 25, 26, 9, 10, 32, 14, 15, 7, 16, 17, 18, 19, 20, 21, 69, 70, 71, 72, 63, 57, 146, 147, 148, 149, 150, 151, 152, 153, 154, 155, 156, 157, 158, 159, 160] (by decide +kernel) (by decide +kernel)) (goodIn_sub (fun _ h => List.mem_cons_of_mem _ (List.mem_append_right _ h)) (by decide +kernel))) (goodIn_sub (fun _ h => List.mem_cons_of_mem _ (List.mem_append_left _ (List.mem_append_left _ (List.mem_append_right _ h)))) (by decide +kernel))) (goodIn_sub (fun _ h => List.mem_cons_of_mem _ (List.mem_append_left _ (List.mem_append_right _ h))) (by decide +kernel))
set_option maxRecDepth 20000 in
theorem gL_act_X0_vote : GoodIn wsL_act (wsV RL 35 RX0 yX0_vote wsX0_vote) := goodIn_app (goodIn_of _ (by decide +kernel)) ggL_act_X0_vote
set_option maxRecDepth 20000 in
theorem ggL_act_X0_release : GoodIn wsL_act wsX0_release := goodIn_ca (goodIn_ca (goodIn_r _ [76, 9, 10, 64, 63, 58, 51, 77, 78, 79, 80, 7, 81, 69, 70, 71, 72, 57, 82, 83, 84, 85, 11, 86, 87, 88, 89, 25, 26, 90, 91, 92, 93, 32, 94, 95, 96, 97, 37, 19, 20, 21, 98, 99, 100, 101, 102, 103, 104, 105, 106, 107, 108, 109, 110, 111, 112, 113, 114, 115, 116, 117, 118, 46, 119, 120, 121, 122, 123, 124, 125, 126, 127, 128, 129, 130, 131, 132, 133, 134, 135, 136, 137, 138, 139, 140, 141, 142, 143, 144, 145, 146, 147, 148, 149, 150, 151, 152, 153, 154, 155, 156, 157, 158, 159, 160] (by decide +kernel) (by decide +kernel)) (goodIn_sub (fun _ h => List.mem_cons_of_mem _ (List.mem_append_left _ (List.mem_append_left _ (List.mem_append_right _ h)))) (by decide +kernel))) (goodIn_sub (fun _ h => List.mem_cons_of_mem _ (List.mem_append_right _ h)) (by decide +kernel))
set_option maxRecDepth 20000 in
theorem gL_act_X0_release : GoodIn wsL_act (wsV RL 38 RX0 yX0_release wsX0_release) := goodIn_app (goodIn_of _ (by decide +kernel)) ggL_act_X0_release
theorem dL_act_0 : decode cL_act 0 = .ok (.iload_n 1, 1) := by decide +kernel
theorem dL_act_1 : decode cL_act 1 = .ok (.ifCond .ne 12, 3) := by decide +kernel
theorem dL_act_4 : decode cL_act 4 = .ok (.aload_n 0, 1) := by decide +kernel
theorem dL_act_5 : decode cL_act 5 = .ok (.iload_n 2, 1) := by decide +kernel
theorem dL_act_6 : decode cL_act 6 = .ok (.iload_n 3, 1) := by decide +kernel
theorem dL_act_7 : decode cL_act 7 = .ok (.invokevirtual 9, 3) := by decide +kernel
theorem dL_act_10 : decode cL_act 10 = .ok (.goto 111, 3) := by decide +kernel
theorem dL_act_13 : decode cL_act 13 = .ok (.iload_n 1, 1) := by decide +kernel
theorem dL_act_14 : decode cL_act 14 = .ok (.iconst 1, 1) := by decide +kernel
theorem dL_act_15 : decode cL_act 15 = .ok (.if_icmp .ne 11, 3) := by decide +kernel
theorem dL_act_18 : decode cL_act 18 = .ok (.aload_n 0, 1) := by decide +kernel
theorem dL_act_19 : decode cL_act 19 = .ok (.iload_n 2, 1) := by decide +kernel
theorem dL_act_20 : decode cL_act 20 = .ok (.invokevirtual 15, 3) := by decide +kernel
theorem dL_act_23 : decode cL_act 23 = .ok (.goto 98, 3) := by decide +kernel
theorem dL_act_26 : decode cL_act 26 = .ok (.iload_n 1, 1) := by decide +kernel
theorem dL_act_27 : decode cL_act 27 = .ok (.iconst 2, 1) := by decide +kernel
theorem dL_act_28 : decode cL_act 28 = .ok (.if_icmp .ne 12, 3) := by decide +kernel
theorem dL_act_31 : decode cL_act 31 = .ok (.aload_n 0, 1) := by decide +kernel
theorem dL_act_32 : decode cL_act 32 = .ok (.iload_n 2, 1) := by decide +kernel
theorem dL_act_33 : decode cL_act 33 = .ok (.iload_n 3, 1) := by decide +kernel
theorem dL_act_34 : decode cL_act 34 = .ok (.invokevirtual 19, 3) := by decide +kernel
theorem dL_act_37 : decode cL_act 37 = .ok (.goto 84, 3) := by decide +kernel
theorem dL_act_40 : decode cL_act 40 = .ok (.iload_n 1, 1) := by decide +kernel
theorem dL_act_41 : decode cL_act 41 = .ok (.iconst 3, 1) := by decide +kernel
theorem dL_act_42 : decode cL_act 42 = .ok (.if_icmp .ne 12, 3) := by decide +kernel
theorem dL_act_45 : decode cL_act 45 = .ok (.aload_n 0, 1) := by decide +kernel
theorem dL_act_46 : decode cL_act 46 = .ok (.iload_n 2, 1) := by decide +kernel
theorem dL_act_47 : decode cL_act 47 = .ok (.iload_n 3, 1) := by decide +kernel
theorem dL_act_48 : decode cL_act 48 = .ok (.invokevirtual 22, 3) := by decide +kernel
theorem dL_act_51 : decode cL_act 51 = .ok (.goto 70, 3) := by decide +kernel
theorem dL_act_54 : decode cL_act 54 = .ok (.iload_n 1, 1) := by decide +kernel
theorem dL_act_55 : decode cL_act 55 = .ok (.iconst 4, 1) := by decide +kernel
theorem dL_act_56 : decode cL_act 56 = .ok (.if_icmp .ne 11, 3) := by decide +kernel
theorem dL_act_59 : decode cL_act 59 = .ok (.aload_n 0, 1) := by decide +kernel
theorem dL_act_60 : decode cL_act 60 = .ok (.iload_n 2, 1) := by decide +kernel
theorem dL_act_61 : decode cL_act 61 = .ok (.invokevirtual 25, 3) := by decide +kernel
theorem dL_act_64 : decode cL_act 64 = .ok (.goto 57, 3) := by decide +kernel
theorem dL_act_67 : decode cL_act 67 = .ok (.iload_n 1, 1) := by decide +kernel
theorem dL_act_68 : decode cL_act 68 = .ok (.iconst 5, 1) := by decide +kernel
theorem dL_act_69 : decode cL_act 69 = .ok (.if_icmp .ne 11, 3) := by decide +kernel
theorem dL_act_72 : decode cL_act 72 = .ok (.aload_n 0, 1) := by decide +kernel
theorem dL_act_73 : decode cL_act 73 = .ok (.iload_n 2, 1) := by decide +kernel
theorem dL_act_74 : decode cL_act 74 = .ok (.invokevirtual 28, 3) := by decide +kernel
theorem dL_act_77 : decode cL_act 77 = .ok (.goto 44, 3) := by decide +kernel
theorem dL_act_80 : decode cL_act 80 = .ok (.iload_n 1, 1) := by decide +kernel
theorem dL_act_81 : decode cL_act 81 = .ok (.bipush 6, 2) := by decide +kernel
theorem dL_act_83 : decode cL_act 83 = .ok (.if_icmp .ne 19, 3) := by decide +kernel
theorem dL_act_86 : decode cL_act 86 = .ok (.aload_n 0, 1) := by decide +kernel
theorem dL_act_87 : decode cL_act 87 = .ok (.iload_n 2, 1) := by decide +kernel
theorem dL_act_88 : decode cL_act 88 = .ok (.invokevirtual 31, 3) := by decide +kernel
theorem dL_act_91 : decode cL_act 91 = .ok (.ifCond .eq 7, 3) := by decide +kernel
theorem dL_act_94 : decode cL_act 94 = .ok (.iconst 1, 1) := by decide +kernel
theorem dL_act_95 : decode cL_act 95 = .ok (.goto 26, 3) := by decide +kernel
theorem dL_act_98 : decode cL_act 98 = .ok (.iconst 0, 1) := by decide +kernel
theorem dL_act_99 : decode cL_act 99 = .ok (.goto 22, 3) := by decide +kernel
theorem dL_act_102 : decode cL_act 102 = .ok (.iload_n 1, 1) := by decide +kernel
theorem dL_act_103 : decode cL_act 103 = .ok (.bipush 7, 2) := by decide +kernel
theorem dL_act_105 : decode cL_act 105 = .ok (.if_icmp .ne 12, 3) := by decide +kernel
theorem dL_act_108 : decode cL_act 108 = .ok (.aload_n 0, 1) := by decide +kernel
theorem dL_act_109 : decode cL_act 109 = .ok (.iload_n 2, 1) := by decide +kernel
theorem dL_act_110 : decode cL_act 110 = .ok (.iload_n 3, 1) := by decide +kernel
theorem dL_act_111 : decode cL_act 111 = .ok (.invokevirtual 35, 3) := by decide +kernel
theorem dL_act_114 : decode cL_act 114 = .ok (.goto 7, 3) := by decide +kernel
theorem dL_act_117 : decode cL_act 117 = .ok (.aload_n 0, 1) := by decide +kernel
theorem dL_act_118 : decode cL_act 118 = .ok (.invokevirtual 38, 3) := by decide +kernel
theorem dL_act_121 : decode cL_act 121 = .ok (.ireturn, 1) := by decide +kernel
theorem dL_act_122 : decode cL_act 122 = .ok (.astore 4, 2) := by decide +kernel
theorem dL_act_124 : decode cL_act 124 = .ok (.sipush (-1041), 3) := by decide +kernel
theorem dL_act_127 : decode cL_act 127 = .ok (.ireturn, 1) := by decide +kernel
theorem dL_act_128 : decode cL_act 128 = .ok (.astore 4, 2) := by decide +kernel
theorem dL_act_130 : decode cL_act 130 = .ok (.sipush (-1042), 3) := by decide +kernel
theorem dL_act_133 : decode cL_act 133 = .ok (.ireturn, 1) := by decide +kernel
theorem dL_act_134 : decode cL_act 134 = .ok (.astore 4, 2) := by decide +kernel
theorem dL_act_136 : decode cL_act 136 = .ok (.sipush (-1043), 3) := by decide +kernel
theorem dL_act_139 : decode cL_act 139 = .ok (.ireturn, 1) := by decide +kernel
set_option maxRecDepth 20000 in
theorem ggL_of_X0_in : GoodIn wsL_of wsX0_in := goodIn_ca (goodIn_r _ [8, 9, 10, 11, 7, 12, 13, 14, 15, 16, 17, 123, 124, 125, 126, 127, 128, 129, 130, 131, 132, 133, 134, 135, 136, 137] (by decide +kernel) (by decide +kernel)) (goodIn_sub (fun _ h => List.mem_cons_of_mem _ (List.mem_append_left _ (List.mem_append_left _ (List.mem_append_right _ h)))) (by decide +kernel))
set_option maxRecDepth 20000 in
theorem gL_of_X0_in : GoodIn wsL_of (wsV RL 48 RX0 yX0_in wsX0_in) := goodIn_app (goodIn_of _ (by decide +kernel)) ggL_of_X0_in
set_option maxRecDepth 20000 in
theorem ggL_of_X0_inByBook : GoodIn wsL_of wsX0_inByBook := goodIn_ca (goodIn_r _ [21, 22, 23, 24, 10, 11, 7, 12, 13, 14, 15, 16, 17, 123, 124, 125, 126, 127, 128, 129, 130, 131, 132, 133, 134, 135, 136, 137] (by decide +kernel) (by decide +kernel)) (goodIn_sub (fun _ h => List.mem_cons_of_mem _ (List.mem_append_left _ (List.mem_append_left _ (List.mem_append_right _ h)))) (by decide +kernel))
set_option maxRecDepth 20000 in
theorem gL_of_X0_inByBook : GoodIn wsL_of (wsV RL 51 RX0 yX0_inByBook wsX0_inByBook) := goodIn_app (goodIn_of _ (by decide +kernel)) ggL_of_X0_inByBook
set_option maxRecDepth 20000 in
theorem ggL_of_X0_speaker : GoodIn wsL_of wsX0_speaker := goodIn_ca (goodIn_r _ [28, 10, 11, 7, 12, 13, 14, 15, 16, 17, 29, 30, 31, 32, 33, 34, 123, 124, 125, 126, 127, 128, 129, 130, 131, 132, 133, 134, 135, 136, 137] (by decide +kernel) (by decide +kernel)) (goodIn_sub (fun _ h => List.mem_cons_of_mem _ (List.mem_append_left _ (List.mem_append_left _ (List.mem_append_right _ h)))) (by decide +kernel))
set_option maxRecDepth 20000 in
theorem gL_of_X0_speaker : GoodIn wsL_of (wsV RL 54 RX0 yX0_speaker wsX0_speaker) := goodIn_app (goodIn_of _ (by decide +kernel)) ggL_of_X0_speaker
set_option maxRecDepth 20000 in
theorem ggL_of_X0_weight : GoodIn wsL_of wsX0_weight := goodIn_ca (goodIn_r _ [38, 39, 40, 9, 41, 42, 43, 7, 44, 33, 29, 30, 31, 32, 34, 15, 16, 17, 123, 124, 125, 126, 127, 128, 129, 130, 131, 132, 133, 134, 135, 136, 137] (by decide +kernel) (by decide +kernel)) (goodIn_sub (fun _ h => List.mem_cons_of_mem _ (List.mem_append_left _ (List.mem_append_right _ h))) (by decide +kernel))
set_option maxRecDepth 20000 in
theorem gL_of_X0_weight : GoodIn wsL_of (wsV RL 57 RX0 yX0_weight wsX0_weight) := goodIn_app (goodIn_of _ (by decide +kernel)) ggL_of_X0_weight
set_option maxRecDepth 20000 in
theorem ggL_of_X0_share : GoodIn wsL_of wsX0_share := goodIn_ca (goodIn_ca (goodIn_r _ [48, 49, 50, 51, 10, 11, 7, 12, 13, 14, 15, 16, 17, 52, 53, 54, 55, 56, 57, 58, 59, 60, 61, 62, 63, 64, 65, 66, 67, 68, 69, 70, 9, 71, 72, 73, 74, 75, 76, 77, 123, 124, 125, 126, 127, 128, 129, 130, 131, 132, 133, 134, 135, 136, 137] (by decide +kernel) (by decide +kernel)) (goodIn_sub (fun _ h => List.mem_cons_of_mem _ (List.mem_append_left _ (List.mem_append_left _ (List.mem_append_right _ h)))) (by decide +kernel))) (goodIn_sub (fun _ h => List.mem_cons_of_mem _ (List.mem_append_right _ h)) (by decide +kernel))
set_option maxRecDepth 20000 in
theorem gL_of_X0_share : GoodIn wsL_of (wsV RL 60 RX0 yX0_share wsX0_share) := goodIn_app (goodIn_of _ (by decide +kernel)) ggL_of_X0_share
set_option maxRecDepth 20000 in
theorem ggL_of_X0_match : GoodIn wsL_of wsX0_match := goodIn_ca (goodIn_r _ [81, 52, 53, 54, 7, 55, 56, 57, 58, 59, 60, 61, 50, 49, 62, 63, 64, 65, 66, 67, 68, 69, 70, 9, 82, 83, 84, 85, 71, 72, 73, 74, 51, 75, 76, 77, 86, 87, 88, 89, 90, 91, 92, 93, 94, 95, 96, 97, 98, 99, 100, 101, 102, 103, 104, 105, 106, 107, 108, 109, 110, 111, 112, 113, 114, 123, 124, 125, 126, 127, 128, 129, 130, 131, 132, 133, 134, 135, 136, 137] (by decide +kernel) (by decide +kernel)) (goodIn_sub (fun _ h => List.mem_cons_of_mem _ (List.mem_append_right _ h)) (by decide +kernel))
set_option maxRecDepth 20000 in
theorem gL_of_X0_match : GoodIn wsL_of (wsV RL 63 RX0 yX0_match wsX0_match) := goodIn_app (goodIn_of _ (by decide +kernel)) ggL_of_X0_match
set_option maxRecDepth 20000 in
theorem ggL_of_X0_matchByPairs : GoodIn wsL_of wsX0_matchByPairs := goodIn_ca (goodIn_r _ [118, 49, 50, 52, 53, 54, 7, 55, 56, 57, 58, 59, 60, 61, 62, 63, 64, 65, 66, 67, 68, 69, 70, 9, 71, 72, 73, 74, 51, 75, 76, 77, 86, 87, 88, 89, 90, 91, 92, 93, 94, 95, 96, 97, 98, 119, 120, 121, 122, 103, 104, 105, 106, 107, 108, 109, 110, 111, 112, 113, 114, 123, 124, 125, 126, 127, 128, 129, 130, 131, 132, 133, 134, 135, 136, 137] (by decide +kernel) (by decide +kernel)) (goodIn_sub (fun _ h => List.mem_cons_of_mem _ (List.mem_append_right _ h)) (by decide +kernel))
set_option maxRecDepth 20000 in
theorem gL_of_X0_matchByPairs : GoodIn wsL_of (wsV RL 66 RX0 yX0_matchByPairs wsX0_matchByPairs) := goodIn_app (goodIn_of _ (by decide +kernel)) ggL_of_X0_matchByPairs
theorem dL_of_0 : decode cL_of 0 = .ok (.iload_n 1, 1) := by decide +kernel
theorem dL_of_1 : decode cL_of 1 = .ok (.ifCond .ne 11, 3) := by decide +kernel
theorem dL_of_4 : decode cL_of 4 = .ok (.aload_n 0, 1) := by decide +kernel
theorem dL_of_5 : decode cL_of 5 = .ok (.iload_n 2, 1) := by decide +kernel
theorem dL_of_6 : decode cL_of 6 = .ok (.invokevirtual 48, 3) := by decide +kernel
theorem dL_of_9 : decode cL_of 9 = .ok (.goto 71, 3) := by decide +kernel
theorem dL_of_12 : decode cL_of 12 = .ok (.iload_n 1, 1) := by decide +kernel
theorem dL_of_13 : decode cL_of 13 = .ok (.iconst 1, 1) := by decide +kernel
theorem dL_of_14 : decode cL_of 14 = .ok (.if_icmp .ne 11, 3) := by decide +kernel
theorem dL_of_17 : decode cL_of 17 = .ok (.aload_n 0, 1) := by decide +kernel
theorem dL_of_18 : decode cL_of 18 = .ok (.iload_n 2, 1) := by decide +kernel
theorem dL_of_19 : decode cL_of 19 = .ok (.invokevirtual 51, 3) := by decide +kernel
theorem dL_of_22 : decode cL_of 22 = .ok (.goto 58, 3) := by decide +kernel
theorem dL_of_25 : decode cL_of 25 = .ok (.iload_n 1, 1) := by decide +kernel
theorem dL_of_26 : decode cL_of 26 = .ok (.iconst 2, 1) := by decide +kernel
theorem dL_of_27 : decode cL_of 27 = .ok (.if_icmp .ne 11, 3) := by decide +kernel
theorem dL_of_30 : decode cL_of 30 = .ok (.aload_n 0, 1) := by decide +kernel
theorem dL_of_31 : decode cL_of 31 = .ok (.iload_n 2, 1) := by decide +kernel
theorem dL_of_32 : decode cL_of 32 = .ok (.invokevirtual 54, 3) := by decide +kernel
theorem dL_of_35 : decode cL_of 35 = .ok (.goto 45, 3) := by decide +kernel
theorem dL_of_38 : decode cL_of 38 = .ok (.iload_n 1, 1) := by decide +kernel
theorem dL_of_39 : decode cL_of 39 = .ok (.iconst 3, 1) := by decide +kernel
theorem dL_of_40 : decode cL_of 40 = .ok (.if_icmp .ne 11, 3) := by decide +kernel
theorem dL_of_43 : decode cL_of 43 = .ok (.aload_n 0, 1) := by decide +kernel
theorem dL_of_44 : decode cL_of 44 = .ok (.iload_n 2, 1) := by decide +kernel
theorem dL_of_45 : decode cL_of 45 = .ok (.invokevirtual 57, 3) := by decide +kernel
theorem dL_of_48 : decode cL_of 48 = .ok (.goto 32, 3) := by decide +kernel
theorem dL_of_51 : decode cL_of 51 = .ok (.iload_n 1, 1) := by decide +kernel
theorem dL_of_52 : decode cL_of 52 = .ok (.iconst 4, 1) := by decide +kernel
theorem dL_of_53 : decode cL_of 53 = .ok (.if_icmp .ne 11, 3) := by decide +kernel
theorem dL_of_56 : decode cL_of 56 = .ok (.aload_n 0, 1) := by decide +kernel
theorem dL_of_57 : decode cL_of 57 = .ok (.iload_n 2, 1) := by decide +kernel
theorem dL_of_58 : decode cL_of 58 = .ok (.invokevirtual 60, 3) := by decide +kernel
theorem dL_of_61 : decode cL_of 61 = .ok (.goto 19, 3) := by decide +kernel
theorem dL_of_64 : decode cL_of 64 = .ok (.iload_n 1, 1) := by decide +kernel
theorem dL_of_65 : decode cL_of 65 = .ok (.iconst 5, 1) := by decide +kernel
theorem dL_of_66 : decode cL_of 66 = .ok (.if_icmp .ne 10, 3) := by decide +kernel
theorem dL_of_69 : decode cL_of 69 = .ok (.aload_n 0, 1) := by decide +kernel
theorem dL_of_70 : decode cL_of 70 = .ok (.invokevirtual 63, 3) := by decide +kernel
theorem dL_of_73 : decode cL_of 73 = .ok (.goto 7, 3) := by decide +kernel
theorem dL_of_76 : decode cL_of 76 = .ok (.aload_n 0, 1) := by decide +kernel
theorem dL_of_77 : decode cL_of 77 = .ok (.invokevirtual 66, 3) := by decide +kernel
theorem dL_of_80 : decode cL_of 80 = .ok (.ireturn, 1) := by decide +kernel
theorem dL_of_81 : decode cL_of 81 = .ok (.astore_n 3, 1) := by decide +kernel
theorem dL_of_82 : decode cL_of 82 = .ok (.sipush (-1041), 3) := by decide +kernel
theorem dL_of_85 : decode cL_of 85 = .ok (.ireturn, 1) := by decide +kernel
theorem dL_of_86 : decode cL_of 86 = .ok (.astore_n 3, 1) := by decide +kernel
theorem dL_of_87 : decode cL_of 87 = .ok (.sipush (-1042), 3) := by decide +kernel
theorem dL_of_90 : decode cL_of 90 = .ok (.ireturn, 1) := by decide +kernel
theorem dL_of_91 : decode cL_of 91 = .ok (.astore_n 3, 1) := by decide +kernel
theorem dL_of_92 : decode cL_of 92 = .ok (.sipush (-1044), 3) := by decide +kernel
theorem dL_of_95 : decode cL_of 95 = .ok (.ireturn, 1) := by decide +kernel
