set_option maxRecDepth 20000 in
theorem ggL_all_X0_total : GoodIn wsL_all wsX0_total := goodIn_r _ [11, 12, 144, 145, 146, 147, 148, 149, 150, 151, 152, 153, 154, 155, 156, 157, 158] (by decide +kernel) (by decide +kernel)
set_option maxRecDepth 20000 in
theorem gL_all_X0_total : GoodIn wsL_all (wsV RL 71 RX0 yX0_total wsX0_total) := goodIn_app (goodIn_of _ (by decide +kernel)) ggL_all_X0_total
set_option maxRecDepth 20000 in
theorem ggL_all_X0_pot : GoodIn wsL_all wsX0_pot := goodIn_r _ [16, 17, 144, 145, 146, 147, 148, 149, 150, 151, 152, 153, 154, 155, 156, 157, 158] (by decide +kernel) (by decide +kernel)
set_option maxRecDepth 20000 in
theorem gL_all_X0_pot : GoodIn wsL_all (wsV RL 76 RX0 yX0_pot wsX0_pot) := goodIn_app (goodIn_of _ (by decide +kernel)) ggL_all_X0_pot
set_option maxRecDepth 20000 in
theorem ggL_all_X0_out : GoodIn wsL_all wsX0_out := goodIn_r _ [21, 22, 144, 145, 146, 147, 148, 149, 150, 151, 152, 153, 154, 155, 156, 157, 158] (by decide +kernel) (by decide +kernel)
set_option maxRecDepth 20000 in
theorem gL_all_X0_out : GoodIn wsL_all (wsV RL 81 RX0 yX0_out wsX0_out) := goodIn_app (goodIn_of _ (by decide +kernel)) ggL_all_X0_out
set_option maxRecDepth 20000 in
theorem ggL_all_X0_current : GoodIn wsL_all wsX0_current := goodIn_r _ [26, 27, 28, 144, 145, 146, 147, 148, 149, 150, 151, 152, 153, 154, 155, 156, 157, 158] (by decide +kernel) (by decide +kernel)
set_option maxRecDepth 20000 in
theorem gL_all_X0_current : GoodIn wsL_all (wsV RL 86 RX0 yX0_current wsX0_current) := goodIn_app (goodIn_of _ (by decide +kernel)) ggL_all_X0_current
set_option maxRecDepth 20000 in
theorem ggL_all_L_of : GoodIn wsL_all wsL_of := goodIn_ca (goodIn_ca (goodIn_ca (goodIn_r _ [32, 33, 34, 35, 36, 37, 38, 10, 39, 12, 40, 41, 42, 43, 44, 45, 46, 47, 48, 49, 50, 51, 52, 53, 54, 55, 56, 57, 58, 59, 60, 61, 62, 63, 64, 65, 66, 67, 68, 69, 70, 71, 72, 73, 74, 75, 76, 77, 78, 79, 27, 80, 81, 82, 83, 84, 85, 86, 87, 88, 89, 90, 91, 24, 25, 26, 28, 92, 8, 9, 11, 93, 94, 95, 96, 97, 98, 99, 100, 101, 102, 103, 104, 105, 106, 107, 108, 109, 110, 111, 112, 113, 114, 115, 116, 117, 118, 119, 120, 121, 122, 123, 124, 125, 126, 127, 128, 129, 130, 131, 132, 17, 133, 134, 135, 136, 137, 138, 139, 140, 141, 142, 143, 144, 145, 146, 147, 148, 149, 150, 151, 152, 153, 154, 155, 156, 157, 158] (by decide +kernel) (by decide +kernel)) (goodIn_sub (fun _ h => List.mem_cons_of_mem _ (List.mem_append_left _ (List.mem_append_left _ (List.mem_append_right _ h)))) (by decide +kernel))) (goodIn_sub (fun _ h => List.mem_cons_of_mem _ (List.mem_append_left _ (List.mem_append_right _ h))) (by decide +kernel))) (goodIn_sub (fun _ h => List.mem_cons_of_mem _ (List.mem_append_right _ h)) (by decide +kernel))
set_option maxRecDepth 20000 in
theorem gL_all_L_of : GoodIn wsL_all (va_wsS RL 91 yL_of wsL_of) := goodIn_app (goodIn_of _ (by decide +kernel)) ggL_all_L_of
set_option maxRecDepth 20000 in
theorem ggL_all_X0_in : GoodIn wsL_all wsX0_in := goodIn_ca (goodIn_r _ [39, 12, 40, 41, 10, 42, 43, 44, 45, 46, 47, 144, 145, 146, 147, 148, 149, 150, 151, 152, 153, 154, 155, 156, 157, 158] (by decide +kernel) (by decide +kernel)) (goodIn_sub (fun _ h => List.mem_cons_of_mem _ (List.mem_append_left _ (List.mem_append_left _ (List.mem_append_right _ h)))) (by decide +kernel))
set_option maxRecDepth 20000 in
theorem gL_all_X0_in : GoodIn wsL_all (wsV RL 48 RX0 yX0_in wsX0_in) := goodIn_app (goodIn_of _ (by decide +kernel)) ggL_all_X0_in
set_option maxRecDepth 20000 in
theorem ggL_all_X0_speaker : GoodIn wsL_all wsX0_speaker := goodIn_ca (goodIn_r _ [58, 40, 41, 10, 42, 43, 44, 45, 46, 47, 59, 60, 61, 62, 63, 64, 144, 145, 146, 147, 148, 149, 150, 151, 152, 153, 154, 155, 156, 157, 158] (by decide +kernel) (by decide +kernel)) (goodIn_sub (fun _ h => List.mem_cons_of_mem _ (List.mem_append_left _ (List.mem_append_left _ (List.mem_append_right _ h)))) (by decide +kernel))
set_option maxRecDepth 20000 in
theorem gL_all_X0_speaker : GoodIn wsL_all (wsV RL 54 RX0 yX0_speaker wsX0_speaker) := goodIn_app (goodIn_of _ (by decide +kernel)) ggL_all_X0_speaker
set_option maxRecDepth 20000 in
theorem ggL_all_X0_weight : GoodIn wsL_all wsX0_weight := goodIn_ca (goodIn_r _ [68, 69, 70, 12, 71, 72, 73, 10, 74, 63, 59, 60, 61, 62, 64, 45, 46, 47, 144, 145, 146, 147, 148, 149, 150, 151, 152, 153, 154, 155, 156, 157, 158] (by decide +kernel) (by decide +kernel)) (goodIn_sub (fun _ h => List.mem_cons_of_mem _ (List.mem_append_left _ (List.mem_append_right _ h))) (by decide +kernel))
set_option maxRecDepth 20000 in
theorem gL_all_X0_weight : GoodIn wsL_all (wsV RL 57 RX0 yX0_weight wsX0_weight) := goodIn_app (goodIn_of _ (by decide +kernel)) ggL_all_X0_weight
theorem dL_all_0 : decode cL_all 0 = .ok (.aload_n 0, 1) := by decide +kernel
theorem dL_all_1 : decode cL_all 1 = .ok (.invokevirtual 71, 3) := by decide +kernel
theorem dL_all_4 : decode cL_all 4 = .ok (.i2l, 1) := by decide +kernel
theorem dL_all_5 : decode cL_all 5 = .ok (.ldc2_w 74, 3) := by decide +kernel
theorem dL_all_8 : decode cL_all 8 = .ok (.aload_n 0, 1) := by decide +kernel
theorem dL_all_9 : decode cL_all 9 = .ok (.invokevirtual 76, 3) := by decide +kernel
theorem dL_all_12 : decode cL_all 12 = .ok (.i2l, 1) := by decide +kernel
theorem dL_all_13 : decode cL_all 13 = .ok (.lmul, 1) := by decide +kernel
theorem dL_all_14 : decode cL_all 14 = .ok (.ladd, 1) := by decide +kernel
theorem dL_all_15 : decode cL_all 15 = .ok (.ldc2_w 79, 3) := by decide +kernel
theorem dL_all_18 : decode cL_all 18 = .ok (.aload_n 0, 1) := by decide +kernel
theorem dL_all_19 : decode cL_all 19 = .ok (.invokevirtual 81, 3) := by decide +kernel
theorem dL_all_22 : decode cL_all 22 = .ok (.i2l, 1) := by decide +kernel
theorem dL_all_23 : decode cL_all 23 = .ok (.lmul, 1) := by decide +kernel
theorem dL_all_24 : decode cL_all 24 = .ok (.ladd, 1) := by decide +kernel
theorem dL_all_25 : decode cL_all 25 = .ok (.ldc2_w 84, 3) := by decide +kernel
theorem dL_all_28 : decode cL_all 28 = .ok (.aload_n 0, 1) := by decide +kernel
theorem dL_all_29 : decode cL_all 29 = .ok (.invokevirtual 86, 3) := by decide +kernel
theorem dL_all_32 : decode cL_all 32 = .ok (.iconst 1, 1) := by decide +kernel
theorem dL_all_33 : decode cL_all 33 = .ok (.iadd, 1) := by decide +kernel
theorem dL_all_34 : decode cL_all 34 = .ok (.i2l, 1) := by decide +kernel
theorem dL_all_35 : decode cL_all 35 = .ok (.lmul, 1) := by decide +kernel
theorem dL_all_36 : decode cL_all 36 = .ok (.ladd, 1) := by decide +kernel
theorem dL_all_37 : decode cL_all 37 = .ok (.ldc2_w 89, 3) := by decide +kernel
theorem dL_all_40 : decode cL_all 40 = .ok (.aload_n 0, 1) := by decide +kernel
theorem dL_all_41 : decode cL_all 41 = .ok (.iconst 5, 1) := by decide +kernel
theorem dL_all_42 : decode cL_all 42 = .ok (.iconst 0, 1) := by decide +kernel
theorem dL_all_43 : decode cL_all 43 = .ok (.invokestatic 91, 3) := by decide +kernel
theorem dL_all_46 : decode cL_all 46 = .ok (.i2l, 1) := by decide +kernel
theorem dL_all_47 : decode cL_all 47 = .ok (.lmul, 1) := by decide +kernel
theorem dL_all_48 : decode cL_all 48 = .ok (.ladd, 1) := by decide +kernel
theorem dL_all_49 : decode cL_all 49 = .ok (.lstore_n 1, 1) := by decide +kernel
theorem dL_all_50 : decode cL_all 50 = .ok (.iconst 0, 1) := by decide +kernel
theorem dL_all_51 : decode cL_all 51 = .ok (.istore_n 3, 1) := by decide +kernel
theorem dL_all_52 : decode cL_all 52 = .ok (.iload_n 3, 1) := by decide +kernel
theorem dL_all_53 : decode cL_all 53 = .ok (.bipush 8, 2) := by decide +kernel
theorem dL_all_55 : decode cL_all 55 = .ok (.if_icmp .ge 47, 3) := by decide +kernel
theorem dL_all_58 : decode cL_all 58 = .ok (.ldc2_w 97, 3) := by decide +kernel
theorem dL_all_61 : decode cL_all 61 = .ok (.lload_n 1, 1) := by decide +kernel
theorem dL_all_62 : decode cL_all 62 = .ok (.lmul, 1) := by decide +kernel
theorem dL_all_63 : decode cL_all 63 = .ok (.aload_n 0, 1) := by decide +kernel
theorem dL_all_64 : decode cL_all 64 = .ok (.iload_n 3, 1) := by decide +kernel
theorem dL_all_65 : decode cL_all 65 = .ok (.invokevirtual 48, 3) := by decide +kernel
theorem dL_all_68 : decode cL_all 68 = .ok (.i2l, 1) := by decide +kernel
theorem dL_all_69 : decode cL_all 69 = .ok (.ladd, 1) := by decide +kernel
theorem dL_all_70 : decode cL_all 70 = .ok (.ldc2_w 74, 3) := by decide +kernel
theorem dL_all_73 : decode cL_all 73 = .ok (.aload_n 0, 1) := by decide +kernel
theorem dL_all_74 : decode cL_all 74 = .ok (.iload_n 3, 1) := by decide +kernel
theorem dL_all_75 : decode cL_all 75 = .ok (.invokevirtual 54, 3) := by decide +kernel
theorem dL_all_78 : decode cL_all 78 = .ok (.iconst 1, 1) := by decide +kernel
theorem dL_all_79 : decode cL_all 79 = .ok (.iadd, 1) := by decide +kernel
theorem dL_all_80 : decode cL_all 80 = .ok (.i2l, 1) := by decide +kernel
theorem dL_all_81 : decode cL_all 81 = .ok (.lmul, 1) := by decide +kernel
theorem dL_all_82 : decode cL_all 82 = .ok (.ladd, 1) := by decide +kernel
theorem dL_all_83 : decode cL_all 83 = .ok (.ldc2_w 99, 3) := by decide +kernel
theorem dL_all_86 : decode cL_all 86 = .ok (.aload_n 0, 1) := by decide +kernel
theorem dL_all_87 : decode cL_all 87 = .ok (.iconst 4, 1) := by decide +kernel
theorem dL_all_88 : decode cL_all 88 = .ok (.iload_n 3, 1) := by decide +kernel
theorem dL_all_89 : decode cL_all 89 = .ok (.invokestatic 91, 3) := by decide +kernel
theorem dL_all_92 : decode cL_all 92 = .ok (.i2l, 1) := by decide +kernel
theorem dL_all_93 : decode cL_all 93 = .ok (.lmul, 1) := by decide +kernel
theorem dL_all_94 : decode cL_all 94 = .ok (.ladd, 1) := by decide +kernel
theorem dL_all_95 : decode cL_all 95 = .ok (.lstore_n 1, 1) := by decide +kernel
theorem dL_all_96 : decode cL_all 96 = .ok (.iinc 3 1, 3) := by decide +kernel
theorem dL_all_99 : decode cL_all 99 = .ok (.goto (-47), 3) := by decide +kernel
theorem dL_all_102 : decode cL_all 102 = .ok (.ldc2_w 97, 3) := by decide +kernel
theorem dL_all_105 : decode cL_all 105 = .ok (.lload_n 1, 1) := by decide +kernel
theorem dL_all_106 : decode cL_all 106 = .ok (.lmul, 1) := by decide +kernel
theorem dL_all_107 : decode cL_all 107 = .ok (.aload_n 0, 1) := by decide +kernel
theorem dL_all_108 : decode cL_all 108 = .ok (.iconst 1, 1) := by decide +kernel
theorem dL_all_109 : decode cL_all 109 = .ok (.invokevirtual 57, 3) := by decide +kernel
theorem dL_all_112 : decode cL_all 112 = .ok (.i2l, 1) := by decide +kernel
theorem dL_all_113 : decode cL_all 113 = .ok (.ladd, 1) := by decide +kernel
theorem dL_all_114 : decode cL_all 114 = .ok (.ldc2_w 74, 3) := by decide +kernel
theorem dL_all_117 : decode cL_all 117 = .ok (.aload_n 0, 1) := by decide +kernel
theorem dL_all_118 : decode cL_all 118 = .ok (.iconst 2, 1) := by decide +kernel
theorem dL_all_119 : decode cL_all 119 = .ok (.invokevirtual 57, 3) := by decide +kernel
theorem dL_all_122 : decode cL_all 122 = .ok (.i2l, 1) := by decide +kernel
theorem dL_all_123 : decode cL_all 123 = .ok (.lmul, 1) := by decide +kernel
theorem dL_all_124 : decode cL_all 124 = .ok (.ladd, 1) := by decide +kernel
theorem dL_all_125 : decode cL_all 125 = .ok (.lreturn, 1) := by decide +kernel
set_option maxRecDepth 20000 in
theorem ggL_areSums_X0_in : GoodIn wsL_areSums wsX0_in := goodIn_ca (goodIn_r _ [7, 8, 9, 10, 6, 11, 12, 13, 14, 15, 16, 38, 39, 40, 41, 42, 43, 44, 45, 46, 47, 48, 49, 50, 51, 52] (by decide +kernel) (by decide +kernel)) (goodIn_sub (fun _ h => List.mem_cons_of_mem _ (List.mem_append_right _ h)) (by decide +kernel))
set_option maxRecDepth 20000 in
theorem gL_areSums_X0_in : GoodIn wsL_areSums (wsV RL 48 RX0 yX0_in wsX0_in) := goodIn_app (goodIn_of _ (by decide +kernel)) ggL_areSums_X0_in
set_option maxRecDepth 20000 in
theorem ggL_areSums_X0_inByBook : GoodIn wsL_areSums wsX0_inByBook := goodIn_ca (goodIn_r _ [20, 21, 22, 23, 9, 10, 6, 11, 12, 13, 14, 15, 16, 38, 39, 40, 41, 42, 43, 44, 45, 46, 47, 48, 49, 50, 51, 52] (by decide +kernel) (by decide +kernel)) (goodIn_sub (fun _ h => List.mem_cons_of_mem _ (List.mem_append_right _ h)) (by decide +kernel))
set_option maxRecDepth 20000 in
theorem gL_areSums_X0_inByBook : GoodIn wsL_areSums (wsV RL 51 RX0 yX0_inByBook wsX0_inByBook) := goodIn_app (goodIn_of _ (by decide +kernel)) ggL_areSums_X0_inByBook
set_option maxRecDepth 20000 in
theorem ggL_areSums_X0_pot : GoodIn wsL_areSums wsX0_pot := goodIn_r _ [27, 28, 38, 39, 40, 41, 42, 43, 44, 45, 46, 47, 48, 49, 50, 51, 52] (by decide +kernel) (by decide +kernel)
set_option maxRecDepth 20000 in
theorem gL_areSums_X0_pot : GoodIn wsL_areSums (wsV RL 76 RX0 yX0_pot wsX0_pot) := goodIn_app (goodIn_of _ (by decide +kernel)) ggL_areSums_X0_pot
set_option maxRecDepth 20000 in
theorem ggL_areSums_X0_total : GoodIn wsL_areSums wsX0_total := goodIn_r _ [32, 8, 38, 39, 40, 41, 42, 43, 44, 45, 46, 47, 48, 49, 50, 51, 52] (by decide +kernel) (by decide +kernel)
set_option maxRecDepth 20000 in
theorem gL_areSums_X0_total : GoodIn wsL_areSums (wsV RL 71 RX0 yX0_total wsX0_total) := goodIn_app (goodIn_of _ (by decide +kernel)) ggL_areSums_X0_total
set_option maxRecDepth 20000 in
theorem ggL_areSums_X0_out : GoodIn wsL_areSums wsX0_out := goodIn_r _ [36, 37, 38, 39, 40, 41, 42, 43, 44, 45, 46, 47, 48, 49, 50, 51, 52] (by decide +kernel) (by decide +kernel)
set_option maxRecDepth 20000 in
theorem gL_areSums_X0_out : GoodIn wsL_areSums (wsV RL 81 RX0 yX0_out wsX0_out) := goodIn_app (goodIn_of _ (by decide +kernel)) ggL_areSums_X0_out
theorem dL_areSums_0 : decode cL_areSums 0 = .ok (.iconst 0, 1) := by decide +kernel
theorem dL_areSums_1 : decode cL_areSums 1 = .ok (.istore_n 2, 1) := by decide +kernel
theorem dL_areSums_2 : decode cL_areSums 2 = .ok (.iconst 1, 1) := by decide +kernel
theorem dL_areSums_3 : decode cL_areSums 3 = .ok (.istore_n 3, 1) := by decide +kernel
theorem dL_areSums_4 : decode cL_areSums 4 = .ok (.iconst 0, 1) := by decide +kernel
theorem dL_areSums_5 : decode cL_areSums 5 = .ok (.istore 4, 2) := by decide +kernel
theorem dL_areSums_7 : decode cL_areSums 7 = .ok (.iload 4, 2) := by decide +kernel
theorem dL_areSums_9 : decode cL_areSums 9 = .ok (.bipush 8, 2) := by decide +kernel
theorem dL_areSums_11 : decode cL_areSums 11 = .ok (.if_icmp .ge 63, 3) := by decide +kernel
theorem dL_areSums_14 : decode cL_areSums 14 = .ok (.iload_n 3, 1) := by decide +kernel
theorem dL_areSums_15 : decode cL_areSums 15 = .ok (.ifCond .eq 59, 3) := by decide +kernel
theorem dL_areSums_18 : decode cL_areSums 18 = .ok (.iload_n 2, 1) := by decide +kernel
theorem dL_areSums_19 : decode cL_areSums 19 = .ok (.aload_n 0, 1) := by decide +kernel
theorem dL_areSums_20 : decode cL_areSums 20 = .ok (.iload 4, 2) := by decide +kernel
theorem dL_areSums_22 : decode cL_areSums 22 = .ok (.invokevirtual 48, 3) := by decide +kernel
theorem dL_areSums_25 : decode cL_areSums 25 = .ok (.iadd, 1) := by decide +kernel
theorem dL_areSums_26 : decode cL_areSums 26 = .ok (.istore_n 2, 1) := by decide +kernel
theorem dL_areSums_27 : decode cL_areSums 27 = .ok (.aload_n 0, 1) := by decide +kernel
theorem dL_areSums_28 : decode cL_areSums 28 = .ok (.iload 4, 2) := by decide +kernel
theorem dL_areSums_30 : decode cL_areSums 30 = .ok (.invokevirtual 48, 3) := by decide +kernel
theorem dL_areSums_33 : decode cL_areSums 33 = .ok (.ifCond .lt 33, 3) := by decide +kernel
theorem dL_areSums_36 : decode cL_areSums 36 = .ok (.aload_n 0, 1) := by decide +kernel
theorem dL_areSums_37 : decode cL_areSums 37 = .ok (.iload 4, 2) := by decide +kernel
theorem dL_areSums_39 : decode cL_areSums 39 = .ok (.invokevirtual 48, 3) := by decide +kernel
theorem dL_areSums_42 : decode cL_areSums 42 = .ok (.ldc 101, 2) := by decide +kernel
theorem dL_areSums_44 : decode cL_areSums 44 = .ok (.if_icmp .gt 22, 3) := by decide +kernel
theorem dL_areSums_47 : decode cL_areSums 47 = .ok (.aload_n 0, 1) := by decide +kernel
theorem dL_areSums_48 : decode cL_areSums 48 = .ok (.iload 4, 2) := by decide +kernel
theorem dL_areSums_50 : decode cL_areSums 50 = .ok (.invokevirtual 51, 3) := by decide +kernel
theorem dL_areSums_53 : decode cL_areSums 53 = .ok (.aload_n 0, 1) := by decide +kernel
theorem dL_areSums_54 : decode cL_areSums 54 = .ok (.iload 4, 2) := by decide +kernel
theorem dL_areSums_56 : decode cL_areSums 56 = .ok (.invokevirtual 48, 3) := by decide +kernel
theorem dL_areSums_59 : decode cL_areSums 59 = .ok (.if_icmp .ne 7, 3) := by decide +kernel
theorem dL_areSums_62 : decode cL_areSums 62 = .ok (.iconst 1, 1) := by decide +kernel
theorem dL_areSums_63 : decode cL_areSums 63 = .ok (.goto 4, 3) := by decide +kernel
theorem dL_areSums_66 : decode cL_areSums 66 = .ok (.iconst 0, 1) := by decide +kernel
theorem dL_areSums_67 : decode cL_areSums 67 = .ok (.istore_n 3, 1) := by decide +kernel
theorem dL_areSums_68 : decode cL_areSums 68 = .ok (.iinc 4 1, 3) := by decide +kernel
theorem dL_areSums_71 : decode cL_areSums 71 = .ok (.goto (-64), 3) := by decide +kernel
theorem dL_areSums_74 : decode cL_areSums 74 = .ok (.aload_n 1, 1) := by decide +kernel
theorem dL_areSums_75 : decode cL_areSums 75 = .ok (.iconst 1, 1) := by decide +kernel
theorem dL_areSums_76 : decode cL_areSums 76 = .ok (.iaload, 1) := by decide +kernel
theorem dL_areSums_77 : decode cL_areSums 77 = .ok (.aload_n 1, 1) := by decide +kernel
theorem dL_areSums_78 : decode cL_areSums 78 = .ok (.iconst 2, 1) := by decide +kernel
theorem dL_areSums_79 : decode cL_areSums 79 = .ok (.iaload, 1) := by decide +kernel
theorem dL_areSums_80 : decode cL_areSums 80 = .ok (.isub, 1) := by decide +kernel
theorem dL_areSums_81 : decode cL_areSums 81 = .ok (.iload_n 2, 1) := by decide +kernel
theorem dL_areSums_82 : decode cL_areSums 82 = .ok (.isub, 1) := by decide +kernel
theorem dL_areSums_83 : decode cL_areSums 83 = .ok (.istore 4, 2) := by decide +kernel
theorem dL_areSums_85 : decode cL_areSums 85 = .ok (.aload_n 1, 1) := by decide +kernel
theorem dL_areSums_86 : decode cL_areSums 86 = .ok (.iconst 3, 1) := by decide +kernel
theorem dL_areSums_87 : decode cL_areSums 87 = .ok (.iaload, 1) := by decide +kernel
theorem dL_areSums_88 : decode cL_areSums 88 = .ok (.aload_n 0, 1) := by decide +kernel
theorem dL_areSums_89 : decode cL_areSums 89 = .ok (.invokevirtual 76, 3) := by decide +kernel
theorem dL_areSums_92 : decode cL_areSums 92 = .ok (.isub, 1) := by decide +kernel
theorem dL_areSums_93 : decode cL_areSums 93 = .ok (.istore 5, 2) := by decide +kernel
theorem dL_areSums_95 : decode cL_areSums 95 = .ok (.iload_n 3, 1) := by decide +kernel
theorem dL_areSums_96 : decode cL_areSums 96 = .ok (.ifCond .eq 46, 3) := by decide +kernel
theorem dL_areSums_99 : decode cL_areSums 99 = .ok (.aload_n 0, 1) := by decide +kernel
theorem dL_areSums_100 : decode cL_areSums 100 = .ok (.invokevirtual 71, 3) := by decide +kernel
theorem dL_areSums_103 : decode cL_areSums 103 = .ok (.iload_n 2, 1) := by decide +kernel
theorem dL_areSums_104 : decode cL_areSums 104 = .ok (.if_icmp .ne 38, 3) := by decide +kernel
theorem dL_areSums_107 : decode cL_areSums 107 = .ok (.iload 4, 2) := by decide +kernel
theorem dL_areSums_109 : decode cL_areSums 109 = .ok (.ifCond .lt 33, 3) := by decide +kernel
theorem dL_areSums_112 : decode cL_areSums 112 = .ok (.iload 5, 2) := by decide +kernel
theorem dL_areSums_114 : decode cL_areSums 114 = .ok (.ifCond .lt 28, 3) := by decide +kernel
theorem dL_areSums_117 : decode cL_areSums 117 = .ok (.aload_n 0, 1) := by decide +kernel
theorem dL_areSums_118 : decode cL_areSums 118 = .ok (.invokevirtual 81, 3) := by decide +kernel
theorem dL_areSums_121 : decode cL_areSums 121 = .ok (.iload 4, 2) := by decide +kernel
theorem dL_areSums_123 : decode cL_areSums 123 = .ok (.iload 5, 2) := by decide +kernel
theorem dL_areSums_125 : decode cL_areSums 125 = .ok (.iadd, 1) := by decide +kernel
theorem dL_areSums_126 : decode cL_areSums 126 = .ok (.if_icmp .ne 16, 3) := by decide +kernel
theorem dL_areSums_129 : decode cL_areSums 129 = .ok (.aload_n 0, 1) := by decide +kernel
theorem dL_areSums_130 : decode cL_areSums 130 = .ok (.invokevirtual 76, 3) := by decide +kernel
theorem dL_areSums_133 : decode cL_areSums 133 = .ok (.ldc 102, 2) := by decide +kernel
theorem dL_areSums_135 : decode cL_areSums 135 = .ok (.if_icmp .gt 7, 3) := by decide +kernel
theorem dL_areSums_138 : decode cL_areSums 138 = .ok (.iconst 1, 1) := by decide +kernel
theorem dL_areSums_139 : decode cL_areSums 139 = .ok (.goto 4, 3) := by decide +kernel
theorem dL_areSums_142 : decode cL_areSums 142 = .ok (.iconst 0, 1) := by decide +kernel
theorem dL_areSums_143 : decode cL_areSums 143 = .ok (.ireturn, 1) := by decide +kernel
set_option maxRecDepth 20000 in
theorem ggL_areSpeakers_X0_speaker : GoodIn wsL_areSpeakers wsX0_speaker := goodIn_ca (goodIn_r _ [5, 6, 7, 4, 8, 9, 10, 11, 12, 13, 14, 15, 16, 17, 18, 19, 35, 36, 37, 38, 39, 40, 41, 42, 43, 44, 45, 46, 47, 48, 49] (by decide +kernel) (by decide +kernel)) (goodIn_sub (fun _ h => List.mem_cons_of_mem _ (List.mem_append_left _ (List.mem_append_right _ h))) (by decide +kernel))
set_option maxRecDepth 20000 in
theorem gL_areSpeakers_X0_speaker : GoodIn wsL_areSpeakers (wsV RL 54 RX0 yX0_speaker wsX0_speaker) := goodIn_app (goodIn_of _ (by decide +kernel)) ggL_areSpeakers_X0_speaker
set_option maxRecDepth 20000 in
theorem ggL_areSpeakers_X0_in : GoodIn wsL_areSpeakers wsX0_in := goodIn_ca (goodIn_r _ [23, 24, 6, 7, 4, 8, 9, 10, 11, 12, 13, 35, 36, 37, 38, 39, 40, 41, 42, 43, 44, 45, 46, 47, 48, 49] (by decide +kernel) (by decide +kernel)) (goodIn_sub (fun _ h => List.mem_cons_of_mem _ (List.mem_append_left _ (List.mem_append_right _ h))) (by decide +kernel))
set_option maxRecDepth 20000 in
theorem gL_areSpeakers_X0_in : GoodIn wsL_areSpeakers (wsV RL 48 RX0 yX0_in wsX0_in) := goodIn_app (goodIn_of _ (by decide +kernel)) ggL_areSpeakers_X0_in
set_option maxRecDepth 20000 in
theorem ggL_areSpeakers_X0_weight : GoodIn wsL_areSpeakers wsX0_weight := goodIn_ca (goodIn_r _ [28, 29, 30, 24, 31, 32, 33, 4, 34, 18, 14, 15, 16, 17, 19, 11, 12, 13, 35, 36, 37, 38, 39, 40, 41, 42, 43, 44, 45, 46, 47, 48, 49] (by decide +kernel) (by decide +kernel)) (goodIn_sub (fun _ h => List.mem_cons_of_mem _ (List.mem_append_right _ h)) (by decide +kernel))
set_option maxRecDepth 20000 in
theorem gL_areSpeakers_X0_weight : GoodIn wsL_areSpeakers (wsV RL 57 RX0 yX0_weight wsX0_weight) := goodIn_app (goodIn_of _ (by decide +kernel)) ggL_areSpeakers_X0_weight
theorem dL_areSpeakers_0 : decode cL_areSpeakers 0 = .ok (.iconst 0, 1) := by decide +kernel
theorem dL_areSpeakers_1 : decode cL_areSpeakers 1 = .ok (.istore_n 2, 1) := by decide +kernel
theorem dL_areSpeakers_2 : decode cL_areSpeakers 2 = .ok (.iconst 0, 1) := by decide +kernel
theorem dL_areSpeakers_3 : decode cL_areSpeakers 3 = .ok (.istore_n 3, 1) := by decide +kernel
theorem dL_areSpeakers_4 : decode cL_areSpeakers 4 = .ok (.iconst 1, 1) := by decide +kernel
theorem dL_areSpeakers_5 : decode cL_areSpeakers 5 = .ok (.istore 4, 2) := by decide +kernel
theorem dL_areSpeakers_7 : decode cL_areSpeakers 7 = .ok (.iconst 0, 1) := by decide +kernel
theorem dL_areSpeakers_8 : decode cL_areSpeakers 8 = .ok (.istore 5, 2) := by decide +kernel
theorem dL_areSpeakers_10 : decode cL_areSpeakers 10 = .ok (.iload 5, 2) := by decide +kernel
theorem dL_areSpeakers_12 : decode cL_areSpeakers 12 = .ok (.bipush 8, 2) := by decide +kernel
theorem dL_areSpeakers_14 : decode cL_areSpeakers 14 = .ok (.if_icmp .ge 165, 3) := by decide +kernel
theorem dL_areSpeakers_17 : decode cL_areSpeakers 17 = .ok (.iload 4, 2) := by decide +kernel
theorem dL_areSpeakers_19 : decode cL_areSpeakers 19 = .ok (.ifCond .eq 160, 3) := by decide +kernel
theorem dL_areSpeakers_22 : decode cL_areSpeakers 22 = .ok (.aload_n 0, 1) := by decide +kernel
theorem dL_areSpeakers_23 : decode cL_areSpeakers 23 = .ok (.iload 5, 2) := by decide +kernel
theorem dL_areSpeakers_25 : decode cL_areSpeakers 25 = .ok (.invokevirtual 54, 3) := by decide +kernel
theorem dL_areSpeakers_28 : decode cL_areSpeakers 28 = .ok (.istore 6, 2) := by decide +kernel
theorem dL_areSpeakers_30 : decode cL_areSpeakers 30 = .ok (.aload_n 1, 1) := by decide +kernel
theorem dL_areSpeakers_31 : decode cL_areSpeakers 31 = .ok (.iload 5, 2) := by decide +kernel
theorem dL_areSpeakers_33 : decode cL_areSpeakers 33 = .ok (.iaload, 1) := by decide +kernel
theorem dL_areSpeakers_34 : decode cL_areSpeakers 34 = .ok (.istore 7, 2) := by decide +kernel
theorem dL_areSpeakers_36 : decode cL_areSpeakers 36 = .ok (.aload_n 1, 1) := by decide +kernel
theorem dL_areSpeakers_37 : decode cL_areSpeakers 37 = .ok (.bipush 16, 2) := by decide +kernel
theorem dL_areSpeakers_39 : decode cL_areSpeakers 39 = .ok (.iload 5, 2) := by decide +kernel
theorem dL_areSpeakers_41 : decode cL_areSpeakers 41 = .ok (.iadd, 1) := by decide +kernel
theorem dL_areSpeakers_42 : decode cL_areSpeakers 42 = .ok (.iaload, 1) := by decide +kernel
theorem dL_areSpeakers_43 : decode cL_areSpeakers 43 = .ok (.ifCond .le 18, 3) := by decide +kernel
theorem dL_areSpeakers_46 : decode cL_areSpeakers 46 = .ok (.iload 6, 2) := by decide +kernel
theorem dL_areSpeakers_48 : decode cL_areSpeakers 48 = .ok (.iload 5, 2) := by decide +kernel
theorem dL_areSpeakers_50 : decode cL_areSpeakers 50 = .ok (.if_icmp .ne 7, 3) := by decide +kernel
theorem dL_areSpeakers_53 : decode cL_areSpeakers 53 = .ok (.iconst 1, 1) := by decide +kernel
theorem dL_areSpeakers_54 : decode cL_areSpeakers 54 = .ok (.goto 32, 3) := by decide +kernel
theorem dL_areSpeakers_57 : decode cL_areSpeakers 57 = .ok (.iconst 0, 1) := by decide +kernel
theorem dL_areSpeakers_58 : decode cL_areSpeakers 58 = .ok (.goto 28, 3) := by decide +kernel
theorem dL_areSpeakers_61 : decode cL_areSpeakers 61 = .ok (.iload 6, 2) := by decide +kernel
theorem dL_areSpeakers_63 : decode cL_areSpeakers 63 = .ok (.iload 7, 2) := by decide +kernel
theorem dL_areSpeakers_65 : decode cL_areSpeakers 65 = .ok (.ifCond .ge 7, 3) := by decide +kernel
theorem dL_areSpeakers_68 : decode cL_areSpeakers 68 = .ok (.iconst (-1), 1) := by decide +kernel
theorem dL_areSpeakers_69 : decode cL_areSpeakers 69 = .ok (.goto 9, 3) := by decide +kernel
theorem dL_areSpeakers_72 : decode cL_areSpeakers 72 = .ok (.aload_n 0, 1) := by decide +kernel
theorem dL_areSpeakers_73 : decode cL_areSpeakers 73 = .ok (.iload 7, 2) := by decide +kernel
theorem dL_areSpeakers_75 : decode cL_areSpeakers 75 = .ok (.invokevirtual 54, 3) := by decide +kernel
theorem dL_areSpeakers_78 : decode cL_areSpeakers 78 = .ok (.if_icmp .ne 7, 3) := by decide +kernel
theorem dL_areSpeakers_81 : decode cL_areSpeakers 81 = .ok (.iconst 1, 1) := by decide +kernel
theorem dL_areSpeakers_82 : decode cL_areSpeakers 82 = .ok (.goto 4, 3) := by decide +kernel
theorem dL_areSpeakers_85 : decode cL_areSpeakers 85 = .ok (.iconst 0, 1) := by decide +kernel
theorem dL_areSpeakers_86 : decode cL_areSpeakers 86 = .ok (.istore 4, 2) := by decide +kernel
theorem dL_areSpeakers_88 : decode cL_areSpeakers 88 = .ok (.iload 4, 2) := by decide +kernel
theorem dL_areSpeakers_90 : decode cL_areSpeakers 90 = .ok (.ifCond .eq 22, 3) := by decide +kernel
theorem dL_areSpeakers_93 : decode cL_areSpeakers 93 = .ok (.iload 6, 2) := by decide +kernel
theorem dL_areSpeakers_95 : decode cL_areSpeakers 95 = .ok (.ifCond .lt 13, 3) := by decide +kernel
theorem dL_areSpeakers_98 : decode cL_areSpeakers 98 = .ok (.aload_n 1, 1) := by decide +kernel
theorem dL_areSpeakers_99 : decode cL_areSpeakers 99 = .ok (.bipush 16, 2) := by decide +kernel
theorem dL_areSpeakers_101 : decode cL_areSpeakers 101 = .ok (.iload 6, 2) := by decide +kernel
theorem dL_areSpeakers_103 : decode cL_areSpeakers 103 = .ok (.iadd, 1) := by decide +kernel
theorem dL_areSpeakers_104 : decode cL_areSpeakers 104 = .ok (.iaload, 1) := by decide +kernel
theorem dL_areSpeakers_105 : decode cL_areSpeakers 105 = .ok (.ifCond .le 7, 3) := by decide +kernel
theorem dL_areSpeakers_108 : decode cL_areSpeakers 108 = .ok (.iconst 1, 1) := by decide +kernel
theorem dL_areSpeakers_109 : decode cL_areSpeakers 109 = .ok (.goto 4, 3) := by decide +kernel
theorem dL_areSpeakers_112 : decode cL_areSpeakers 112 = .ok (.iconst 0, 1) := by decide +kernel
theorem dL_areSpeakers_113 : decode cL_areSpeakers 113 = .ok (.istore 4, 2) := by decide +kernel
theorem dL_areSpeakers_115 : decode cL_areSpeakers 115 = .ok (.iload_n 2, 1) := by decide +kernel
theorem dL_areSpeakers_116 : decode cL_areSpeakers 116 = .ok (.iload 6, 2) := by decide +kernel
theorem dL_areSpeakers_118 : decode cL_areSpeakers 118 = .ok (.ifCond .lt 23, 3) := by decide +kernel
theorem dL_areSpeakers_121 : decode cL_areSpeakers 121 = .ok (.aload_n 1, 1) := by decide +kernel
theorem dL_areSpeakers_122 : decode cL_areSpeakers 122 = .ok (.bipush 16, 2) := by decide +kernel
theorem dL_areSpeakers_124 : decode cL_areSpeakers 124 = .ok (.iload 6, 2) := by decide +kernel
theorem dL_areSpeakers_126 : decode cL_areSpeakers 126 = .ok (.iadd, 1) := by decide +kernel
theorem dL_areSpeakers_127 : decode cL_areSpeakers 127 = .ok (.iaload, 1) := by decide +kernel
theorem dL_areSpeakers_128 : decode cL_areSpeakers 128 = .ok (.iconst 1, 1) := by decide +kernel
theorem dL_areSpeakers_129 : decode cL_areSpeakers 129 = .ok (.if_icmp .ne 12, 3) := by decide +kernel
theorem dL_areSpeakers_132 : decode cL_areSpeakers 132 = .ok (.aload_n 0, 1) := by decide +kernel
theorem dL_areSpeakers_133 : decode cL_areSpeakers 133 = .ok (.iload 5, 2) := by decide +kernel
theorem dL_areSpeakers_135 : decode cL_areSpeakers 135 = .ok (.invokevirtual 48, 3) := by decide +kernel
theorem dL_areSpeakers_138 : decode cL_areSpeakers 138 = .ok (.goto 4, 3) := by decide +kernel
theorem dL_areSpeakers_141 : decode cL_areSpeakers 141 = .ok (.iconst 0, 1) := by decide +kernel
theorem dL_areSpeakers_142 : decode cL_areSpeakers 142 = .ok (.iadd, 1) := by decide +kernel
theorem dL_areSpeakers_143 : decode cL_areSpeakers 143 = .ok (.istore_n 2, 1) := by decide +kernel
theorem dL_areSpeakers_144 : decode cL_areSpeakers 144 = .ok (.iload_n 3, 1) := by decide +kernel
theorem dL_areSpeakers_145 : decode cL_areSpeakers 145 = .ok (.iload 6, 2) := by decide +kernel
theorem dL_areSpeakers_147 : decode cL_areSpeakers 147 = .ok (.ifCond .lt 23, 3) := by decide +kernel
theorem dL_areSpeakers_150 : decode cL_areSpeakers 150 = .ok (.aload_n 1, 1) := by decide +kernel
theorem dL_areSpeakers_151 : decode cL_areSpeakers 151 = .ok (.bipush 16, 2) := by decide +kernel
theorem dL_areSpeakers_153 : decode cL_areSpeakers 153 = .ok (.iload 6, 2) := by decide +kernel
theorem dL_areSpeakers_155 : decode cL_areSpeakers 155 = .ok (.iadd, 1) := by decide +kernel
theorem dL_areSpeakers_156 : decode cL_areSpeakers 156 = .ok (.iaload, 1) := by decide +kernel
theorem dL_areSpeakers_157 : decode cL_areSpeakers 157 = .ok (.iconst 2, 1) := by decide +kernel
theorem dL_areSpeakers_158 : decode cL_areSpeakers 158 = .ok (.if_icmp .ne 12, 3) := by decide +kernel
theorem dL_areSpeakers_161 : decode cL_areSpeakers 161 = .ok (.aload_n 0, 1) := by decide +kernel
theorem dL_areSpeakers_162 : decode cL_areSpeakers 162 = .ok (.iload 5, 2) := by decide +kernel
theorem dL_areSpeakers_164 : decode cL_areSpeakers 164 = .ok (.invokevirtual 48, 3) := by decide +kernel
theorem dL_areSpeakers_167 : decode cL_areSpeakers 167 = .ok (.goto 4, 3) := by decide +kernel
theorem dL_areSpeakers_170 : decode cL_areSpeakers 170 = .ok (.iconst 0, 1) := by decide +kernel
theorem dL_areSpeakers_171 : decode cL_areSpeakers 171 = .ok (.iadd, 1) := by decide +kernel
theorem dL_areSpeakers_172 : decode cL_areSpeakers 172 = .ok (.istore_n 3, 1) := by decide +kernel
theorem dL_areSpeakers_173 : decode cL_areSpeakers 173 = .ok (.iinc 5 1, 3) := by decide +kernel
theorem dL_areSpeakers_176 : decode cL_areSpeakers 176 = .ok (.goto (-166), 3) := by decide +kernel
theorem dL_areSpeakers_179 : decode cL_areSpeakers 179 = .ok (.iload 4, 2) := by decide +kernel
theorem dL_areSpeakers_181 : decode cL_areSpeakers 181 = .ok (.ifCond .eq 25, 3) := by decide +kernel
theorem dL_areSpeakers_184 : decode cL_areSpeakers 184 = .ok (.aload_n 0, 1) := by decide +kernel
theorem dL_areSpeakers_185 : decode cL_areSpeakers 185 = .ok (.iconst 1, 1) := by decide +kernel
theorem dL_areSpeakers_186 : decode cL_areSpeakers 186 = .ok (.invokevirtual 57, 3) := by decide +kernel
theorem dL_areSpeakers_189 : decode cL_areSpeakers 189 = .ok (.iload_n 2, 1) := by decide +kernel
theorem dL_areSpeakers_190 : decode cL_areSpeakers 190 = .ok (.if_icmp .ne 16, 3) := by decide +kernel
theorem dL_areSpeakers_193 : decode cL_areSpeakers 193 = .ok (.aload_n 0, 1) := by decide +kernel
theorem dL_areSpeakers_194 : decode cL_areSpeakers 194 = .ok (.iconst 2, 1) := by decide +kernel
theorem dL_areSpeakers_195 : decode cL_areSpeakers 195 = .ok (.invokevirtual 57, 3) := by decide +kernel
theorem dL_areSpeakers_198 : decode cL_areSpeakers 198 = .ok (.iload_n 3, 1) := by decide +kernel
theorem dL_areSpeakers_199 : decode cL_areSpeakers 199 = .ok (.if_icmp .ne 7, 3) := by decide +kernel
theorem dL_areSpeakers_202 : decode cL_areSpeakers 202 = .ok (.iconst 1, 1) := by decide +kernel
theorem dL_areSpeakers_203 : decode cL_areSpeakers 203 = .ok (.goto 4, 3) := by decide +kernel
theorem dL_areSpeakers_206 : decode cL_areSpeakers 206 = .ok (.iconst 0, 1) := by decide +kernel
theorem dL_areSpeakers_207 : decode cL_areSpeakers 207 = .ok (.ireturn, 1) := by decide +kernel
