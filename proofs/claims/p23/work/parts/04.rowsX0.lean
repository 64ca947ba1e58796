theorem dX0_init_0 : decode cX0_init 0 = .ok (.aload_n 0, 1) := by decide +kernel
theorem dX0_init_1 : decode cX0_init 1 = .ok (.invokespecial 1, 3) := by decide +kernel
theorem dX0_init_4 : decode cX0_init 4 = .ok (.aload_n 0, 1) := by decide +kernel
theorem dX0_init_5 : decode cX0_init 5 = .ok (.bipush 8, 2) := by decide +kernel
theorem dX0_init_7 : decode cX0_init 7 = .ok (.newarray .int, 2) := by decide +kernel
theorem dX0_init_9 : decode cX0_init 9 = .ok (.putfield 9, 3) := by decide +kernel
theorem dX0_init_12 : decode cX0_init 12 = .ok (.aload_n 0, 1) := by decide +kernel
theorem dX0_init_13 : decode cX0_init 13 = .ok (.bipush 8, 2) := by decide +kernel
theorem dX0_init_15 : decode cX0_init 15 = .ok (.newarray .int, 2) := by decide +kernel
theorem dX0_init_17 : decode cX0_init 17 = .ok (.putfield 13, 3) := by decide +kernel
theorem dX0_init_20 : decode cX0_init 20 = .ok (.aload_n 0, 1) := by decide +kernel
theorem dX0_init_21 : decode cX0_init 21 = .ok (.bipush 8, 2) := by decide +kernel
theorem dX0_init_23 : decode cX0_init 23 = .ok (.newarray .int, 2) := by decide +kernel
theorem dX0_init_25 : decode cX0_init 25 = .ok (.putfield 16, 3) := by decide +kernel
theorem dX0_init_28 : decode cX0_init 28 = .ok (.aload_n 0, 1) := by decide +kernel
theorem dX0_init_29 : decode cX0_init 29 = .ok (.bipush 8, 2) := by decide +kernel
theorem dX0_init_31 : decode cX0_init 31 = .ok (.newarray .int, 2) := by decide +kernel
theorem dX0_init_33 : decode cX0_init 33 = .ok (.putfield 19, 3) := by decide +kernel
theorem dX0_init_36 : decode cX0_init 36 = .ok (.aload_n 0, 1) := by decide +kernel
theorem dX0_init_37 : decode cX0_init 37 = .ok (.bipush 8, 2) := by decide +kernel
theorem dX0_init_39 : decode cX0_init 39 = .ok (.newarray .int, 2) := by decide +kernel
theorem dX0_init_41 : decode cX0_init 41 = .ok (.putfield 22, 3) := by decide +kernel
theorem dX0_init_44 : decode cX0_init 44 = .ok (.aload_n 0, 1) := by decide +kernel
theorem dX0_init_45 : decode cX0_init 45 = .ok (.bipush 8, 2) := by decide +kernel
theorem dX0_init_47 : decode cX0_init 47 = .ok (.newarray .int, 2) := by decide +kernel
theorem dX0_init_49 : decode cX0_init 49 = .ok (.putfield 25, 3) := by decide +kernel
theorem dX0_init_52 : decode cX0_init 52 = .ok (.aload_n 0, 1) := by decide +kernel
theorem dX0_init_53 : decode cX0_init 53 = .ok (.bipush 8, 2) := by decide +kernel
theorem dX0_init_55 : decode cX0_init 55 = .ok (.newarray .int, 2) := by decide +kernel
theorem dX0_init_57 : decode cX0_init 57 = .ok (.putfield 28, 3) := by decide +kernel
theorem dX0_init_60 : decode cX0_init 60 = .ok (.aload_n 0, 1) := by decide +kernel
theorem dX0_init_61 : decode cX0_init 61 = .ok (.bipush 6, 2) := by decide +kernel
theorem dX0_init_63 : decode cX0_init 63 = .ok (.newarray .int, 2) := by decide +kernel
theorem dX0_init_65 : decode cX0_init 65 = .ok (.putfield 31, 3) := by decide +kernel
theorem dX0_init_68 : decode cX0_init 68 = .ok (.aload_n 0, 1) := by decide +kernel
theorem dX0_init_69 : decode cX0_init 69 = .ok (.bipush 6, 2) := by decide +kernel
theorem dX0_init_71 : decode cX0_init 71 = .ok (.newarray .boolean, 2) := by decide +kernel
theorem dX0_init_73 : decode cX0_init 73 = .ok (.putfield 34, 3) := by decide +kernel
theorem dX0_init_76 : decode cX0_init 76 = .ok (.aload_n 0, 1) := by decide +kernel
theorem dX0_init_77 : decode cX0_init 77 = .ok (.bipush 8, 2) := by decide +kernel
theorem dX0_init_79 : decode cX0_init 79 = .ok (.newarray .int, 2) := by decide +kernel
theorem dX0_init_81 : decode cX0_init 81 = .ok (.putfield 38, 3) := by decide +kernel
theorem dX0_init_84 : decode cX0_init 84 = .ok (.aload_n 0, 1) := by decide +kernel
theorem dX0_init_85 : decode cX0_init 85 = .ok (.bipush 8, 2) := by decide +kernel
theorem dX0_init_87 : decode cX0_init 87 = .ok (.newarray .int, 2) := by decide +kernel
theorem dX0_init_89 : decode cX0_init 89 = .ok (.putfield 41, 3) := by decide +kernel
theorem dX0_init_92 : decode cX0_init 92 = .ok (.iconst 0, 1) := by decide +kernel
theorem dX0_init_93 : decode cX0_init 93 = .ok (.istore_n 1, 1) := by decide +kernel
theorem dX0_init_94 : decode cX0_init 94 = .ok (.iload_n 1, 1) := by decide +kernel
theorem dX0_init_95 : decode cX0_init 95 = .ok (.bipush 8, 2) := by decide +kernel
theorem dX0_init_97 : decode cX0_init 97 = .ok (.if_icmp .ge 30, 3) := by decide +kernel
theorem dX0_init_100 : decode cX0_init 100 = .ok (.aload_n 0, 1) := by decide +kernel
theorem dX0_init_101 : decode cX0_init 101 = .ok (.getfield 22, 3) := by decide +kernel
theorem dX0_init_104 : decode cX0_init 104 = .ok (.iload_n 1, 1) := by decide +kernel
theorem dX0_init_105 : decode cX0_init 105 = .ok (.iconst (-1), 1) := by decide +kernel
theorem dX0_init_106 : decode cX0_init 106 = .ok (.iastore, 1) := by decide +kernel
theorem dX0_init_107 : decode cX0_init 107 = .ok (.aload_n 0, 1) := by decide +kernel
theorem dX0_init_108 : decode cX0_init 108 = .ok (.getfield 25, 3) := by decide +kernel
theorem dX0_init_111 : decode cX0_init 111 = .ok (.iload_n 1, 1) := by decide +kernel
theorem dX0_init_112 : decode cX0_init 112 = .ok (.iload_n 1, 1) := by decide +kernel
theorem dX0_init_113 : decode cX0_init 113 = .ok (.iastore, 1) := by decide +kernel
theorem dX0_init_114 : decode cX0_init 114 = .ok (.aload_n 0, 1) := by decide +kernel
theorem dX0_init_115 : decode cX0_init 115 = .ok (.getfield 28, 3) := by decide +kernel
theorem dX0_init_118 : decode cX0_init 118 = .ok (.iload_n 1, 1) := by decide +kernel
theorem dX0_init_119 : decode cX0_init 119 = .ok (.iconst 0, 1) := by decide +kernel
theorem dX0_init_120 : decode cX0_init 120 = .ok (.iastore, 1) := by decide +kernel
theorem dX0_init_121 : decode cX0_init 121 = .ok (.iinc 1 1, 3) := by decide +kernel
theorem dX0_init_124 : decode cX0_init 124 = .ok (.goto (-30), 3) := by decide +kernel
theorem dX0_init_127 : decode cX0_init 127 = .ok (.return_, 1) := by decide +kernel
set_option maxRecDepth 20000 in
theorem ggX0_give_X0_requireGiver : GoodIn wsX0_give wsX0_requireGiver := goodIn_ca (goodIn_r _ [9, 10, 11, 12, 13, 8, 14] (by decide +kernel) (by decide +kernel)) (goodIn_sub (fun _ h => List.mem_cons_of_mem _ (List.mem_append_left _ (List.mem_append_right _ h))) (by decide +kernel))
set_option maxRecDepth 20000 in
theorem gX0_give_X0_requireGiver : GoodIn wsX0_give (va_wsS RX0 44 yX0_requireGiver wsX0_requireGiver) := goodIn_app (goodIn_of _ (by decide +kernel)) ggX0_give_X0_requireGiver
set_option maxRecDepth 20000 in
theorem ggX0_give_X0_requireAmount : GoodIn wsX0_give wsX0_requireAmount := goodIn_ca (goodIn_r _ [17, 18, 19] (by decide +kernel) (by decide +kernel)) (goodIn_sub (fun _ h => List.mem_cons_of_mem _ (List.mem_append_right _ h)) (by decide +kernel))
set_option maxRecDepth 20000 in
theorem gX0_give_X0_requireAmount : GoodIn wsX0_give (va_wsS RX0 48 yX0_requireAmount wsX0_requireAmount) := goodIn_app (goodIn_of _ (by decide +kernel)) ggX0_give_X0_requireAmount
theorem dX0_give_0 : decode cX0_give 0 = .ok (.iload_n 1, 1) := by decide +kernel
theorem dX0_give_1 : decode cX0_give 1 = .ok (.invokestatic 44, 3) := by decide +kernel
theorem dX0_give_4 : decode cX0_give 4 = .ok (.iload_n 2, 1) := by decide +kernel
theorem dX0_give_5 : decode cX0_give 5 = .ok (.sipush 10000, 3) := by decide +kernel
theorem dX0_give_8 : decode cX0_give 8 = .ok (.invokestatic 48, 3) := by decide +kernel
theorem dX0_give_11 : decode cX0_give 11 = .ok (.aload_n 0, 1) := by decide +kernel
theorem dX0_give_12 : decode cX0_give 12 = .ok (.getfield 9, 3) := by decide +kernel
theorem dX0_give_15 : decode cX0_give 15 = .ok (.iload_n 1, 1) := by decide +kernel
theorem dX0_give_16 : decode cX0_give 16 = .ok (.iaload, 1) := by decide +kernel
theorem dX0_give_17 : decode cX0_give 17 = .ok (.iload_n 2, 1) := by decide +kernel
theorem dX0_give_18 : decode cX0_give 18 = .ok (.iadd, 1) := by decide +kernel
theorem dX0_give_19 : decode cX0_give 19 = .ok (.ldc 52, 2) := by decide +kernel
theorem dX0_give_21 : decode cX0_give 21 = .ok (.if_icmp .le 13, 3) := by decide +kernel
theorem dX0_give_24 : decode cX0_give 24 = .ok (.new 53, 3) := by decide +kernel
theorem dX0_give_27 : decode cX0_give 27 = .ok (.dup, 1) := by decide +kernel
theorem dX0_give_28 : decode cX0_give 28 = .ok (.ldc 55, 2) := by decide +kernel
theorem dX0_give_30 : decode cX0_give 30 = .ok (.invokespecial 57, 3) := by decide +kernel
theorem dX0_give_33 : decode cX0_give 33 = .ok (.athrow, 1) := by decide +kernel
theorem dX0_give_34 : decode cX0_give 34 = .ok (.aload_n 0, 1) := by decide +kernel
theorem dX0_give_35 : decode cX0_give 35 = .ok (.getfield 9, 3) := by decide +kernel
theorem dX0_give_38 : decode cX0_give 38 = .ok (.iload_n 1, 1) := by decide +kernel
theorem dX0_give_39 : decode cX0_give 39 = .ok (.dup2, 1) := by decide +kernel
theorem dX0_give_40 : decode cX0_give 40 = .ok (.iaload, 1) := by decide +kernel
theorem dX0_give_41 : decode cX0_give 41 = .ok (.iload_n 2, 1) := by decide +kernel
theorem dX0_give_42 : decode cX0_give 42 = .ok (.iadd, 1) := by decide +kernel
theorem dX0_give_43 : decode cX0_give 43 = .ok (.iastore, 1) := by decide +kernel
theorem dX0_give_44 : decode cX0_give 44 = .ok (.aload_n 0, 1) := by decide +kernel
theorem dX0_give_45 : decode cX0_give 45 = .ok (.getfield 13, 3) := by decide +kernel
theorem dX0_give_48 : decode cX0_give 48 = .ok (.iload_n 1, 1) := by decide +kernel
theorem dX0_give_49 : decode cX0_give 49 = .ok (.dup2, 1) := by decide +kernel
theorem dX0_give_50 : decode cX0_give 50 = .ok (.iaload, 1) := by decide +kernel
theorem dX0_give_51 : decode cX0_give 51 = .ok (.iload_n 2, 1) := by decide +kernel
theorem dX0_give_52 : decode cX0_give 52 = .ok (.iadd, 1) := by decide +kernel
theorem dX0_give_53 : decode cX0_give 53 = .ok (.iastore, 1) := by decide +kernel
theorem dX0_give_54 : decode cX0_give 54 = .ok (.aload_n 0, 1) := by decide +kernel
theorem dX0_give_55 : decode cX0_give 55 = .ok (.getfield 9, 3) := by decide +kernel
theorem dX0_give_58 : decode cX0_give 58 = .ok (.iload_n 1, 1) := by decide +kernel
theorem dX0_give_59 : decode cX0_give 59 = .ok (.iaload, 1) := by decide +kernel
theorem dX0_give_60 : decode cX0_give 60 = .ok (.ireturn, 1) := by decide +kernel
set_option maxRecDepth 20000 in
theorem ggX0_leave_X0_requireGiver : GoodIn wsX0_leave wsX0_requireGiver := goodIn_ca (goodIn_r _ [7, 8, 9, 10, 11, 6, 12] (by decide +kernel) (by decide +kernel)) (goodIn_sub (fun _ h => List.mem_cons_of_mem _ (List.mem_append_right _ h)) (by decide +kernel))
set_option maxRecDepth 20000 in
theorem gX0_leave_X0_requireGiver : GoodIn wsX0_leave (va_wsS RX0 44 yX0_requireGiver wsX0_requireGiver) := goodIn_app (goodIn_of _ (by decide +kernel)) ggX0_leave_X0_requireGiver
theorem dX0_leave_0 : decode cX0_leave 0 = .ok (.iload_n 1, 1) := by decide +kernel
theorem dX0_leave_1 : decode cX0_leave 1 = .ok (.invokestatic 44, 3) := by decide +kernel
theorem dX0_leave_4 : decode cX0_leave 4 = .ok (.aload_n 0, 1) := by decide +kernel
theorem dX0_leave_5 : decode cX0_leave 5 = .ok (.getfield 9, 3) := by decide +kernel
theorem dX0_leave_8 : decode cX0_leave 8 = .ok (.iload_n 1, 1) := by decide +kernel
theorem dX0_leave_9 : decode cX0_leave 9 = .ok (.iaload, 1) := by decide +kernel
theorem dX0_leave_10 : decode cX0_leave 10 = .ok (.istore_n 2, 1) := by decide +kernel
theorem dX0_leave_11 : decode cX0_leave 11 = .ok (.aload_n 0, 1) := by decide +kernel
theorem dX0_leave_12 : decode cX0_leave 12 = .ok (.getfield 9, 3) := by decide +kernel
theorem dX0_leave_15 : decode cX0_leave 15 = .ok (.iload_n 1, 1) := by decide +kernel
theorem dX0_leave_16 : decode cX0_leave 16 = .ok (.iconst 0, 1) := by decide +kernel
theorem dX0_leave_17 : decode cX0_leave 17 = .ok (.iastore, 1) := by decide +kernel
theorem dX0_leave_18 : decode cX0_leave 18 = .ok (.aload_n 0, 1) := by decide +kernel
theorem dX0_leave_19 : decode cX0_leave 19 = .ok (.getfield 16, 3) := by decide +kernel
theorem dX0_leave_22 : decode cX0_leave 22 = .ok (.iload_n 1, 1) := by decide +kernel
theorem dX0_leave_23 : decode cX0_leave 23 = .ok (.dup2, 1) := by decide +kernel
theorem dX0_leave_24 : decode cX0_leave 24 = .ok (.iaload, 1) := by decide +kernel
theorem dX0_leave_25 : decode cX0_leave 25 = .ok (.iload_n 2, 1) := by decide +kernel
theorem dX0_leave_26 : decode cX0_leave 26 = .ok (.iadd, 1) := by decide +kernel
theorem dX0_leave_27 : decode cX0_leave 27 = .ok (.iastore, 1) := by decide +kernel
theorem dX0_leave_28 : decode cX0_leave 28 = .ok (.aload_n 0, 1) := by decide +kernel
theorem dX0_leave_29 : decode cX0_leave 29 = .ok (.getfield 28, 3) := by decide +kernel
theorem dX0_leave_32 : decode cX0_leave 32 = .ok (.iload_n 1, 1) := by decide +kernel
theorem dX0_leave_33 : decode cX0_leave 33 = .ok (.iconst 0, 1) := by decide +kernel
theorem dX0_leave_34 : decode cX0_leave 34 = .ok (.iastore, 1) := by decide +kernel
theorem dX0_leave_35 : decode cX0_leave 35 = .ok (.iload_n 2, 1) := by decide +kernel
theorem dX0_leave_36 : decode cX0_leave 36 = .ok (.ireturn, 1) := by decide +kernel
set_option maxRecDepth 20000 in
theorem ggX0_trust_X0_requireGiver : GoodIn wsX0_trust wsX0_requireGiver := goodIn_ca (goodIn_r _ [7, 8, 9, 10, 11, 6, 12] (by decide +kernel) (by decide +kernel)) (goodIn_sub (fun _ h => List.mem_cons_of_mem _ (List.mem_append_right _ h)) (by decide +kernel))
set_option maxRecDepth 20000 in
theorem gX0_trust_X0_requireGiver : GoodIn wsX0_trust (va_wsS RX0 44 yX0_requireGiver wsX0_requireGiver) := goodIn_app (goodIn_of _ (by decide +kernel)) ggX0_trust_X0_requireGiver
set_option maxRecDepth 20000 in
theorem ggX0_trust_X0_leadsTo : GoodIn wsX0_trust wsX0_leadsTo := goodIn_r _ [16, 3, 10, 11, 6, 12, 17, 18, 19, 20, 21, 22, 23, 24, 25, 26, 27, 28, 29, 30, 31] (by decide +kernel) (by decide +kernel)
set_option maxRecDepth 20000 in
theorem gX0_trust_X0_leadsTo : GoodIn wsX0_trust (wsV RX0 60 RX0 yX0_leadsTo wsX0_leadsTo) := goodIn_app (goodIn_of _ (by decide +kernel)) ggX0_trust_X0_leadsTo
theorem dX0_trust_0 : decode cX0_trust 0 = .ok (.iload_n 1, 1) := by decide +kernel
theorem dX0_trust_1 : decode cX0_trust 1 = .ok (.invokestatic 44, 3) := by decide +kernel
theorem dX0_trust_4 : decode cX0_trust 4 = .ok (.iload_n 2, 1) := by decide +kernel
theorem dX0_trust_5 : decode cX0_trust 5 = .ok (.iconst (-1), 1) := by decide +kernel
theorem dX0_trust_6 : decode cX0_trust 6 = .ok (.if_icmp .eq 7, 3) := by decide +kernel
theorem dX0_trust_9 : decode cX0_trust 9 = .ok (.iload_n 2, 1) := by decide +kernel
theorem dX0_trust_10 : decode cX0_trust 10 = .ok (.invokestatic 44, 3) := by decide +kernel
theorem dX0_trust_13 : decode cX0_trust 13 = .ok (.aload_n 0, 1) := by decide +kernel
theorem dX0_trust_14 : decode cX0_trust 14 = .ok (.iload_n 2, 1) := by decide +kernel
theorem dX0_trust_15 : decode cX0_trust 15 = .ok (.iload_n 1, 1) := by decide +kernel
theorem dX0_trust_16 : decode cX0_trust 16 = .ok (.invokevirtual 60, 3) := by decide +kernel
theorem dX0_trust_19 : decode cX0_trust 19 = .ok (.ifCond .eq 13, 3) := by decide +kernel
theorem dX0_trust_22 : decode cX0_trust 22 = .ok (.new 53, 3) := by decide +kernel
theorem dX0_trust_25 : decode cX0_trust 25 = .ok (.dup, 1) := by decide +kernel
theorem dX0_trust_26 : decode cX0_trust 26 = .ok (.ldc 64, 2) := by decide +kernel
theorem dX0_trust_28 : decode cX0_trust 28 = .ok (.invokespecial 57, 3) := by decide +kernel
theorem dX0_trust_31 : decode cX0_trust 31 = .ok (.athrow, 1) := by decide +kernel
theorem dX0_trust_32 : decode cX0_trust 32 = .ok (.aload_n 0, 1) := by decide +kernel
theorem dX0_trust_33 : decode cX0_trust 33 = .ok (.getfield 22, 3) := by decide +kernel
theorem dX0_trust_36 : decode cX0_trust 36 = .ok (.iload_n 1, 1) := by decide +kernel
theorem dX0_trust_37 : decode cX0_trust 37 = .ok (.iaload, 1) := by decide +kernel
theorem dX0_trust_38 : decode cX0_trust 38 = .ok (.istore_n 3, 1) := by decide +kernel
theorem dX0_trust_39 : decode cX0_trust 39 = .ok (.aload_n 0, 1) := by decide +kernel
theorem dX0_trust_40 : decode cX0_trust 40 = .ok (.getfield 22, 3) := by decide +kernel
theorem dX0_trust_43 : decode cX0_trust 43 = .ok (.iload_n 1, 1) := by decide +kernel
theorem dX0_trust_44 : decode cX0_trust 44 = .ok (.iload_n 2, 1) := by decide +kernel
theorem dX0_trust_45 : decode cX0_trust 45 = .ok (.iastore, 1) := by decide +kernel
theorem dX0_trust_46 : decode cX0_trust 46 = .ok (.iload_n 3, 1) := by decide +kernel
theorem dX0_trust_47 : decode cX0_trust 47 = .ok (.ireturn, 1) := by decide +kernel
set_option maxRecDepth 20000 in
theorem ggX0_setPerson_X0_requireGiver : GoodIn wsX0_setPerson wsX0_requireGiver := goodIn_ca (goodIn_r _ [7, 1, 2, 8, 9, 6, 10] (by decide +kernel) (by decide +kernel)) (goodIn_sub (fun _ h => List.mem_cons_of_mem _ (List.mem_append_right _ h)) (by decide +kernel))
set_option maxRecDepth 20000 in
theorem gX0_setPerson_X0_requireGiver : GoodIn wsX0_setPerson (va_wsS RX0 44 yX0_requireGiver wsX0_requireGiver) := goodIn_app (goodIn_of _ (by decide +kernel)) ggX0_setPerson_X0_requireGiver
theorem dX0_setPerson_0 : decode cX0_setPerson 0 = .ok (.iload_n 1, 1) := by decide +kernel
theorem dX0_setPerson_1 : decode cX0_setPerson 1 = .ok (.invokestatic 44, 3) := by decide +kernel
theorem dX0_setPerson_4 : decode cX0_setPerson 4 = .ok (.iload_n 2, 1) := by decide +kernel
theorem dX0_setPerson_5 : decode cX0_setPerson 5 = .ok (.ifCond .lt 9, 3) := by decide +kernel
theorem dX0_setPerson_8 : decode cX0_setPerson 8 = .ok (.iload_n 2, 1) := by decide +kernel
theorem dX0_setPerson_9 : decode cX0_setPerson 9 = .ok (.bipush 8, 2) := by decide +kernel
theorem dX0_setPerson_11 : decode cX0_setPerson 11 = .ok (.if_icmp .lt 13, 3) := by decide +kernel
theorem dX0_setPerson_14 : decode cX0_setPerson 14 = .ok (.new 66, 3) := by decide +kernel
theorem dX0_setPerson_17 : decode cX0_setPerson 17 = .ok (.dup, 1) := by decide +kernel
theorem dX0_setPerson_18 : decode cX0_setPerson 18 = .ok (.ldc 68, 2) := by decide +kernel
theorem dX0_setPerson_20 : decode cX0_setPerson 20 = .ok (.invokespecial 70, 3) := by decide +kernel
theorem dX0_setPerson_23 : decode cX0_setPerson 23 = .ok (.athrow, 1) := by decide +kernel
theorem dX0_setPerson_24 : decode cX0_setPerson 24 = .ok (.aload_n 0, 1) := by decide +kernel
theorem dX0_setPerson_25 : decode cX0_setPerson 25 = .ok (.getfield 25, 3) := by decide +kernel
theorem dX0_setPerson_28 : decode cX0_setPerson 28 = .ok (.iload_n 1, 1) := by decide +kernel
theorem dX0_setPerson_29 : decode cX0_setPerson 29 = .ok (.iaload, 1) := by decide +kernel
theorem dX0_setPerson_30 : decode cX0_setPerson 30 = .ok (.istore_n 3, 1) := by decide +kernel
theorem dX0_setPerson_31 : decode cX0_setPerson 31 = .ok (.aload_n 0, 1) := by decide +kernel
theorem dX0_setPerson_32 : decode cX0_setPerson 32 = .ok (.getfield 25, 3) := by decide +kernel
theorem dX0_setPerson_35 : decode cX0_setPerson 35 = .ok (.iload_n 1, 1) := by decide +kernel
theorem dX0_setPerson_36 : decode cX0_setPerson 36 = .ok (.iload_n 2, 1) := by decide +kernel
theorem dX0_setPerson_37 : decode cX0_setPerson 37 = .ok (.iastore, 1) := by decide +kernel
theorem dX0_setPerson_38 : decode cX0_setPerson 38 = .ok (.iload_n 3, 1) := by decide +kernel
theorem dX0_setPerson_39 : decode cX0_setPerson 39 = .ok (.ireturn, 1) := by decide +kernel
set_option maxRecDepth 20000 in
theorem ggX0_in_X0_requireGiver : GoodIn wsX0_in wsX0_requireGiver := goodIn_ca (goodIn_r _ [5, 6, 7, 8, 9, 4, 10] (by decide +kernel) (by decide +kernel)) (goodIn_sub (fun _ h => List.mem_cons_of_mem _ (List.mem_append_right _ h)) (by decide +kernel))
set_option maxRecDepth 20000 in
theorem gX0_in_X0_requireGiver : GoodIn wsX0_in (va_wsS RX0 44 yX0_requireGiver wsX0_requireGiver) := goodIn_app (goodIn_of _ (by decide +kernel)) ggX0_in_X0_requireGiver
theorem dX0_in_0 : decode cX0_in 0 = .ok (.iload_n 1, 1) := by decide +kernel
theorem dX0_in_1 : decode cX0_in 1 = .ok (.invokestatic 44, 3) := by decide +kernel
theorem dX0_in_4 : decode cX0_in 4 = .ok (.aload_n 0, 1) := by decide +kernel
theorem dX0_in_5 : decode cX0_in 5 = .ok (.getfield 9, 3) := by decide +kernel
theorem dX0_in_8 : decode cX0_in 8 = .ok (.iload_n 1, 1) := by decide +kernel
theorem dX0_in_9 : decode cX0_in 9 = .ok (.iaload, 1) := by decide +kernel
theorem dX0_in_10 : decode cX0_in 10 = .ok (.ireturn, 1) := by decide +kernel
set_option maxRecDepth 20000 in
theorem ggX0_inByBook_X0_requireGiver : GoodIn wsX0_inByBook wsX0_requireGiver := goodIn_ca (goodIn_r _ [7, 8, 9, 10, 11, 6, 12] (by decide +kernel) (by decide +kernel)) (goodIn_sub (fun _ h => List.mem_cons_of_mem _ (List.mem_append_right _ h)) (by decide +kernel))
set_option maxRecDepth 20000 in
theorem gX0_inByBook_X0_requireGiver : GoodIn wsX0_inByBook (va_wsS RX0 44 yX0_requireGiver wsX0_requireGiver) := goodIn_app (goodIn_of _ (by decide +kernel)) ggX0_inByBook_X0_requireGiver
theorem dX0_inByBook_0 : decode cX0_inByBook 0 = .ok (.iload_n 1, 1) := by decide +kernel
theorem dX0_inByBook_1 : decode cX0_inByBook 1 = .ok (.invokestatic 44, 3) := by decide +kernel
theorem dX0_inByBook_4 : decode cX0_inByBook 4 = .ok (.aload_n 0, 1) := by decide +kernel
theorem dX0_inByBook_5 : decode cX0_inByBook 5 = .ok (.getfield 13, 3) := by decide +kernel
theorem dX0_inByBook_8 : decode cX0_inByBook 8 = .ok (.iload_n 1, 1) := by decide +kernel
theorem dX0_inByBook_9 : decode cX0_inByBook 9 = .ok (.iaload, 1) := by decide +kernel
theorem dX0_inByBook_10 : decode cX0_inByBook 10 = .ok (.aload_n 0, 1) := by decide +kernel
theorem dX0_inByBook_11 : decode cX0_inByBook 11 = .ok (.getfield 16, 3) := by decide +kernel
theorem dX0_inByBook_14 : decode cX0_inByBook 14 = .ok (.iload_n 1, 1) := by decide +kernel
theorem dX0_inByBook_15 : decode cX0_inByBook 15 = .ok (.iaload, 1) := by decide +kernel
theorem dX0_inByBook_16 : decode cX0_inByBook 16 = .ok (.isub, 1) := by decide +kernel
theorem dX0_inByBook_17 : decode cX0_inByBook 17 = .ok (.aload_n 0, 1) := by decide +kernel
theorem dX0_inByBook_18 : decode cX0_inByBook 18 = .ok (.getfield 19, 3) := by decide +kernel
theorem dX0_inByBook_21 : decode cX0_inByBook 21 = .ok (.iload_n 1, 1) := by decide +kernel
theorem dX0_inByBook_22 : decode cX0_inByBook 22 = .ok (.iaload, 1) := by decide +kernel
theorem dX0_inByBook_23 : decode cX0_inByBook 23 = .ok (.isub, 1) := by decide +kernel
theorem dX0_inByBook_24 : decode cX0_inByBook 24 = .ok (.ireturn, 1) := by decide +kernel
theorem dX0_total_0 : decode cX0_total 0 = .ok (.iconst 0, 1) := by decide +kernel
theorem dX0_total_1 : decode cX0_total 1 = .ok (.istore_n 1, 1) := by decide +kernel
theorem dX0_total_2 : decode cX0_total 2 = .ok (.iconst 0, 1) := by decide +kernel
theorem dX0_total_3 : decode cX0_total 3 = .ok (.istore_n 2, 1) := by decide +kernel
theorem dX0_total_4 : decode cX0_total 4 = .ok (.iload_n 2, 1) := by decide +kernel
theorem dX0_total_5 : decode cX0_total 5 = .ok (.bipush 8, 2) := by decide +kernel
theorem dX0_total_7 : decode cX0_total 7 = .ok (.if_icmp .ge 18, 3) := by decide +kernel
theorem dX0_total_10 : decode cX0_total 10 = .ok (.iload_n 1, 1) := by decide +kernel
theorem dX0_total_11 : decode cX0_total 11 = .ok (.aload_n 0, 1) := by decide +kernel
theorem dX0_total_12 : decode cX0_total 12 = .ok (.getfield 9, 3) := by decide +kernel
theorem dX0_total_15 : decode cX0_total 15 = .ok (.iload_n 2, 1) := by decide +kernel
theorem dX0_total_16 : decode cX0_total 16 = .ok (.iaload, 1) := by decide +kernel
theorem dX0_total_17 : decode cX0_total 17 = .ok (.iadd, 1) := by decide +kernel
theorem dX0_total_18 : decode cX0_total 18 = .ok (.istore_n 1, 1) := by decide +kernel
theorem dX0_total_19 : decode cX0_total 19 = .ok (.iinc 2 1, 3) := by decide +kernel
theorem dX0_total_22 : decode cX0_total 22 = .ok (.goto (-18), 3) := by decide +kernel
theorem dX0_total_25 : decode cX0_total 25 = .ok (.iload_n 1, 1) := by decide +kernel
theorem dX0_total_26 : decode cX0_total 26 = .ok (.ireturn, 1) := by decide +kernel
set_option maxRecDepth 20000 in
theorem ggX0_fillPot_X0_requireAmount : GoodIn wsX0_fillPot wsX0_requireAmount := goodIn_ca (goodIn_r _ [9, 10, 11] (by decide +kernel) (by decide +kernel)) (goodIn_sub (fun _ h => List.mem_cons_of_mem _ (List.mem_append_right _ h)) (by decide +kernel))
set_option maxRecDepth 20000 in
theorem gX0_fillPot_X0_requireAmount : GoodIn wsX0_fillPot (va_wsS RX0 48 yX0_requireAmount wsX0_requireAmount) := goodIn_app (goodIn_of _ (by decide +kernel)) ggX0_fillPot_X0_requireAmount
theorem dX0_fillPot_0 : decode cX0_fillPot 0 = .ok (.iload_n 1, 1) := by decide +kernel
theorem dX0_fillPot_1 : decode cX0_fillPot 1 = .ok (.ldc 52, 2) := by decide +kernel
theorem dX0_fillPot_3 : decode cX0_fillPot 3 = .ok (.invokestatic 48, 3) := by decide +kernel
theorem dX0_fillPot_6 : decode cX0_fillPot 6 = .ok (.aload_n 0, 1) := by decide +kernel
theorem dX0_fillPot_7 : decode cX0_fillPot 7 = .ok (.getfield 71, 3) := by decide +kernel
theorem dX0_fillPot_10 : decode cX0_fillPot 10 = .ok (.iload_n 1, 1) := by decide +kernel
theorem dX0_fillPot_11 : decode cX0_fillPot 11 = .ok (.iadd, 1) := by decide +kernel
theorem dX0_fillPot_12 : decode cX0_fillPot 12 = .ok (.ldc 75, 2) := by decide +kernel
theorem dX0_fillPot_14 : decode cX0_fillPot 14 = .ok (.if_icmp .le 13, 3) := by decide +kernel
theorem dX0_fillPot_17 : decode cX0_fillPot 17 = .ok (.new 53, 3) := by decide +kernel
theorem dX0_fillPot_20 : decode cX0_fillPot 20 = .ok (.dup, 1) := by decide +kernel
theorem dX0_fillPot_21 : decode cX0_fillPot 21 = .ok (.ldc 76, 2) := by decide +kernel
theorem dX0_fillPot_23 : decode cX0_fillPot 23 = .ok (.invokespecial 57, 3) := by decide +kernel
theorem dX0_fillPot_26 : decode cX0_fillPot 26 = .ok (.athrow, 1) := by decide +kernel
theorem dX0_fillPot_27 : decode cX0_fillPot 27 = .ok (.aload_n 0, 1) := by decide +kernel
theorem dX0_fillPot_28 : decode cX0_fillPot 28 = .ok (.dup, 1) := by decide +kernel
theorem dX0_fillPot_29 : decode cX0_fillPot 29 = .ok (.getfield 71, 3) := by decide +kernel
theorem dX0_fillPot_32 : decode cX0_fillPot 32 = .ok (.iload_n 1, 1) := by decide +kernel
theorem dX0_fillPot_33 : decode cX0_fillPot 33 = .ok (.iadd, 1) := by decide +kernel
theorem dX0_fillPot_34 : decode cX0_fillPot 34 = .ok (.putfield 71, 3) := by decide +kernel
theorem dX0_fillPot_37 : decode cX0_fillPot 37 = .ok (.aload_n 0, 1) := by decide +kernel
theorem dX0_fillPot_38 : decode cX0_fillPot 38 = .ok (.getfield 71, 3) := by decide +kernel
theorem dX0_fillPot_41 : decode cX0_fillPot 41 = .ok (.ireturn, 1) := by decide +kernel
theorem dX0_pot_0 : decode cX0_pot 0 = .ok (.aload_n 0, 1) := by decide +kernel
theorem dX0_pot_1 : decode cX0_pot 1 = .ok (.getfield 71, 3) := by decide +kernel
theorem dX0_pot_4 : decode cX0_pot 4 = .ok (.ireturn, 1) := by decide +kernel
set_option maxRecDepth 20000 in
theorem ggX0_addMilestone_X0_requireAmount : GoodIn wsX0_addMilestone wsX0_requireAmount := goodIn_ca (goodIn_r _ [9, 10, 11] (by decide +kernel) (by decide +kernel)) (goodIn_sub (fun _ h => List.mem_cons_of_mem _ (List.mem_append_right _ h)) (by decide +kernel))
set_option maxRecDepth 20000 in
theorem gX0_addMilestone_X0_requireAmount : GoodIn wsX0_addMilestone (va_wsS RX0 48 yX0_requireAmount wsX0_requireAmount) := goodIn_app (goodIn_of _ (by decide +kernel)) ggX0_addMilestone_X0_requireAmount
theorem dX0_addMilestone_0 : decode cX0_addMilestone 0 = .ok (.iload_n 1, 1) := by decide +kernel
theorem dX0_addMilestone_1 : decode cX0_addMilestone 1 = .ok (.ldc 52, 2) := by decide +kernel
theorem dX0_addMilestone_3 : decode cX0_addMilestone 3 = .ok (.invokestatic 48, 3) := by decide +kernel
theorem dX0_addMilestone_6 : decode cX0_addMilestone 6 = .ok (.aload_n 0, 1) := by decide +kernel
theorem dX0_addMilestone_7 : decode cX0_addMilestone 7 = .ok (.getfield 78, 3) := by decide +kernel
theorem dX0_addMilestone_10 : decode cX0_addMilestone 10 = .ok (.bipush 6, 2) := by decide +kernel
theorem dX0_addMilestone_12 : decode cX0_addMilestone 12 = .ok (.if_icmp .lt 13, 3) := by decide +kernel
theorem dX0_addMilestone_15 : decode cX0_addMilestone 15 = .ok (.new 53, 3) := by decide +kernel
theorem dX0_addMilestone_18 : decode cX0_addMilestone 18 = .ok (.dup, 1) := by decide +kernel
theorem dX0_addMilestone_19 : decode cX0_addMilestone 19 = .ok (.ldc 81, 2) := by decide +kernel
theorem dX0_addMilestone_21 : decode cX0_addMilestone 21 = .ok (.invokespecial 57, 3) := by decide +kernel
theorem dX0_addMilestone_24 : decode cX0_addMilestone 24 = .ok (.athrow, 1) := by decide +kernel
theorem dX0_addMilestone_25 : decode cX0_addMilestone 25 = .ok (.aload_n 0, 1) := by decide +kernel
theorem dX0_addMilestone_26 : decode cX0_addMilestone 26 = .ok (.getfield 31, 3) := by decide +kernel
theorem dX0_addMilestone_29 : decode cX0_addMilestone 29 = .ok (.aload_n 0, 1) := by decide +kernel
theorem dX0_addMilestone_30 : decode cX0_addMilestone 30 = .ok (.getfield 78, 3) := by decide +kernel
theorem dX0_addMilestone_33 : decode cX0_addMilestone 33 = .ok (.iload_n 1, 1) := by decide +kernel
theorem dX0_addMilestone_34 : decode cX0_addMilestone 34 = .ok (.iastore, 1) := by decide +kernel
theorem dX0_addMilestone_35 : decode cX0_addMilestone 35 = .ok (.aload_n 0, 1) := by decide +kernel
theorem dX0_addMilestone_36 : decode cX0_addMilestone 36 = .ok (.dup, 1) := by decide +kernel
theorem dX0_addMilestone_37 : decode cX0_addMilestone 37 = .ok (.getfield 78, 3) := by decide +kernel
theorem dX0_addMilestone_40 : decode cX0_addMilestone 40 = .ok (.iconst 1, 1) := by decide +kernel
theorem dX0_addMilestone_41 : decode cX0_addMilestone 41 = .ok (.iadd, 1) := by decide +kernel
theorem dX0_addMilestone_42 : decode cX0_addMilestone 42 = .ok (.putfield 78, 3) := by decide +kernel
theorem dX0_addMilestone_45 : decode cX0_addMilestone 45 = .ok (.aload_n 0, 1) := by decide +kernel
theorem dX0_addMilestone_46 : decode cX0_addMilestone 46 = .ok (.getfield 78, 3) := by decide +kernel
theorem dX0_addMilestone_49 : decode cX0_addMilestone 49 = .ok (.iconst 1, 1) := by decide +kernel
theorem dX0_addMilestone_50 : decode cX0_addMilestone 50 = .ok (.isub, 1) := by decide +kernel
theorem dX0_addMilestone_51 : decode cX0_addMilestone 51 = .ok (.ireturn, 1) := by decide +kernel
theorem dX0_prove_0 : decode cX0_prove 0 = .ok (.iload_n 1, 1) := by decide +kernel
theorem dX0_prove_1 : decode cX0_prove 1 = .ok (.ifCond .lt 11, 3) := by decide +kernel
theorem dX0_prove_4 : decode cX0_prove 4 = .ok (.iload_n 1, 1) := by decide +kernel
theorem dX0_prove_5 : decode cX0_prove 5 = .ok (.aload_n 0, 1) := by decide +kernel
theorem dX0_prove_6 : decode cX0_prove 6 = .ok (.getfield 78, 3) := by decide +kernel
theorem dX0_prove_9 : decode cX0_prove 9 = .ok (.if_icmp .lt 13, 3) := by decide +kernel
theorem dX0_prove_12 : decode cX0_prove 12 = .ok (.new 66, 3) := by decide +kernel
theorem dX0_prove_15 : decode cX0_prove 15 = .ok (.dup, 1) := by decide +kernel
theorem dX0_prove_16 : decode cX0_prove 16 = .ok (.ldc 83, 2) := by decide +kernel
theorem dX0_prove_18 : decode cX0_prove 18 = .ok (.invokespecial 70, 3) := by decide +kernel
theorem dX0_prove_21 : decode cX0_prove 21 = .ok (.athrow, 1) := by decide +kernel
theorem dX0_prove_22 : decode cX0_prove 22 = .ok (.iload_n 1, 1) := by decide +kernel
theorem dX0_prove_23 : decode cX0_prove 23 = .ok (.aload_n 0, 1) := by decide +kernel
theorem dX0_prove_24 : decode cX0_prove 24 = .ok (.getfield 85, 3) := by decide +kernel
theorem dX0_prove_27 : decode cX0_prove 27 = .ok (.if_icmp .ge 13, 3) := by decide +kernel
theorem dX0_prove_30 : decode cX0_prove 30 = .ok (.new 53, 3) := by decide +kernel
theorem dX0_prove_33 : decode cX0_prove 33 = .ok (.dup, 1) := by decide +kernel
theorem dX0_prove_34 : decode cX0_prove 34 = .ok (.ldc 88, 2) := by decide +kernel
theorem dX0_prove_36 : decode cX0_prove 36 = .ok (.invokespecial 57, 3) := by decide +kernel
theorem dX0_prove_39 : decode cX0_prove 39 = .ok (.athrow, 1) := by decide +kernel
theorem dX0_prove_40 : decode cX0_prove 40 = .ok (.aload_n 0, 1) := by decide +kernel
theorem dX0_prove_41 : decode cX0_prove 41 = .ok (.getfield 34, 3) := by decide +kernel
theorem dX0_prove_44 : decode cX0_prove 44 = .ok (.iload_n 1, 1) := by decide +kernel
theorem dX0_prove_45 : decode cX0_prove 45 = .ok (.aload_n 0, 1) := by decide +kernel
theorem dX0_prove_46 : decode cX0_prove 46 = .ok (.getfield 34, 3) := by decide +kernel
theorem dX0_prove_49 : decode cX0_prove 49 = .ok (.iload_n 1, 1) := by decide +kernel
theorem dX0_prove_50 : decode cX0_prove 50 = .ok (.baload, 1) := by decide +kernel
theorem dX0_prove_51 : decode cX0_prove 51 = .ok (.ifCond .ne 7, 3) := by decide +kernel
theorem dX0_prove_54 : decode cX0_prove 54 = .ok (.iconst 1, 1) := by decide +kernel
theorem dX0_prove_55 : decode cX0_prove 55 = .ok (.goto 4, 3) := by decide +kernel
theorem dX0_prove_58 : decode cX0_prove 58 = .ok (.iconst 0, 1) := by decide +kernel
theorem dX0_prove_59 : decode cX0_prove 59 = .ok (.bastore, 1) := by decide +kernel
theorem dX0_prove_60 : decode cX0_prove 60 = .ok (.aload_n 0, 1) := by decide +kernel
theorem dX0_prove_61 : decode cX0_prove 61 = .ok (.getfield 34, 3) := by decide +kernel
theorem dX0_prove_64 : decode cX0_prove 64 = .ok (.iload_n 1, 1) := by decide +kernel
theorem dX0_prove_65 : decode cX0_prove 65 = .ok (.baload, 1) := by decide +kernel
theorem dX0_prove_66 : decode cX0_prove 66 = .ok (.ireturn, 1) := by decide +kernel
theorem dX0_current_0 : decode cX0_current 0 = .ok (.aload_n 0, 1) := by decide +kernel
theorem dX0_current_1 : decode cX0_current 1 = .ok (.getfield 85, 3) := by decide +kernel
theorem dX0_current_4 : decode cX0_current 4 = .ok (.aload_n 0, 1) := by decide +kernel
theorem dX0_current_5 : decode cX0_current 5 = .ok (.getfield 78, 3) := by decide +kernel
theorem dX0_current_8 : decode cX0_current 8 = .ok (.if_icmp .ge 10, 3) := by decide +kernel
theorem dX0_current_11 : decode cX0_current 11 = .ok (.aload_n 0, 1) := by decide +kernel
theorem dX0_current_12 : decode cX0_current 12 = .ok (.getfield 85, 3) := by decide +kernel
theorem dX0_current_15 : decode cX0_current 15 = .ok (.goto 4, 3) := by decide +kernel
theorem dX0_current_18 : decode cX0_current 18 = .ok (.iconst (-1), 1) := by decide +kernel
theorem dX0_current_19 : decode cX0_current 19 = .ok (.ireturn, 1) := by decide +kernel
set_option maxRecDepth 20000 in
theorem ggX0_vote_X0_requireGiver : GoodIn wsX0_vote wsX0_requireGiver := goodIn_ca (goodIn_r _ [9, 10, 11, 12, 13, 8, 14] (by decide +kernel) (by decide +kernel)) (goodIn_sub (fun _ h => List.mem_cons_of_mem _ (List.mem_append_right _ h)) (by decide +kernel))
set_option maxRecDepth 20000 in
theorem gX0_vote_X0_requireGiver : GoodIn wsX0_vote (va_wsS RX0 44 yX0_requireGiver wsX0_requireGiver) := goodIn_app (goodIn_of _ (by decide +kernel)) ggX0_vote_X0_requireGiver
set_option maxRecDepth 20000 in
theorem ggX0_vote_X0_current : GoodIn wsX0_vote wsX0_current := goodIn_r _ [18, 19, 20, 21, 22, 23, 24, 25, 26, 27, 28, 29, 30, 31, 32, 33, 34, 35] (by decide +kernel) (by decide +kernel)
set_option maxRecDepth 20000 in
theorem gX0_vote_X0_current : GoodIn wsX0_vote (wsV RX0 95 RX0 yX0_current wsX0_current) := goodIn_app (goodIn_of _ (by decide +kernel)) ggX0_vote_X0_current
theorem dX0_vote_0 : decode cX0_vote 0 = .ok (.iload_n 1, 1) := by decide +kernel
theorem dX0_vote_1 : decode cX0_vote 1 = .ok (.invokestatic 44, 3) := by decide +kernel
theorem dX0_vote_4 : decode cX0_vote 4 = .ok (.iload_n 2, 1) := by decide +kernel
theorem dX0_vote_5 : decode cX0_vote 5 = .ok (.ifCond .eq 23, 3) := by decide +kernel
theorem dX0_vote_8 : decode cX0_vote 8 = .ok (.iload_n 2, 1) := by decide +kernel
theorem dX0_vote_9 : decode cX0_vote 9 = .ok (.iconst 1, 1) := by decide +kernel
theorem dX0_vote_10 : decode cX0_vote 10 = .ok (.if_icmp .eq 18, 3) := by decide +kernel
theorem dX0_vote_13 : decode cX0_vote 13 = .ok (.iload_n 2, 1) := by decide +kernel
theorem dX0_vote_14 : decode cX0_vote 14 = .ok (.iconst 2, 1) := by decide +kernel
theorem dX0_vote_15 : decode cX0_vote 15 = .ok (.if_icmp .eq 13, 3) := by decide +kernel
theorem dX0_vote_18 : decode cX0_vote 18 = .ok (.new 90, 3) := by decide +kernel
theorem dX0_vote_21 : decode cX0_vote 21 = .ok (.dup, 1) := by decide +kernel
theorem dX0_vote_22 : decode cX0_vote 22 = .ok (.ldc 92, 2) := by decide +kernel
theorem dX0_vote_24 : decode cX0_vote 24 = .ok (.invokespecial 94, 3) := by decide +kernel
theorem dX0_vote_27 : decode cX0_vote 27 = .ok (.athrow, 1) := by decide +kernel
theorem dX0_vote_28 : decode cX0_vote 28 = .ok (.aload_n 0, 1) := by decide +kernel
theorem dX0_vote_29 : decode cX0_vote 29 = .ok (.invokevirtual 95, 3) := by decide +kernel
theorem dX0_vote_32 : decode cX0_vote 32 = .ok (.iconst (-1), 1) := by decide +kernel
theorem dX0_vote_33 : decode cX0_vote 33 = .ok (.if_icmp .ne 13, 3) := by decide +kernel
theorem dX0_vote_36 : decode cX0_vote 36 = .ok (.new 53, 3) := by decide +kernel
theorem dX0_vote_39 : decode cX0_vote 39 = .ok (.dup, 1) := by decide +kernel
theorem dX0_vote_40 : decode cX0_vote 40 = .ok (.ldc 99, 2) := by decide +kernel
theorem dX0_vote_42 : decode cX0_vote 42 = .ok (.invokespecial 57, 3) := by decide +kernel
theorem dX0_vote_45 : decode cX0_vote 45 = .ok (.athrow, 1) := by decide +kernel
theorem dX0_vote_46 : decode cX0_vote 46 = .ok (.aload_n 0, 1) := by decide +kernel
theorem dX0_vote_47 : decode cX0_vote 47 = .ok (.getfield 28, 3) := by decide +kernel
theorem dX0_vote_50 : decode cX0_vote 50 = .ok (.iload_n 1, 1) := by decide +kernel
theorem dX0_vote_51 : decode cX0_vote 51 = .ok (.iaload, 1) := by decide +kernel
theorem dX0_vote_52 : decode cX0_vote 52 = .ok (.istore_n 3, 1) := by decide +kernel
theorem dX0_vote_53 : decode cX0_vote 53 = .ok (.aload_n 0, 1) := by decide +kernel
theorem dX0_vote_54 : decode cX0_vote 54 = .ok (.getfield 28, 3) := by decide +kernel
theorem dX0_vote_57 : decode cX0_vote 57 = .ok (.iload_n 1, 1) := by decide +kernel
theorem dX0_vote_58 : decode cX0_vote 58 = .ok (.iload_n 2, 1) := by decide +kernel
theorem dX0_vote_59 : decode cX0_vote 59 = .ok (.iastore, 1) := by decide +kernel
theorem dX0_vote_60 : decode cX0_vote 60 = .ok (.iload_n 3, 1) := by decide +kernel
theorem dX0_vote_61 : decode cX0_vote 61 = .ok (.ireturn, 1) := by decide +kernel
set_option maxRecDepth 20000 in
theorem ggX0_speaker_X0_requireGiver : GoodIn wsX0_speaker wsX0_requireGiver := goodIn_ca (goodIn_r _ [4, 5, 6, 7, 8, 3, 9] (by decide +kernel) (by decide +kernel)) (goodIn_sub (fun _ h => List.mem_cons_of_mem _ (List.mem_append_right _ h)) (by decide +kernel))
set_option maxRecDepth 20000 in
theorem gX0_speaker_X0_requireGiver : GoodIn wsX0_speaker (va_wsS RX0 44 yX0_requireGiver wsX0_requireGiver) := goodIn_app (goodIn_of _ (by decide +kernel)) ggX0_speaker_X0_requireGiver
set_option maxRecDepth 20000 in
theorem ggX0_speaker_X0_firstVoterFrom : GoodIn wsX0_speaker wsX0_firstVoterFrom := goodIn_r _ [13, 14, 15, 7, 8, 3, 9, 16, 17, 18, 19, 20, 21, 22, 23, 24, 25, 26, 27, 28, 29, 30] (by decide +kernel) (by decide +kernel)
set_option maxRecDepth 20000 in
theorem gX0_speaker_X0_firstVoterFrom : GoodIn wsX0_speaker (wsV RX0 101 RX0 yX0_firstVoterFrom wsX0_firstVoterFrom) := goodIn_app (goodIn_of _ (by decide +kernel)) ggX0_speaker_X0_firstVoterFrom
theorem dX0_speaker_0 : decode cX0_speaker 0 = .ok (.iload_n 1, 1) := by decide +kernel
theorem dX0_speaker_1 : decode cX0_speaker 1 = .ok (.invokestatic 44, 3) := by decide +kernel
theorem dX0_speaker_4 : decode cX0_speaker 4 = .ok (.aload_n 0, 1) := by decide +kernel
theorem dX0_speaker_5 : decode cX0_speaker 5 = .ok (.iload_n 1, 1) := by decide +kernel
theorem dX0_speaker_6 : decode cX0_speaker 6 = .ok (.invokevirtual 101, 3) := by decide +kernel
theorem dX0_speaker_9 : decode cX0_speaker 9 = .ok (.ireturn, 1) := by decide +kernel
set_option maxRecDepth 20000 in
theorem ggX0_weight_X0_heardVote : GoodIn wsX0_weight wsX0_heardVote := goodIn_r _ [8, 9, 10, 11, 12, 7, 13, 14, 15, 16, 17, 18, 19, 20, 21, 22, 23, 24, 25, 26, 27, 28, 29, 30, 31, 32] (by decide +kernel) (by decide +kernel)
set_option maxRecDepth 20000 in
theorem gX0_weight_X0_heardVote : GoodIn wsX0_weight (wsV RX0 107 RX0 yX0_heardVote wsX0_heardVote) := goodIn_app (goodIn_of _ (by decide +kernel)) ggX0_weight_X0_heardVote
theorem dX0_weight_0 : decode cX0_weight 0 = .ok (.iload_n 1, 1) := by decide +kernel
theorem dX0_weight_1 : decode cX0_weight 1 = .ok (.iconst 1, 1) := by decide +kernel
theorem dX0_weight_2 : decode cX0_weight 2 = .ok (.if_icmp .eq 18, 3) := by decide +kernel
theorem dX0_weight_5 : decode cX0_weight 5 = .ok (.iload_n 1, 1) := by decide +kernel
theorem dX0_weight_6 : decode cX0_weight 6 = .ok (.iconst 2, 1) := by decide +kernel
theorem dX0_weight_7 : decode cX0_weight 7 = .ok (.if_icmp .eq 13, 3) := by decide +kernel
theorem dX0_weight_10 : decode cX0_weight 10 = .ok (.new 90, 3) := by decide +kernel
theorem dX0_weight_13 : decode cX0_weight 13 = .ok (.dup, 1) := by decide +kernel
theorem dX0_weight_14 : decode cX0_weight 14 = .ok (.ldc 105, 2) := by decide +kernel
theorem dX0_weight_16 : decode cX0_weight 16 = .ok (.invokespecial 94, 3) := by decide +kernel
theorem dX0_weight_19 : decode cX0_weight 19 = .ok (.athrow, 1) := by decide +kernel
theorem dX0_weight_20 : decode cX0_weight 20 = .ok (.iconst 0, 1) := by decide +kernel
theorem dX0_weight_21 : decode cX0_weight 21 = .ok (.istore_n 2, 1) := by decide +kernel
theorem dX0_weight_22 : decode cX0_weight 22 = .ok (.iconst 0, 1) := by decide +kernel
theorem dX0_weight_23 : decode cX0_weight 23 = .ok (.istore_n 3, 1) := by decide +kernel
theorem dX0_weight_24 : decode cX0_weight 24 = .ok (.iload_n 3, 1) := by decide +kernel
theorem dX0_weight_25 : decode cX0_weight 25 = .ok (.bipush 8, 2) := by decide +kernel
theorem dX0_weight_27 : decode cX0_weight 27 = .ok (.if_icmp .ge 27, 3) := by decide +kernel
theorem dX0_weight_30 : decode cX0_weight 30 = .ok (.aload_n 0, 1) := by decide +kernel
theorem dX0_weight_31 : decode cX0_weight 31 = .ok (.iload_n 3, 1) := by decide +kernel
theorem dX0_weight_32 : decode cX0_weight 32 = .ok (.invokevirtual 107, 3) := by decide +kernel
theorem dX0_weight_35 : decode cX0_weight 35 = .ok (.iload_n 1, 1) := by decide +kernel
theorem dX0_weight_36 : decode cX0_weight 36 = .ok (.if_icmp .ne 12, 3) := by decide +kernel
theorem dX0_weight_39 : decode cX0_weight 39 = .ok (.iload_n 2, 1) := by decide +kernel
theorem dX0_weight_40 : decode cX0_weight 40 = .ok (.aload_n 0, 1) := by decide +kernel
theorem dX0_weight_41 : decode cX0_weight 41 = .ok (.getfield 9, 3) := by decide +kernel
theorem dX0_weight_44 : decode cX0_weight 44 = .ok (.iload_n 3, 1) := by decide +kernel
theorem dX0_weight_45 : decode cX0_weight 45 = .ok (.iaload, 1) := by decide +kernel
theorem dX0_weight_46 : decode cX0_weight 46 = .ok (.iadd, 1) := by decide +kernel
theorem dX0_weight_47 : decode cX0_weight 47 = .ok (.istore_n 2, 1) := by decide +kernel
theorem dX0_weight_48 : decode cX0_weight 48 = .ok (.iinc 3 1, 3) := by decide +kernel
theorem dX0_weight_51 : decode cX0_weight 51 = .ok (.goto (-27), 3) := by decide +kernel
theorem dX0_weight_54 : decode cX0_weight 54 = .ok (.iload_n 2, 1) := by decide +kernel
theorem dX0_weight_55 : decode cX0_weight 55 = .ok (.ireturn, 1) := by decide +kernel
set_option maxRecDepth 20000 in
theorem ggX0_share_X0_requireGiver : GoodIn wsX0_share wsX0_requireGiver := goodIn_ca (goodIn_r _ [7, 8, 9, 10, 11, 6, 12] (by decide +kernel) (by decide +kernel)) (goodIn_sub (fun _ h => List.mem_cons_of_mem _ (List.mem_append_left _ (List.mem_append_right _ h))) (by decide +kernel))
set_option maxRecDepth 20000 in
theorem gX0_share_X0_requireGiver : GoodIn wsX0_share (va_wsS RX0 44 yX0_requireGiver wsX0_requireGiver) := goodIn_app (goodIn_of _ (by decide +kernel)) ggX0_share_X0_requireGiver
set_option maxRecDepth 20000 in
theorem ggX0_share_X0_requireCovered : GoodIn wsX0_share wsX0_requireCovered := goodIn_ca (goodIn_r _ [16, 17, 18, 19, 20, 21, 6, 22, 2, 1, 23, 24, 25, 26, 27, 28, 29, 30, 31, 32, 40, 41, 42, 43, 44, 45, 46, 47, 48, 49, 50, 51, 52, 53, 54] (by decide +kernel) (by decide +kernel)) (goodIn_sub (fun _ h => List.mem_cons_of_mem _ (List.mem_append_right _ h)) (by decide +kernel))
set_option maxRecDepth 20000 in
theorem gX0_share_X0_requireCovered : GoodIn wsX0_share (wsV RX0 110 RX0 yX0_requireCovered wsX0_requireCovered) := goodIn_app (goodIn_of _ (by decide +kernel)) ggX0_share_X0_requireCovered
set_option maxRecDepth 20000 in
theorem ggX0_share_X0_findShares : GoodIn wsX0_share wsX0_findShares := goodIn_r _ [36, 3, 32, 28, 29, 30, 6, 31, 37, 38, 39, 40, 41, 42, 43, 44, 45, 46, 47, 48, 49, 50, 51, 52, 53, 54] (by decide +kernel) (by decide +kernel)
set_option maxRecDepth 20000 in
theorem gX0_share_X0_findShares : GoodIn wsX0_share (wsV RX0 113 RX0 yX0_findShares wsX0_findShares) := goodIn_app (goodIn_of _ (by decide +kernel)) ggX0_share_X0_findShares
theorem dX0_share_0 : decode cX0_share 0 = .ok (.iload_n 1, 1) := by decide +kernel
theorem dX0_share_1 : decode cX0_share 1 = .ok (.invokestatic 44, 3) := by decide +kernel
theorem dX0_share_4 : decode cX0_share 4 = .ok (.aload_n 0, 1) := by decide +kernel
theorem dX0_share_5 : decode cX0_share 5 = .ok (.invokevirtual 110, 3) := by decide +kernel
theorem dX0_share_8 : decode cX0_share 8 = .ok (.aload_n 0, 1) := by decide +kernel
theorem dX0_share_9 : decode cX0_share 9 = .ok (.aload_n 0, 1) := by decide +kernel
theorem dX0_share_10 : decode cX0_share 10 = .ok (.getfield 31, 3) := by decide +kernel
theorem dX0_share_13 : decode cX0_share 13 = .ok (.aload_n 0, 1) := by decide +kernel
theorem dX0_share_14 : decode cX0_share 14 = .ok (.getfield 85, 3) := by decide +kernel
theorem dX0_share_17 : decode cX0_share 17 = .ok (.iaload, 1) := by decide +kernel
theorem dX0_share_18 : decode cX0_share 18 = .ok (.invokevirtual 113, 3) := by decide +kernel
theorem dX0_share_21 : decode cX0_share 21 = .ok (.aload_n 0, 1) := by decide +kernel
theorem dX0_share_22 : decode cX0_share 22 = .ok (.getfield 38, 3) := by decide +kernel
theorem dX0_share_25 : decode cX0_share 25 = .ok (.iload_n 1, 1) := by decide +kernel
theorem dX0_share_26 : decode cX0_share 26 = .ok (.iaload, 1) := by decide +kernel
theorem dX0_share_27 : decode cX0_share 27 = .ok (.ireturn, 1) := by decide +kernel
set_option maxRecDepth 20000 in
theorem ggX0_match_X0_requireCovered : GoodIn wsX0_match wsX0_requireCovered := goodIn_ca (goodIn_r _ [5, 6, 7, 8, 9, 10, 4, 11, 12, 13, 14, 15, 16, 17, 18, 19, 20, 21, 22, 23, 65, 66, 67, 68, 69, 70, 71, 72, 73, 74, 75, 76, 77, 78, 79] (by decide +kernel) (by decide +kernel)) (goodIn_sub (fun _ h => List.mem_cons_of_mem _ (List.mem_append_right _ h)) (by decide +kernel))
set_option maxRecDepth 20000 in
theorem gX0_match_X0_requireCovered : GoodIn wsX0_match (wsV RX0 110 RX0 yX0_requireCovered wsX0_requireCovered) := goodIn_app (goodIn_of _ (by decide +kernel)) ggX0_match_X0_requireCovered
set_option maxRecDepth 20000 in
theorem ggX0_match_X0_currentMatch : GoodIn wsX0_match wsX0_currentMatch := goodIn_r _ [27, 13, 12, 28, 29, 30, 4, 31, 32, 23, 19, 20, 21, 22, 33, 34, 35, 36, 37, 38, 39, 40, 41, 42, 43, 44, 45, 46, 47, 48, 49, 50, 51, 52, 53, 54, 55, 56, 57, 58, 59, 60, 61, 62, 63, 64, 65, 66, 67, 68, 69, 70, 71, 72, 73, 74, 75, 76, 77, 78, 79] (by decide +kernel) (by decide +kernel)
set_option maxRecDepth 20000 in
theorem gX0_match_X0_currentMatch : GoodIn wsX0_match (wsV RX0 116 RX0 yX0_currentMatch wsX0_currentMatch) := goodIn_app (goodIn_of _ (by decide +kernel)) ggX0_match_X0_currentMatch
theorem dX0_match_0 : decode cX0_match 0 = .ok (.aload_n 0, 1) := by decide +kernel
theorem dX0_match_1 : decode cX0_match 1 = .ok (.invokevirtual 110, 3) := by decide +kernel
theorem dX0_match_4 : decode cX0_match 4 = .ok (.aload_n 0, 1) := by decide +kernel
theorem dX0_match_5 : decode cX0_match 5 = .ok (.invokevirtual 116, 3) := by decide +kernel
theorem dX0_match_8 : decode cX0_match 8 = .ok (.ireturn, 1) := by decide +kernel
set_option maxRecDepth 20000 in
theorem ggX0_matchByPairs_X0_requireCovered : GoodIn wsX0_matchByPairs wsX0_requireCovered := goodIn_ca (goodIn_r _ [7, 8, 9, 10, 11, 12, 6, 13, 2, 1, 14, 15, 16, 17, 18, 19, 20, 21, 22, 23, 61, 62, 63, 64, 65, 66, 67, 68, 69, 70, 71, 72, 73, 74, 75] (by decide +kernel) (by decide +kernel)) (goodIn_sub (fun _ h => List.mem_cons_of_mem _ (List.mem_append_right _ h)) (by decide +kernel))
set_option maxRecDepth 20000 in
theorem gX0_matchByPairs_X0_requireCovered : GoodIn wsX0_matchByPairs (wsV RX0 110 RX0 yX0_requireCovered wsX0_requireCovered) := goodIn_app (goodIn_of _ (by decide +kernel)) ggX0_matchByPairs_X0_requireCovered
set_option maxRecDepth 20000 in
theorem ggX0_matchByPairs_X0_findShares : GoodIn wsX0_matchByPairs wsX0_findShares := goodIn_r _ [27, 28, 23, 19, 20, 21, 6, 22, 29, 30, 31, 61, 62, 63, 64, 65, 66, 67, 68, 69, 70, 71, 72, 73, 74, 75] (by decide +kernel) (by decide +kernel)
set_option maxRecDepth 20000 in
theorem gX0_matchByPairs_X0_findShares : GoodIn wsX0_matchByPairs (wsV RX0 113 RX0 yX0_findShares wsX0_findShares) := goodIn_app (goodIn_of _ (by decide +kernel)) ggX0_matchByPairs_X0_findShares
set_option maxRecDepth 20000 in
theorem ggX0_matchByPairs_X0_findRoots : GoodIn wsX0_matchByPairs wsX0_findRoots := goodIn_r _ [35, 36, 37, 38, 39, 6, 40, 41, 28, 42, 43, 44, 61, 62, 63, 64, 65, 66, 67, 68, 69, 70, 71, 72, 73, 74, 75] (by decide +kernel) (by decide +kernel)
set_option maxRecDepth 20000 in
theorem gX0_matchByPairs_X0_findRoots : GoodIn wsX0_matchByPairs (wsV RX0 119 RX0 yX0_findRoots wsX0_findRoots) := goodIn_app (goodIn_of _ (by decide +kernel)) ggX0_matchByPairs_X0_findRoots
set_option maxRecDepth 20000 in
theorem ggX0_matchByPairs_X0_squareByPairs : GoodIn wsX0_matchByPairs wsX0_squareByPairs := goodIn_r _ [48, 36, 61, 62, 63, 64, 65, 66, 67, 68, 69, 70, 71, 72, 73, 74, 75] (by decide +kernel) (by decide +kernel)
set_option maxRecDepth 20000 in
theorem gX0_matchByPairs_X0_squareByPairs : GoodIn wsX0_matchByPairs (wsV RX0 122 RX0 yX0_squareByPairs wsX0_squareByPairs) := goodIn_app (goodIn_of _ (by decide +kernel)) ggX0_matchByPairs_X0_squareByPairs
set_option maxRecDepth 20000 in
theorem ggX0_matchByPairs_X0_withinPot : GoodIn wsX0_matchByPairs wsX0_withinPot := goodIn_r _ [52, 53, 54, 55, 56, 57, 58, 59, 60, 61, 62, 63, 64, 65, 66, 67, 68, 69, 70, 71, 72, 73, 74, 75] (by decide +kernel) (by decide +kernel)
set_option maxRecDepth 20000 in
theorem gX0_matchByPairs_X0_withinPot : GoodIn wsX0_matchByPairs (wsV RX0 125 RX0 yX0_withinPot wsX0_withinPot) := goodIn_app (goodIn_of _ (by decide +kernel)) ggX0_matchByPairs_X0_withinPot
theorem dX0_matchByPairs_0 : decode cX0_matchByPairs 0 = .ok (.aload_n 0, 1) := by decide +kernel
theorem dX0_matchByPairs_1 : decode cX0_matchByPairs 1 = .ok (.invokevirtual 110, 3) := by decide +kernel
theorem dX0_matchByPairs_4 : decode cX0_matchByPairs 4 = .ok (.aload_n 0, 1) := by decide +kernel
theorem dX0_matchByPairs_5 : decode cX0_matchByPairs 5 = .ok (.getfield 31, 3) := by decide +kernel
theorem dX0_matchByPairs_8 : decode cX0_matchByPairs 8 = .ok (.aload_n 0, 1) := by decide +kernel
theorem dX0_matchByPairs_9 : decode cX0_matchByPairs 9 = .ok (.getfield 85, 3) := by decide +kernel
theorem dX0_matchByPairs_12 : decode cX0_matchByPairs 12 = .ok (.iaload, 1) := by decide +kernel
theorem dX0_matchByPairs_13 : decode cX0_matchByPairs 13 = .ok (.istore_n 1, 1) := by decide +kernel
theorem dX0_matchByPairs_14 : decode cX0_matchByPairs 14 = .ok (.aload_n 0, 1) := by decide +kernel
theorem dX0_matchByPairs_15 : decode cX0_matchByPairs 15 = .ok (.iload_n 1, 1) := by decide +kernel
theorem dX0_matchByPairs_16 : decode cX0_matchByPairs 16 = .ok (.invokevirtual 113, 3) := by decide +kernel
theorem dX0_matchByPairs_19 : decode cX0_matchByPairs 19 = .ok (.aload_n 0, 1) := by decide +kernel
theorem dX0_matchByPairs_20 : decode cX0_matchByPairs 20 = .ok (.invokevirtual 119, 3) := by decide +kernel
theorem dX0_matchByPairs_23 : decode cX0_matchByPairs 23 = .ok (.aload_n 0, 1) := by decide +kernel
theorem dX0_matchByPairs_24 : decode cX0_matchByPairs 24 = .ok (.aload_n 0, 1) := by decide +kernel
theorem dX0_matchByPairs_25 : decode cX0_matchByPairs 25 = .ok (.invokevirtual 122, 3) := by decide +kernel
theorem dX0_matchByPairs_28 : decode cX0_matchByPairs 28 = .ok (.iload_n 1, 1) := by decide +kernel
theorem dX0_matchByPairs_29 : decode cX0_matchByPairs 29 = .ok (.isub, 1) := by decide +kernel
theorem dX0_matchByPairs_30 : decode cX0_matchByPairs 30 = .ok (.invokevirtual 125, 3) := by decide +kernel
theorem dX0_matchByPairs_33 : decode cX0_matchByPairs 33 = .ok (.ireturn, 1) := by decide +kernel
set_option maxRecDepth 20000 in
theorem ggX0_release_X0_isCovered : GoodIn wsX0_release wsX0_isCovered := goodIn_r _ [12, 4, 5, 13, 14, 15, 11, 16, 17, 18, 19, 20, 21, 22, 91, 92, 93, 94, 95, 96, 97, 98, 99, 100, 101, 102, 103, 104, 105] (by decide +kernel) (by decide +kernel)
set_option maxRecDepth 20000 in
theorem gX0_release_X0_isCovered : GoodIn wsX0_release (wsV RX0 128 RX0 yX0_isCovered wsX0_isCovered) := goodIn_app (goodIn_of _ (by decide +kernel)) ggX0_release_X0_isCovered
set_option maxRecDepth 20000 in
theorem ggX0_release_X0_weight : GoodIn wsX0_release wsX0_weight := goodIn_ca (goodIn_r _ [26, 27, 28, 22, 29, 30, 31, 11, 32, 33, 34, 35, 36, 37, 38, 39, 40, 41, 91, 92, 93, 94, 95, 96, 97, 98, 99, 100, 101, 102, 103, 104, 105] (by decide +kernel) (by decide +kernel)) (goodIn_sub (fun _ h => List.mem_cons_of_mem _ (List.mem_append_right _ h)) (by decide +kernel))
set_option maxRecDepth 20000 in
theorem gX0_release_X0_weight : GoodIn wsX0_release (wsV RX0 134 RX0 yX0_weight wsX0_weight) := goodIn_app (goodIn_of _ (by decide +kernel)) ggX0_release_X0_weight
set_option maxRecDepth 20000 in
theorem ggX0_release_X0_total : GoodIn wsX0_release wsX0_total := goodIn_r _ [21, 22, 91, 92, 93, 94, 95, 96, 97, 98, 99, 100, 101, 102, 103, 104, 105] (by decide +kernel) (by decide +kernel)
set_option maxRecDepth 20000 in
theorem gX0_release_X0_total : GoodIn wsX0_release (wsV RX0 137 RX0 yX0_total wsX0_total) := goodIn_app (goodIn_of _ (by decide +kernel)) ggX0_release_X0_total
set_option maxRecDepth 20000 in
theorem ggX0_release_X0_currentMatch : GoodIn wsX0_release wsX0_currentMatch := goodIn_r _ [45, 5, 4, 46, 47, 48, 11, 49, 50, 22, 18, 19, 20, 21, 51, 52, 53, 54, 55, 56, 57, 58, 59, 60, 61, 62, 63, 64, 65, 66, 67, 68, 69, 70, 71, 72, 73, 74, 75, 76, 77, 78, 6, 79, 80, 81, 91, 92, 93, 94, 95, 96, 97, 98, 99, 100, 101, 102, 103, 104, 105] (by decide +kernel) (by decide +kernel)
set_option maxRecDepth 20000 in
theorem gX0_release_X0_currentMatch : GoodIn wsX0_release (wsV RX0 116 RX0 yX0_currentMatch wsX0_currentMatch) := goodIn_app (goodIn_of _ (by decide +kernel)) ggX0_release_X0_currentMatch
set_option maxRecDepth 20000 in
theorem ggX0_release_X0_payShares : GoodIn wsX0_release wsX0_payShares := goodIn_r _ [85, 22, 50, 86, 91, 92, 93, 94, 95, 96, 97, 98, 99, 100, 101, 102, 103, 104, 105] (by decide +kernel) (by decide +kernel)
set_option maxRecDepth 20000 in
theorem gX0_release_X0_payShares : GoodIn wsX0_release (wsV RX0 142 RX0 yX0_payShares wsX0_payShares) := goodIn_app (goodIn_of _ (by decide +kernel)) ggX0_release_X0_payShares
set_option maxRecDepth 20000 in
theorem ggX0_release_X0_clearVotes : GoodIn wsX0_release wsX0_clearVotes := goodIn_r _ [90, 33, 91, 92, 93, 94, 95, 96, 97, 98, 99, 100, 101, 102, 103, 104, 105] (by decide +kernel) (by decide +kernel)
set_option maxRecDepth 20000 in
theorem gX0_release_X0_clearVotes : GoodIn wsX0_release (wsV RX0 148 RX0 yX0_clearVotes wsX0_clearVotes) := goodIn_app (goodIn_of _ (by decide +kernel)) ggX0_release_X0_clearVotes
theorem dX0_release_0 : decode cX0_release 0 = .ok (.aload_n 0, 1) := by decide +kernel
theorem dX0_release_1 : decode cX0_release 1 = .ok (.invokevirtual 128, 3) := by decide +kernel
theorem dX0_release_4 : decode cX0_release 4 = .ok (.ifCond .eq 15, 3) := by decide +kernel
theorem dX0_release_7 : decode cX0_release 7 = .ok (.aload_n 0, 1) := by decide +kernel
theorem dX0_release_8 : decode cX0_release 8 = .ok (.getfield 34, 3) := by decide +kernel
theorem dX0_release_11 : decode cX0_release 11 = .ok (.aload_n 0, 1) := by decide +kernel
theorem dX0_release_12 : decode cX0_release 12 = .ok (.getfield 85, 3) := by decide +kernel
theorem dX0_release_15 : decode cX0_release 15 = .ok (.baload, 1) := by decide +kernel
theorem dX0_release_16 : decode cX0_release 16 = .ok (.ifCond .ne 13, 3) := by decide +kernel
theorem dX0_release_19 : decode cX0_release 19 = .ok (.new 53, 3) := by decide +kernel
theorem dX0_release_22 : decode cX0_release 22 = .ok (.dup, 1) := by decide +kernel
theorem dX0_release_23 : decode cX0_release 23 = .ok (.ldc 132, 2) := by decide +kernel
theorem dX0_release_25 : decode cX0_release 25 = .ok (.invokespecial 57, 3) := by decide +kernel
theorem dX0_release_28 : decode cX0_release 28 = .ok (.athrow, 1) := by decide +kernel
theorem dX0_release_29 : decode cX0_release 29 = .ok (.iconst 2, 1) := by decide +kernel
theorem dX0_release_30 : decode cX0_release 30 = .ok (.aload_n 0, 1) := by decide +kernel
theorem dX0_release_31 : decode cX0_release 31 = .ok (.iconst 1, 1) := by decide +kernel
theorem dX0_release_32 : decode cX0_release 32 = .ok (.invokevirtual 134, 3) := by decide +kernel
theorem dX0_release_35 : decode cX0_release 35 = .ok (.imul, 1) := by decide +kernel
theorem dX0_release_36 : decode cX0_release 36 = .ok (.aload_n 0, 1) := by decide +kernel
theorem dX0_release_37 : decode cX0_release 37 = .ok (.invokevirtual 137, 3) := by decide +kernel
theorem dX0_release_40 : decode cX0_release 40 = .ok (.if_icmp .gt 13, 3) := by decide +kernel
theorem dX0_release_43 : decode cX0_release 43 = .ok (.new 53, 3) := by decide +kernel
theorem dX0_release_46 : decode cX0_release 46 = .ok (.dup, 1) := by decide +kernel
theorem dX0_release_47 : decode cX0_release 47 = .ok (.ldc 140, 2) := by decide +kernel
theorem dX0_release_49 : decode cX0_release 49 = .ok (.invokespecial 57, 3) := by decide +kernel
theorem dX0_release_52 : decode cX0_release 52 = .ok (.athrow, 1) := by decide +kernel
theorem dX0_release_53 : decode cX0_release 53 = .ok (.aload_n 0, 1) := by decide +kernel
theorem dX0_release_54 : decode cX0_release 54 = .ok (.getfield 31, 3) := by decide +kernel
theorem dX0_release_57 : decode cX0_release 57 = .ok (.aload_n 0, 1) := by decide +kernel
theorem dX0_release_58 : decode cX0_release 58 = .ok (.getfield 85, 3) := by decide +kernel
theorem dX0_release_61 : decode cX0_release 61 = .ok (.iaload, 1) := by decide +kernel
theorem dX0_release_62 : decode cX0_release 62 = .ok (.istore_n 1, 1) := by decide +kernel
theorem dX0_release_63 : decode cX0_release 63 = .ok (.aload_n 0, 1) := by decide +kernel
theorem dX0_release_64 : decode cX0_release 64 = .ok (.invokevirtual 116, 3) := by decide +kernel
theorem dX0_release_67 : decode cX0_release 67 = .ok (.istore_n 2, 1) := by decide +kernel
theorem dX0_release_68 : decode cX0_release 68 = .ok (.aload_n 0, 1) := by decide +kernel
theorem dX0_release_69 : decode cX0_release 69 = .ok (.invokevirtual 142, 3) := by decide +kernel
theorem dX0_release_72 : decode cX0_release 72 = .ok (.aload_n 0, 1) := by decide +kernel
theorem dX0_release_73 : decode cX0_release 73 = .ok (.dup, 1) := by decide +kernel
theorem dX0_release_74 : decode cX0_release 74 = .ok (.getfield 71, 3) := by decide +kernel
theorem dX0_release_77 : decode cX0_release 77 = .ok (.iload_n 2, 1) := by decide +kernel
theorem dX0_release_78 : decode cX0_release 78 = .ok (.isub, 1) := by decide +kernel
theorem dX0_release_79 : decode cX0_release 79 = .ok (.putfield 71, 3) := by decide +kernel
theorem dX0_release_82 : decode cX0_release 82 = .ok (.aload_n 0, 1) := by decide +kernel
theorem dX0_release_83 : decode cX0_release 83 = .ok (.dup, 1) := by decide +kernel
theorem dX0_release_84 : decode cX0_release 84 = .ok (.getfield 145, 3) := by decide +kernel
theorem dX0_release_87 : decode cX0_release 87 = .ok (.iload_n 1, 1) := by decide +kernel
theorem dX0_release_88 : decode cX0_release 88 = .ok (.iload_n 2, 1) := by decide +kernel
theorem dX0_release_89 : decode cX0_release 89 = .ok (.iadd, 1) := by decide +kernel
theorem dX0_release_90 : decode cX0_release 90 = .ok (.iadd, 1) := by decide +kernel
theorem dX0_release_91 : decode cX0_release 91 = .ok (.putfield 145, 3) := by decide +kernel
theorem dX0_release_94 : decode cX0_release 94 = .ok (.aload_n 0, 1) := by decide +kernel
theorem dX0_release_95 : decode cX0_release 95 = .ok (.dup, 1) := by decide +kernel
theorem dX0_release_96 : decode cX0_release 96 = .ok (.getfield 85, 3) := by decide +kernel
theorem dX0_release_99 : decode cX0_release 99 = .ok (.iconst 1, 1) := by decide +kernel
theorem dX0_release_100 : decode cX0_release 100 = .ok (.iadd, 1) := by decide +kernel
theorem dX0_release_101 : decode cX0_release 101 = .ok (.putfield 85, 3) := by decide +kernel
theorem dX0_release_104 : decode cX0_release 104 = .ok (.aload_n 0, 1) := by decide +kernel
theorem dX0_release_105 : decode cX0_release 105 = .ok (.invokevirtual 148, 3) := by decide +kernel
theorem dX0_release_108 : decode cX0_release 108 = .ok (.iload_n 1, 1) := by decide +kernel
theorem dX0_release_109 : decode cX0_release 109 = .ok (.iload_n 2, 1) := by decide +kernel
theorem dX0_release_110 : decode cX0_release 110 = .ok (.iadd, 1) := by decide +kernel
theorem dX0_release_111 : decode cX0_release 111 = .ok (.ireturn, 1) := by decide +kernel
theorem dX0_out_0 : decode cX0_out 0 = .ok (.aload_n 0, 1) := by decide +kernel
theorem dX0_out_1 : decode cX0_out 1 = .ok (.getfield 145, 3) := by decide +kernel
theorem dX0_out_4 : decode cX0_out 4 = .ok (.ireturn, 1) := by decide +kernel
theorem dX0_isGiver_0 : decode cX0_isGiver 0 = .ok (.iload_n 0, 1) := by decide +kernel
theorem dX0_isGiver_1 : decode cX0_isGiver 1 = .ok (.ifCond .lt 13, 3) := by decide +kernel
theorem dX0_isGiver_4 : decode cX0_isGiver 4 = .ok (.iload_n 0, 1) := by decide +kernel
theorem dX0_isGiver_5 : decode cX0_isGiver 5 = .ok (.bipush 8, 2) := by decide +kernel
theorem dX0_isGiver_7 : decode cX0_isGiver 7 = .ok (.if_icmp .ge 7, 3) := by decide +kernel
theorem dX0_isGiver_10 : decode cX0_isGiver 10 = .ok (.iconst 1, 1) := by decide +kernel
theorem dX0_isGiver_11 : decode cX0_isGiver 11 = .ok (.goto 4, 3) := by decide +kernel
theorem dX0_isGiver_14 : decode cX0_isGiver 14 = .ok (.iconst 0, 1) := by decide +kernel
theorem dX0_isGiver_15 : decode cX0_isGiver 15 = .ok (.ireturn, 1) := by decide +kernel
set_option maxRecDepth 20000 in
theorem ggX0_requireGiver_X0_isGiver : GoodIn wsX0_requireGiver wsX0_isGiver := goodIn_r _ [6] (by decide +kernel) (by decide +kernel)
set_option maxRecDepth 20000 in
theorem gX0_requireGiver_X0_isGiver : GoodIn wsX0_requireGiver (va_wsS RX0 151 yX0_isGiver wsX0_isGiver) := goodIn_app (goodIn_of _ (by decide +kernel)) ggX0_requireGiver_X0_isGiver
theorem dX0_requireGiver_0 : decode cX0_requireGiver 0 = .ok (.iload_n 0, 1) := by decide +kernel
theorem dX0_requireGiver_1 : decode cX0_requireGiver 1 = .ok (.invokestatic 151, 3) := by decide +kernel
theorem dX0_requireGiver_4 : decode cX0_requireGiver 4 = .ok (.ifCond .ne 13, 3) := by decide +kernel
theorem dX0_requireGiver_7 : decode cX0_requireGiver 7 = .ok (.new 66, 3) := by decide +kernel
theorem dX0_requireGiver_10 : decode cX0_requireGiver 10 = .ok (.dup, 1) := by decide +kernel
theorem dX0_requireGiver_11 : decode cX0_requireGiver 11 = .ok (.ldc 155, 2) := by decide +kernel
theorem dX0_requireGiver_13 : decode cX0_requireGiver 13 = .ok (.invokespecial 70, 3) := by decide +kernel
theorem dX0_requireGiver_16 : decode cX0_requireGiver 16 = .ok (.athrow, 1) := by decide +kernel
theorem dX0_requireGiver_17 : decode cX0_requireGiver 17 = .ok (.return_, 1) := by decide +kernel
theorem dX0_requireAmount_0 : decode cX0_requireAmount 0 = .ok (.iload_n 0, 1) := by decide +kernel
theorem dX0_requireAmount_1 : decode cX0_requireAmount 1 = .ok (.iconst 1, 1) := by decide +kernel
theorem dX0_requireAmount_2 : decode cX0_requireAmount 2 = .ok (.if_icmp .lt 8, 3) := by decide +kernel
theorem dX0_requireAmount_5 : decode cX0_requireAmount 5 = .ok (.iload_n 0, 1) := by decide +kernel
theorem dX0_requireAmount_6 : decode cX0_requireAmount 6 = .ok (.iload_n 1, 1) := by decide +kernel
theorem dX0_requireAmount_7 : decode cX0_requireAmount 7 = .ok (.if_icmp .le 13, 3) := by decide +kernel
theorem dX0_requireAmount_10 : decode cX0_requireAmount 10 = .ok (.new 90, 3) := by decide +kernel
theorem dX0_requireAmount_13 : decode cX0_requireAmount 13 = .ok (.dup, 1) := by decide +kernel
theorem dX0_requireAmount_14 : decode cX0_requireAmount 14 = .ok (.ldc 157, 2) := by decide +kernel
theorem dX0_requireAmount_16 : decode cX0_requireAmount 16 = .ok (.invokespecial 94, 3) := by decide +kernel
theorem dX0_requireAmount_19 : decode cX0_requireAmount 19 = .ok (.athrow, 1) := by decide +kernel
theorem dX0_requireAmount_20 : decode cX0_requireAmount 20 = .ok (.return_, 1) := by decide +kernel
set_option maxRecDepth 20000 in
theorem ggX0_leadsTo_X0_isGiver : GoodIn wsX0_leadsTo wsX0_isGiver := goodIn_r _ [5] (by decide +kernel) (by decide +kernel)
set_option maxRecDepth 20000 in
theorem gX0_leadsTo_X0_isGiver : GoodIn wsX0_leadsTo (va_wsS RX0 151 yX0_isGiver wsX0_isGiver) := goodIn_app (goodIn_of _ (by decide +kernel)) ggX0_leadsTo_X0_isGiver
theorem dX0_leadsTo_0 : decode cX0_leadsTo 0 = .ok (.iload_n 1, 1) := by decide +kernel
theorem dX0_leadsTo_1 : decode cX0_leadsTo 1 = .ok (.istore_n 3, 1) := by decide +kernel
theorem dX0_leadsTo_2 : decode cX0_leadsTo 2 = .ok (.iconst 0, 1) := by decide +kernel
theorem dX0_leadsTo_3 : decode cX0_leadsTo 3 = .ok (.istore 4, 2) := by decide +kernel
theorem dX0_leadsTo_5 : decode cX0_leadsTo 5 = .ok (.iload 4, 2) := by decide +kernel
theorem dX0_leadsTo_7 : decode cX0_leadsTo 7 = .ok (.bipush 8, 2) := by decide +kernel
theorem dX0_leadsTo_9 : decode cX0_leadsTo 9 = .ok (.if_icmp .ge 30, 3) := by decide +kernel
theorem dX0_leadsTo_12 : decode cX0_leadsTo 12 = .ok (.iload_n 3, 1) := by decide +kernel
theorem dX0_leadsTo_13 : decode cX0_leadsTo 13 = .ok (.invokestatic 151, 3) := by decide +kernel
theorem dX0_leadsTo_16 : decode cX0_leadsTo 16 = .ok (.ifCond .eq 23, 3) := by decide +kernel
theorem dX0_leadsTo_19 : decode cX0_leadsTo 19 = .ok (.iload_n 3, 1) := by decide +kernel
theorem dX0_leadsTo_20 : decode cX0_leadsTo 20 = .ok (.iload_n 2, 1) := by decide +kernel
theorem dX0_leadsTo_21 : decode cX0_leadsTo 21 = .ok (.if_icmp .ne 5, 3) := by decide +kernel
theorem dX0_leadsTo_24 : decode cX0_leadsTo 24 = .ok (.iconst 1, 1) := by decide +kernel
theorem dX0_leadsTo_25 : decode cX0_leadsTo 25 = .ok (.ireturn, 1) := by decide +kernel
theorem dX0_leadsTo_26 : decode cX0_leadsTo 26 = .ok (.aload_n 0, 1) := by decide +kernel
theorem dX0_leadsTo_27 : decode cX0_leadsTo 27 = .ok (.getfield 22, 3) := by decide +kernel
theorem dX0_leadsTo_30 : decode cX0_leadsTo 30 = .ok (.iload_n 3, 1) := by decide +kernel
theorem dX0_leadsTo_31 : decode cX0_leadsTo 31 = .ok (.iaload, 1) := by decide +kernel
theorem dX0_leadsTo_32 : decode cX0_leadsTo 32 = .ok (.istore_n 3, 1) := by decide +kernel
theorem dX0_leadsTo_33 : decode cX0_leadsTo 33 = .ok (.iinc 4 1, 3) := by decide +kernel
theorem dX0_leadsTo_36 : decode cX0_leadsTo 36 = .ok (.goto (-31), 3) := by decide +kernel
theorem dX0_leadsTo_39 : decode cX0_leadsTo 39 = .ok (.iconst 0, 1) := by decide +kernel
theorem dX0_leadsTo_40 : decode cX0_leadsTo 40 = .ok (.ireturn, 1) := by decide +kernel
set_option maxRecDepth 20000 in
theorem ggX0_firstVoterFrom_X0_isGiver : GoodIn wsX0_firstVoterFrom wsX0_isGiver := goodIn_r _ [6] (by decide +kernel) (by decide +kernel)
set_option maxRecDepth 20000 in
theorem gX0_firstVoterFrom_X0_isGiver : GoodIn wsX0_firstVoterFrom (va_wsS RX0 151 yX0_isGiver wsX0_isGiver) := goodIn_app (goodIn_of _ (by decide +kernel)) ggX0_firstVoterFrom_X0_isGiver
theorem dX0_firstVoterFrom_0 : decode cX0_firstVoterFrom 0 = .ok (.iload_n 1, 1) := by decide +kernel
theorem dX0_firstVoterFrom_1 : decode cX0_firstVoterFrom 1 = .ok (.istore_n 2, 1) := by decide +kernel
theorem dX0_firstVoterFrom_2 : decode cX0_firstVoterFrom 2 = .ok (.iconst 0, 1) := by decide +kernel
theorem dX0_firstVoterFrom_3 : decode cX0_firstVoterFrom 3 = .ok (.istore_n 3, 1) := by decide +kernel
theorem dX0_firstVoterFrom_4 : decode cX0_firstVoterFrom 4 = .ok (.iload_n 3, 1) := by decide +kernel
theorem dX0_firstVoterFrom_5 : decode cX0_firstVoterFrom 5 = .ok (.bipush 8, 2) := by decide +kernel
theorem dX0_firstVoterFrom_7 : decode cX0_firstVoterFrom 7 = .ok (.if_icmp .ge 34, 3) := by decide +kernel
theorem dX0_firstVoterFrom_10 : decode cX0_firstVoterFrom 10 = .ok (.iload_n 2, 1) := by decide +kernel
theorem dX0_firstVoterFrom_11 : decode cX0_firstVoterFrom 11 = .ok (.invokestatic 151, 3) := by decide +kernel
theorem dX0_firstVoterFrom_14 : decode cX0_firstVoterFrom 14 = .ok (.ifCond .eq 27, 3) := by decide +kernel
theorem dX0_firstVoterFrom_17 : decode cX0_firstVoterFrom 17 = .ok (.aload_n 0, 1) := by decide +kernel
theorem dX0_firstVoterFrom_18 : decode cX0_firstVoterFrom 18 = .ok (.getfield 28, 3) := by decide +kernel
theorem dX0_firstVoterFrom_21 : decode cX0_firstVoterFrom 21 = .ok (.iload_n 2, 1) := by decide +kernel
theorem dX0_firstVoterFrom_22 : decode cX0_firstVoterFrom 22 = .ok (.iaload, 1) := by decide +kernel
theorem dX0_firstVoterFrom_23 : decode cX0_firstVoterFrom 23 = .ok (.ifCond .eq 5, 3) := by decide +kernel
theorem dX0_firstVoterFrom_26 : decode cX0_firstVoterFrom 26 = .ok (.iload_n 2, 1) := by decide +kernel
theorem dX0_firstVoterFrom_27 : decode cX0_firstVoterFrom 27 = .ok (.ireturn, 1) := by decide +kernel
theorem dX0_firstVoterFrom_28 : decode cX0_firstVoterFrom 28 = .ok (.aload_n 0, 1) := by decide +kernel
theorem dX0_firstVoterFrom_29 : decode cX0_firstVoterFrom 29 = .ok (.getfield 22, 3) := by decide +kernel
theorem dX0_firstVoterFrom_32 : decode cX0_firstVoterFrom 32 = .ok (.iload_n 2, 1) := by decide +kernel
theorem dX0_firstVoterFrom_33 : decode cX0_firstVoterFrom 33 = .ok (.iaload, 1) := by decide +kernel
theorem dX0_firstVoterFrom_34 : decode cX0_firstVoterFrom 34 = .ok (.istore_n 2, 1) := by decide +kernel
theorem dX0_firstVoterFrom_35 : decode cX0_firstVoterFrom 35 = .ok (.iinc 3 1, 3) := by decide +kernel
theorem dX0_firstVoterFrom_38 : decode cX0_firstVoterFrom 38 = .ok (.goto (-34), 3) := by decide +kernel
theorem dX0_firstVoterFrom_41 : decode cX0_firstVoterFrom 41 = .ok (.iconst (-1), 1) := by decide +kernel
theorem dX0_firstVoterFrom_42 : decode cX0_firstVoterFrom 42 = .ok (.ireturn, 1) := by decide +kernel
set_option maxRecDepth 20000 in
theorem ggX0_heardVote_X0_firstVoterFrom : GoodIn wsX0_heardVote wsX0_firstVoterFrom := goodIn_r _ [6, 1, 7, 8, 9, 5, 10, 11, 12, 13, 14, 15, 16, 17, 18, 19, 20, 21, 22, 23, 24, 25] (by decide +kernel) (by decide +kernel)
set_option maxRecDepth 20000 in
theorem gX0_heardVote_X0_firstVoterFrom : GoodIn wsX0_heardVote (wsV RX0 101 RX0 yX0_firstVoterFrom wsX0_firstVoterFrom) := goodIn_app (goodIn_of _ (by decide +kernel)) ggX0_heardVote_X0_firstVoterFrom
set_option maxRecDepth 20000 in
theorem ggX0_heardVote_X0_isGiver : GoodIn wsX0_heardVote wsX0_isGiver := goodIn_r _ [10] (by decide +kernel) (by decide +kernel)
set_option maxRecDepth 20000 in
theorem gX0_heardVote_X0_isGiver : GoodIn wsX0_heardVote (va_wsS RX0 151 yX0_isGiver wsX0_isGiver) := goodIn_app (goodIn_of _ (by decide +kernel)) ggX0_heardVote_X0_isGiver
theorem dX0_heardVote_0 : decode cX0_heardVote 0 = .ok (.aload_n 0, 1) := by decide +kernel
theorem dX0_heardVote_1 : decode cX0_heardVote 1 = .ok (.iload_n 1, 1) := by decide +kernel
theorem dX0_heardVote_2 : decode cX0_heardVote 2 = .ok (.invokevirtual 101, 3) := by decide +kernel
theorem dX0_heardVote_5 : decode cX0_heardVote 5 = .ok (.istore_n 2, 1) := by decide +kernel
theorem dX0_heardVote_6 : decode cX0_heardVote 6 = .ok (.iload_n 2, 1) := by decide +kernel
theorem dX0_heardVote_7 : decode cX0_heardVote 7 = .ok (.invokestatic 151, 3) := by decide +kernel
theorem dX0_heardVote_10 : decode cX0_heardVote 10 = .ok (.ifCond .eq 12, 3) := by decide +kernel
theorem dX0_heardVote_13 : decode cX0_heardVote 13 = .ok (.aload_n 0, 1) := by decide +kernel
theorem dX0_heardVote_14 : decode cX0_heardVote 14 = .ok (.getfield 28, 3) := by decide +kernel
theorem dX0_heardVote_17 : decode cX0_heardVote 17 = .ok (.iload_n 2, 1) := by decide +kernel
theorem dX0_heardVote_18 : decode cX0_heardVote 18 = .ok (.iaload, 1) := by decide +kernel
theorem dX0_heardVote_19 : decode cX0_heardVote 19 = .ok (.goto 4, 3) := by decide +kernel
theorem dX0_heardVote_22 : decode cX0_heardVote 22 = .ok (.iconst 0, 1) := by decide +kernel
theorem dX0_heardVote_23 : decode cX0_heardVote 23 = .ok (.ireturn, 1) := by decide +kernel
theorem dX0_clearVotes_0 : decode cX0_clearVotes 0 = .ok (.iconst 0, 1) := by decide +kernel
theorem dX0_clearVotes_1 : decode cX0_clearVotes 1 = .ok (.istore_n 1, 1) := by decide +kernel
theorem dX0_clearVotes_2 : decode cX0_clearVotes 2 = .ok (.iload_n 1, 1) := by decide +kernel
theorem dX0_clearVotes_3 : decode cX0_clearVotes 3 = .ok (.bipush 8, 2) := by decide +kernel
theorem dX0_clearVotes_5 : decode cX0_clearVotes 5 = .ok (.if_icmp .ge 16, 3) := by decide +kernel
theorem dX0_clearVotes_8 : decode cX0_clearVotes 8 = .ok (.aload_n 0, 1) := by decide +kernel
theorem dX0_clearVotes_9 : decode cX0_clearVotes 9 = .ok (.getfield 28, 3) := by decide +kernel
theorem dX0_clearVotes_12 : decode cX0_clearVotes 12 = .ok (.iload_n 1, 1) := by decide +kernel
theorem dX0_clearVotes_13 : decode cX0_clearVotes 13 = .ok (.iconst 0, 1) := by decide +kernel
theorem dX0_clearVotes_14 : decode cX0_clearVotes 14 = .ok (.iastore, 1) := by decide +kernel
theorem dX0_clearVotes_15 : decode cX0_clearVotes 15 = .ok (.iinc 1 1, 3) := by decide +kernel
theorem dX0_clearVotes_18 : decode cX0_clearVotes 18 = .ok (.goto (-16), 3) := by decide +kernel
theorem dX0_clearVotes_21 : decode cX0_clearVotes 21 = .ok (.return_, 1) := by decide +kernel
set_option maxRecDepth 20000 in
theorem ggX0_isCovered_X0_current : GoodIn wsX0_isCovered wsX0_current := goodIn_r _ [7, 1, 8, 14, 15, 16, 17, 18, 19, 20, 21, 22, 23, 24, 25, 26, 27, 28] (by decide +kernel) (by decide +kernel)
set_option maxRecDepth 20000 in
theorem gX0_isCovered_X0_current : GoodIn wsX0_isCovered (wsV RX0 95 RX0 yX0_current wsX0_current) := goodIn_app (goodIn_of _ (by decide +kernel)) ggX0_isCovered_X0_current
set_option maxRecDepth 20000 in
theorem ggX0_isCovered_X0_total : GoodIn wsX0_isCovered wsX0_total := goodIn_r _ [12, 13, 14, 15, 16, 17, 18, 19, 20, 21, 22, 23, 24, 25, 26, 27, 28] (by decide +kernel) (by decide +kernel)
set_option maxRecDepth 20000 in
theorem gX0_isCovered_X0_total : GoodIn wsX0_isCovered (wsV RX0 137 RX0 yX0_total wsX0_total) := goodIn_app (goodIn_of _ (by decide +kernel)) ggX0_isCovered_X0_total
theorem dX0_isCovered_0 : decode cX0_isCovered 0 = .ok (.aload_n 0, 1) := by decide +kernel
theorem dX0_isCovered_1 : decode cX0_isCovered 1 = .ok (.invokevirtual 95, 3) := by decide +kernel
theorem dX0_isCovered_4 : decode cX0_isCovered 4 = .ok (.iconst (-1), 1) := by decide +kernel
theorem dX0_isCovered_5 : decode cX0_isCovered 5 = .ok (.if_icmp .eq 32, 3) := by decide +kernel
theorem dX0_isCovered_8 : decode cX0_isCovered 8 = .ok (.aload_n 0, 1) := by decide +kernel
theorem dX0_isCovered_9 : decode cX0_isCovered 9 = .ok (.getfield 85, 3) := by decide +kernel
theorem dX0_isCovered_12 : decode cX0_isCovered 12 = .ok (.bipush 6, 2) := by decide +kernel
theorem dX0_isCovered_14 : decode cX0_isCovered 14 = .ok (.if_icmp .ge 23, 3) := by decide +kernel
theorem dX0_isCovered_17 : decode cX0_isCovered 17 = .ok (.aload_n 0, 1) := by decide +kernel
theorem dX0_isCovered_18 : decode cX0_isCovered 18 = .ok (.invokevirtual 137, 3) := by decide +kernel
theorem dX0_isCovered_21 : decode cX0_isCovered 21 = .ok (.aload_n 0, 1) := by decide +kernel
theorem dX0_isCovered_22 : decode cX0_isCovered 22 = .ok (.getfield 31, 3) := by decide +kernel
theorem dX0_isCovered_25 : decode cX0_isCovered 25 = .ok (.aload_n 0, 1) := by decide +kernel
theorem dX0_isCovered_26 : decode cX0_isCovered 26 = .ok (.getfield 85, 3) := by decide +kernel
theorem dX0_isCovered_29 : decode cX0_isCovered 29 = .ok (.iaload, 1) := by decide +kernel
theorem dX0_isCovered_30 : decode cX0_isCovered 30 = .ok (.if_icmp .lt 7, 3) := by decide +kernel
theorem dX0_isCovered_33 : decode cX0_isCovered 33 = .ok (.iconst 1, 1) := by decide +kernel
theorem dX0_isCovered_34 : decode cX0_isCovered 34 = .ok (.goto 4, 3) := by decide +kernel
theorem dX0_isCovered_37 : decode cX0_isCovered 37 = .ok (.iconst 0, 1) := by decide +kernel
theorem dX0_isCovered_38 : decode cX0_isCovered 38 = .ok (.ireturn, 1) := by decide +kernel
set_option maxRecDepth 20000 in
theorem ggX0_requireCovered_X0_isCovered : GoodIn wsX0_requireCovered wsX0_isCovered := goodIn_r _ [7, 8, 9, 10, 11, 12, 6, 13, 14, 15, 16, 17, 18, 19, 20, 21, 22, 23, 24, 25, 26, 27, 28, 29, 30, 31, 32, 33, 34] (by decide +kernel) (by decide +kernel)
set_option maxRecDepth 20000 in
theorem gX0_requireCovered_X0_isCovered : GoodIn wsX0_requireCovered (wsV RX0 128 RX0 yX0_isCovered wsX0_isCovered) := goodIn_app (goodIn_of _ (by decide +kernel)) ggX0_requireCovered_X0_isCovered
theorem dX0_requireCovered_0 : decode cX0_requireCovered 0 = .ok (.aload_n 0, 1) := by decide +kernel
theorem dX0_requireCovered_1 : decode cX0_requireCovered 1 = .ok (.invokevirtual 128, 3) := by decide +kernel
theorem dX0_requireCovered_4 : decode cX0_requireCovered 4 = .ok (.ifCond .ne 13, 3) := by decide +kernel
theorem dX0_requireCovered_7 : decode cX0_requireCovered 7 = .ok (.new 159, 3) := by decide +kernel
theorem dX0_requireCovered_10 : decode cX0_requireCovered 10 = .ok (.dup, 1) := by decide +kernel
theorem dX0_requireCovered_11 : decode cX0_requireCovered 11 = .ok (.ldc 161, 2) := by decide +kernel
theorem dX0_requireCovered_13 : decode cX0_requireCovered 13 = .ok (.invokespecial 163, 3) := by decide +kernel
theorem dX0_requireCovered_16 : decode cX0_requireCovered 16 = .ok (.athrow, 1) := by decide +kernel
theorem dX0_requireCovered_17 : decode cX0_requireCovered 17 = .ok (.return_, 1) := by decide +kernel
set_option maxRecDepth 20000 in
theorem ggX0_findShares_X0_total : GoodIn wsX0_findShares wsX0_total := goodIn_r _ [7, 2, 11, 12, 13, 14, 15, 16, 17, 18, 19, 20, 21, 22, 23, 24, 25] (by decide +kernel) (by decide +kernel)
set_option maxRecDepth 20000 in
theorem gX0_findShares_X0_total : GoodIn wsX0_findShares (wsV RX0 137 RX0 yX0_total wsX0_total) := goodIn_app (goodIn_of _ (by decide +kernel)) ggX0_findShares_X0_total
set_option maxRecDepth 20000 in
theorem ggX0_findShares_X0_roundedPart : GoodIn wsX0_findShares wsX0_roundedPart := goodIn_r _ [10] (by decide +kernel) (by decide +kernel)
set_option maxRecDepth 20000 in
theorem gX0_findShares_X0_roundedPart : GoodIn wsX0_findShares (va_wsS RX0 164 yX0_roundedPart wsX0_roundedPart) := goodIn_app (goodIn_of _ (by decide +kernel)) ggX0_findShares_X0_roundedPart
theorem dX0_findShares_0 : decode cX0_findShares 0 = .ok (.aload_n 0, 1) := by decide +kernel
theorem dX0_findShares_1 : decode cX0_findShares 1 = .ok (.invokevirtual 137, 3) := by decide +kernel
theorem dX0_findShares_4 : decode cX0_findShares 4 = .ok (.istore_n 2, 1) := by decide +kernel
theorem dX0_findShares_5 : decode cX0_findShares 5 = .ok (.iload_n 1, 1) := by decide +kernel
theorem dX0_findShares_6 : decode cX0_findShares 6 = .ok (.istore_n 3, 1) := by decide +kernel
theorem dX0_findShares_7 : decode cX0_findShares 7 = .ok (.iconst 0, 1) := by decide +kernel
theorem dX0_findShares_8 : decode cX0_findShares 8 = .ok (.istore 4, 2) := by decide +kernel
theorem dX0_findShares_10 : decode cX0_findShares 10 = .ok (.iload 4, 2) := by decide +kernel
theorem dX0_findShares_12 : decode cX0_findShares 12 = .ok (.bipush 8, 2) := by decide +kernel
theorem dX0_findShares_14 : decode cX0_findShares 14 = .ok (.if_icmp .ge 38, 3) := by decide +kernel
theorem dX0_findShares_17 : decode cX0_findShares 17 = .ok (.aload_n 0, 1) := by decide +kernel
theorem dX0_findShares_18 : decode cX0_findShares 18 = .ok (.getfield 38, 3) := by decide +kernel
theorem dX0_findShares_21 : decode cX0_findShares 21 = .ok (.iload 4, 2) := by decide +kernel
theorem dX0_findShares_23 : decode cX0_findShares 23 = .ok (.iload_n 1, 1) := by decide +kernel
theorem dX0_findShares_24 : decode cX0_findShares 24 = .ok (.aload_n 0, 1) := by decide +kernel
theorem dX0_findShares_25 : decode cX0_findShares 25 = .ok (.getfield 9, 3) := by decide +kernel
theorem dX0_findShares_28 : decode cX0_findShares 28 = .ok (.iload 4, 2) := by decide +kernel
theorem dX0_findShares_30 : decode cX0_findShares 30 = .ok (.iaload, 1) := by decide +kernel
theorem dX0_findShares_31 : decode cX0_findShares 31 = .ok (.iload_n 2, 1) := by decide +kernel
theorem dX0_findShares_32 : decode cX0_findShares 32 = .ok (.invokestatic 164, 3) := by decide +kernel
theorem dX0_findShares_35 : decode cX0_findShares 35 = .ok (.iastore, 1) := by decide +kernel
theorem dX0_findShares_36 : decode cX0_findShares 36 = .ok (.iload_n 3, 1) := by decide +kernel
theorem dX0_findShares_37 : decode cX0_findShares 37 = .ok (.aload_n 0, 1) := by decide +kernel
theorem dX0_findShares_38 : decode cX0_findShares 38 = .ok (.getfield 38, 3) := by decide +kernel
theorem dX0_findShares_41 : decode cX0_findShares 41 = .ok (.iload 4, 2) := by decide +kernel
theorem dX0_findShares_43 : decode cX0_findShares 43 = .ok (.iaload, 1) := by decide +kernel
theorem dX0_findShares_44 : decode cX0_findShares 44 = .ok (.isub, 1) := by decide +kernel
theorem dX0_findShares_45 : decode cX0_findShares 45 = .ok (.istore_n 3, 1) := by decide +kernel
theorem dX0_findShares_46 : decode cX0_findShares 46 = .ok (.iinc 4 1, 3) := by decide +kernel
theorem dX0_findShares_49 : decode cX0_findShares 49 = .ok (.goto (-39), 3) := by decide +kernel
theorem dX0_findShares_52 : decode cX0_findShares 52 = .ok (.iconst 0, 1) := by decide +kernel
theorem dX0_findShares_53 : decode cX0_findShares 53 = .ok (.istore 4, 2) := by decide +kernel
theorem dX0_findShares_55 : decode cX0_findShares 55 = .ok (.iload 4, 2) := by decide +kernel
theorem dX0_findShares_57 : decode cX0_findShares 57 = .ok (.bipush 8, 2) := by decide +kernel
theorem dX0_findShares_59 : decode cX0_findShares 59 = .ok (.if_icmp .ge 44, 3) := by decide +kernel
theorem dX0_findShares_62 : decode cX0_findShares 62 = .ok (.iload_n 3, 1) := by decide +kernel
theorem dX0_findShares_63 : decode cX0_findShares 63 = .ok (.ifCond .le 40, 3) := by decide +kernel
theorem dX0_findShares_66 : decode cX0_findShares 66 = .ok (.aload_n 0, 1) := by decide +kernel
theorem dX0_findShares_67 : decode cX0_findShares 67 = .ok (.getfield 9, 3) := by decide +kernel
theorem dX0_findShares_70 : decode cX0_findShares 70 = .ok (.iload 4, 2) := by decide +kernel
theorem dX0_findShares_72 : decode cX0_findShares 72 = .ok (.iaload, 1) := by decide +kernel
theorem dX0_findShares_73 : decode cX0_findShares 73 = .ok (.aload_n 0, 1) := by decide +kernel
theorem dX0_findShares_74 : decode cX0_findShares 74 = .ok (.getfield 38, 3) := by decide +kernel
theorem dX0_findShares_77 : decode cX0_findShares 77 = .ok (.iload 4, 2) := by decide +kernel
theorem dX0_findShares_79 : decode cX0_findShares 79 = .ok (.iaload, 1) := by decide +kernel
theorem dX0_findShares_80 : decode cX0_findShares 80 = .ok (.if_icmp .le 17, 3) := by decide +kernel
theorem dX0_findShares_83 : decode cX0_findShares 83 = .ok (.aload_n 0, 1) := by decide +kernel
theorem dX0_findShares_84 : decode cX0_findShares 84 = .ok (.getfield 38, 3) := by decide +kernel
theorem dX0_findShares_87 : decode cX0_findShares 87 = .ok (.iload 4, 2) := by decide +kernel
theorem dX0_findShares_89 : decode cX0_findShares 89 = .ok (.dup2, 1) := by decide +kernel
theorem dX0_findShares_90 : decode cX0_findShares 90 = .ok (.iaload, 1) := by decide +kernel
theorem dX0_findShares_91 : decode cX0_findShares 91 = .ok (.iconst 1, 1) := by decide +kernel
theorem dX0_findShares_92 : decode cX0_findShares 92 = .ok (.iadd, 1) := by decide +kernel
theorem dX0_findShares_93 : decode cX0_findShares 93 = .ok (.iastore, 1) := by decide +kernel
theorem dX0_findShares_94 : decode cX0_findShares 94 = .ok (.iinc 3 (-1), 3) := by decide +kernel
theorem dX0_findShares_97 : decode cX0_findShares 97 = .ok (.iinc 4 1, 3) := by decide +kernel
theorem dX0_findShares_100 : decode cX0_findShares 100 = .ok (.goto (-45), 3) := by decide +kernel
theorem dX0_findShares_103 : decode cX0_findShares 103 = .ok (.return_, 1) := by decide +kernel
theorem dX0_roundedPart_0 : decode cX0_roundedPart 0 = .ok (.iload_n 2, 1) := by decide +kernel
theorem dX0_roundedPart_1 : decode cX0_roundedPart 1 = .ok (.ifCond .le 15, 3) := by decide +kernel
theorem dX0_roundedPart_4 : decode cX0_roundedPart 4 = .ok (.iload_n 0, 1) := by decide +kernel
theorem dX0_roundedPart_5 : decode cX0_roundedPart 5 = .ok (.i2l, 1) := by decide +kernel
theorem dX0_roundedPart_6 : decode cX0_roundedPart 6 = .ok (.iload_n 1, 1) := by decide +kernel
theorem dX0_roundedPart_7 : decode cX0_roundedPart 7 = .ok (.i2l, 1) := by decide +kernel
theorem dX0_roundedPart_8 : decode cX0_roundedPart 8 = .ok (.lmul, 1) := by decide +kernel
theorem dX0_roundedPart_9 : decode cX0_roundedPart 9 = .ok (.iload_n 2, 1) := by decide +kernel
theorem dX0_roundedPart_10 : decode cX0_roundedPart 10 = .ok (.i2l, 1) := by decide +kernel
theorem dX0_roundedPart_11 : decode cX0_roundedPart 11 = .ok (.ldiv, 1) := by decide +kernel
theorem dX0_roundedPart_12 : decode cX0_roundedPart 12 = .ok (.l2i, 1) := by decide +kernel
theorem dX0_roundedPart_13 : decode cX0_roundedPart 13 = .ok (.goto 4, 3) := by decide +kernel
theorem dX0_roundedPart_16 : decode cX0_roundedPart 16 = .ok (.iconst 0, 1) := by decide +kernel
theorem dX0_roundedPart_17 : decode cX0_roundedPart 17 = .ok (.ireturn, 1) := by decide +kernel
theorem dX0_payShares_0 : decode cX0_payShares 0 = .ok (.iconst 0, 1) := by decide +kernel
theorem dX0_payShares_1 : decode cX0_payShares 1 = .ok (.istore_n 1, 1) := by decide +kernel
theorem dX0_payShares_2 : decode cX0_payShares 2 = .ok (.iload_n 1, 1) := by decide +kernel
theorem dX0_payShares_3 : decode cX0_payShares 3 = .ok (.bipush 8, 2) := by decide +kernel
theorem dX0_payShares_5 : decode cX0_payShares 5 = .ok (.if_icmp .ge 39, 3) := by decide +kernel
theorem dX0_payShares_8 : decode cX0_payShares 8 = .ok (.aload_n 0, 1) := by decide +kernel
theorem dX0_payShares_9 : decode cX0_payShares 9 = .ok (.getfield 9, 3) := by decide +kernel
theorem dX0_payShares_12 : decode cX0_payShares 12 = .ok (.iload_n 1, 1) := by decide +kernel
theorem dX0_payShares_13 : decode cX0_payShares 13 = .ok (.dup2, 1) := by decide +kernel
theorem dX0_payShares_14 : decode cX0_payShares 14 = .ok (.iaload, 1) := by decide +kernel
theorem dX0_payShares_15 : decode cX0_payShares 15 = .ok (.aload_n 0, 1) := by decide +kernel
theorem dX0_payShares_16 : decode cX0_payShares 16 = .ok (.getfield 38, 3) := by decide +kernel
theorem dX0_payShares_19 : decode cX0_payShares 19 = .ok (.iload_n 1, 1) := by decide +kernel
theorem dX0_payShares_20 : decode cX0_payShares 20 = .ok (.iaload, 1) := by decide +kernel
theorem dX0_payShares_21 : decode cX0_payShares 21 = .ok (.isub, 1) := by decide +kernel
theorem dX0_payShares_22 : decode cX0_payShares 22 = .ok (.iastore, 1) := by decide +kernel
theorem dX0_payShares_23 : decode cX0_payShares 23 = .ok (.aload_n 0, 1) := by decide +kernel
theorem dX0_payShares_24 : decode cX0_payShares 24 = .ok (.getfield 19, 3) := by decide +kernel
theorem dX0_payShares_27 : decode cX0_payShares 27 = .ok (.iload_n 1, 1) := by decide +kernel
theorem dX0_payShares_28 : decode cX0_payShares 28 = .ok (.dup2, 1) := by decide +kernel
theorem dX0_payShares_29 : decode cX0_payShares 29 = .ok (.iaload, 1) := by decide +kernel
theorem dX0_payShares_30 : decode cX0_payShares 30 = .ok (.aload_n 0, 1) := by decide +kernel
theorem dX0_payShares_31 : decode cX0_payShares 31 = .ok (.getfield 38, 3) := by decide +kernel
theorem dX0_payShares_34 : decode cX0_payShares 34 = .ok (.iload_n 1, 1) := by decide +kernel
theorem dX0_payShares_35 : decode cX0_payShares 35 = .ok (.iaload, 1) := by decide +kernel
theorem dX0_payShares_36 : decode cX0_payShares 36 = .ok (.iadd, 1) := by decide +kernel
theorem dX0_payShares_37 : decode cX0_payShares 37 = .ok (.iastore, 1) := by decide +kernel
theorem dX0_payShares_38 : decode cX0_payShares 38 = .ok (.iinc 1 1, 3) := by decide +kernel
theorem dX0_payShares_41 : decode cX0_payShares 41 = .ok (.goto (-39), 3) := by decide +kernel
theorem dX0_payShares_44 : decode cX0_payShares 44 = .ok (.return_, 1) := by decide +kernel
set_option maxRecDepth 20000 in
theorem ggX0_currentMatch_X0_findShares : GoodIn wsX0_currentMatch wsX0_findShares := goodIn_r _ [7, 8, 9, 10, 11, 12, 6, 13, 14, 15, 16, 46, 47, 48, 49, 50, 51, 52, 53, 54, 55, 56, 57, 58, 59, 60] (by decide +kernel) (by decide +kernel)
set_option maxRecDepth 20000 in
theorem gX0_currentMatch_X0_findShares : GoodIn wsX0_currentMatch (wsV RX0 113 RX0 yX0_findShares wsX0_findShares) := goodIn_app (goodIn_of _ (by decide +kernel)) ggX0_currentMatch_X0_findShares
set_option maxRecDepth 20000 in
theorem ggX0_currentMatch_X0_findRoots : GoodIn wsX0_currentMatch wsX0_findRoots := goodIn_r _ [20, 21, 22, 23, 24, 6, 25, 26, 8, 27, 28, 29, 46, 47, 48, 49, 50, 51, 52, 53, 54, 55, 56, 57, 58, 59, 60] (by decide +kernel) (by decide +kernel)
set_option maxRecDepth 20000 in
theorem gX0_currentMatch_X0_findRoots : GoodIn wsX0_currentMatch (wsV RX0 119 RX0 yX0_findRoots wsX0_findRoots) := goodIn_app (goodIn_of _ (by decide +kernel)) ggX0_currentMatch_X0_findRoots
set_option maxRecDepth 20000 in
theorem ggX0_currentMatch_X0_squareOfSum : GoodIn wsX0_currentMatch wsX0_squareOfSum := goodIn_r _ [33, 21, 46, 47, 48, 49, 50, 51, 52, 53, 54, 55, 56, 57, 58, 59, 60] (by decide +kernel) (by decide +kernel)
set_option maxRecDepth 20000 in
theorem gX0_currentMatch_X0_squareOfSum : GoodIn wsX0_currentMatch (wsV RX0 168 RX0 yX0_squareOfSum wsX0_squareOfSum) := goodIn_app (goodIn_of _ (by decide +kernel)) ggX0_currentMatch_X0_squareOfSum
set_option maxRecDepth 20000 in
theorem ggX0_currentMatch_X0_withinPot : GoodIn wsX0_currentMatch wsX0_withinPot := goodIn_r _ [37, 38, 39, 40, 41, 42, 43, 44, 45, 46, 47, 48, 49, 50, 51, 52, 53, 54, 55, 56, 57, 58, 59, 60] (by decide +kernel) (by decide +kernel)
set_option maxRecDepth 20000 in
theorem gX0_currentMatch_X0_withinPot : GoodIn wsX0_currentMatch (wsV RX0 125 RX0 yX0_withinPot wsX0_withinPot) := goodIn_app (goodIn_of _ (by decide +kernel)) ggX0_currentMatch_X0_withinPot
theorem dX0_currentMatch_0 : decode cX0_currentMatch 0 = .ok (.aload_n 0, 1) := by decide +kernel
theorem dX0_currentMatch_1 : decode cX0_currentMatch 1 = .ok (.getfield 31, 3) := by decide +kernel
theorem dX0_currentMatch_4 : decode cX0_currentMatch 4 = .ok (.aload_n 0, 1) := by decide +kernel
theorem dX0_currentMatch_5 : decode cX0_currentMatch 5 = .ok (.getfield 85, 3) := by decide +kernel
theorem dX0_currentMatch_8 : decode cX0_currentMatch 8 = .ok (.iaload, 1) := by decide +kernel
theorem dX0_currentMatch_9 : decode cX0_currentMatch 9 = .ok (.istore_n 1, 1) := by decide +kernel
theorem dX0_currentMatch_10 : decode cX0_currentMatch 10 = .ok (.aload_n 0, 1) := by decide +kernel
theorem dX0_currentMatch_11 : decode cX0_currentMatch 11 = .ok (.iload_n 1, 1) := by decide +kernel
theorem dX0_currentMatch_12 : decode cX0_currentMatch 12 = .ok (.invokevirtual 113, 3) := by decide +kernel
theorem dX0_currentMatch_15 : decode cX0_currentMatch 15 = .ok (.aload_n 0, 1) := by decide +kernel
theorem dX0_currentMatch_16 : decode cX0_currentMatch 16 = .ok (.invokevirtual 119, 3) := by decide +kernel
theorem dX0_currentMatch_19 : decode cX0_currentMatch 19 = .ok (.aload_n 0, 1) := by decide +kernel
theorem dX0_currentMatch_20 : decode cX0_currentMatch 20 = .ok (.aload_n 0, 1) := by decide +kernel
theorem dX0_currentMatch_21 : decode cX0_currentMatch 21 = .ok (.invokevirtual 168, 3) := by decide +kernel
theorem dX0_currentMatch_24 : decode cX0_currentMatch 24 = .ok (.iload_n 1, 1) := by decide +kernel
theorem dX0_currentMatch_25 : decode cX0_currentMatch 25 = .ok (.isub, 1) := by decide +kernel
theorem dX0_currentMatch_26 : decode cX0_currentMatch 26 = .ok (.invokevirtual 125, 3) := by decide +kernel
theorem dX0_currentMatch_29 : decode cX0_currentMatch 29 = .ok (.ireturn, 1) := by decide +kernel
set_option maxRecDepth 20000 in
theorem ggX0_findRoots_X0_partOf : GoodIn wsX0_findRoots wsX0_partOf := goodIn_r _ [6, 7, 8, 12, 13, 14, 15, 16, 17, 18, 19, 20, 21, 22, 23, 24, 25, 26] (by decide +kernel) (by decide +kernel)
set_option maxRecDepth 20000 in
theorem gX0_findRoots_X0_partOf : GoodIn wsX0_findRoots (wsV RX0 171 RX0 yX0_partOf wsX0_partOf) := goodIn_app (goodIn_of _ (by decide +kernel)) ggX0_findRoots_X0_partOf
set_option maxRecDepth 20000 in
theorem ggX0_findRoots_X0_rootOf : GoodIn wsX0_findRoots wsX0_rootOf := goodIn_r _ [11] (by decide +kernel) (by decide +kernel)
set_option maxRecDepth 20000 in
theorem gX0_findRoots_X0_rootOf : GoodIn wsX0_findRoots (va_wsS RX0 174 yX0_rootOf wsX0_rootOf) := goodIn_app (goodIn_of _ (by decide +kernel)) ggX0_findRoots_X0_rootOf
theorem dX0_findRoots_0 : decode cX0_findRoots 0 = .ok (.iconst 0, 1) := by decide +kernel
theorem dX0_findRoots_1 : decode cX0_findRoots 1 = .ok (.istore_n 1, 1) := by decide +kernel
theorem dX0_findRoots_2 : decode cX0_findRoots 2 = .ok (.iload_n 1, 1) := by decide +kernel
theorem dX0_findRoots_3 : decode cX0_findRoots 3 = .ok (.bipush 8, 2) := by decide +kernel
theorem dX0_findRoots_5 : decode cX0_findRoots 5 = .ok (.if_icmp .ge 23, 3) := by decide +kernel
theorem dX0_findRoots_8 : decode cX0_findRoots 8 = .ok (.aload_n 0, 1) := by decide +kernel
theorem dX0_findRoots_9 : decode cX0_findRoots 9 = .ok (.getfield 41, 3) := by decide +kernel
theorem dX0_findRoots_12 : decode cX0_findRoots 12 = .ok (.iload_n 1, 1) := by decide +kernel
theorem dX0_findRoots_13 : decode cX0_findRoots 13 = .ok (.aload_n 0, 1) := by decide +kernel
theorem dX0_findRoots_14 : decode cX0_findRoots 14 = .ok (.iload_n 1, 1) := by decide +kernel
theorem dX0_findRoots_15 : decode cX0_findRoots 15 = .ok (.invokevirtual 171, 3) := by decide +kernel
theorem dX0_findRoots_18 : decode cX0_findRoots 18 = .ok (.invokestatic 174, 3) := by decide +kernel
theorem dX0_findRoots_21 : decode cX0_findRoots 21 = .ok (.iastore, 1) := by decide +kernel
theorem dX0_findRoots_22 : decode cX0_findRoots 22 = .ok (.iinc 1 1, 3) := by decide +kernel
theorem dX0_findRoots_25 : decode cX0_findRoots 25 = .ok (.goto (-23), 3) := by decide +kernel
theorem dX0_findRoots_28 : decode cX0_findRoots 28 = .ok (.return_, 1) := by decide +kernel
theorem dX0_partOf_0 : decode cX0_partOf 0 = .ok (.iconst 0, 1) := by decide +kernel
theorem dX0_partOf_1 : decode cX0_partOf 1 = .ok (.istore_n 2, 1) := by decide +kernel
theorem dX0_partOf_2 : decode cX0_partOf 2 = .ok (.iconst 0, 1) := by decide +kernel
theorem dX0_partOf_3 : decode cX0_partOf 3 = .ok (.istore_n 3, 1) := by decide +kernel
theorem dX0_partOf_4 : decode cX0_partOf 4 = .ok (.iload_n 3, 1) := by decide +kernel
theorem dX0_partOf_5 : decode cX0_partOf 5 = .ok (.bipush 8, 2) := by decide +kernel
theorem dX0_partOf_7 : decode cX0_partOf 7 = .ok (.if_icmp .ge 28, 3) := by decide +kernel
theorem dX0_partOf_10 : decode cX0_partOf 10 = .ok (.aload_n 0, 1) := by decide +kernel
theorem dX0_partOf_11 : decode cX0_partOf 11 = .ok (.getfield 25, 3) := by decide +kernel
theorem dX0_partOf_14 : decode cX0_partOf 14 = .ok (.iload_n 3, 1) := by decide +kernel
theorem dX0_partOf_15 : decode cX0_partOf 15 = .ok (.iaload, 1) := by decide +kernel
theorem dX0_partOf_16 : decode cX0_partOf 16 = .ok (.iload_n 1, 1) := by decide +kernel
theorem dX0_partOf_17 : decode cX0_partOf 17 = .ok (.if_icmp .ne 12, 3) := by decide +kernel
theorem dX0_partOf_20 : decode cX0_partOf 20 = .ok (.iload_n 2, 1) := by decide +kernel
theorem dX0_partOf_21 : decode cX0_partOf 21 = .ok (.aload_n 0, 1) := by decide +kernel
theorem dX0_partOf_22 : decode cX0_partOf 22 = .ok (.getfield 38, 3) := by decide +kernel
theorem dX0_partOf_25 : decode cX0_partOf 25 = .ok (.iload_n 3, 1) := by decide +kernel
theorem dX0_partOf_26 : decode cX0_partOf 26 = .ok (.iaload, 1) := by decide +kernel
theorem dX0_partOf_27 : decode cX0_partOf 27 = .ok (.iadd, 1) := by decide +kernel
theorem dX0_partOf_28 : decode cX0_partOf 28 = .ok (.istore_n 2, 1) := by decide +kernel
theorem dX0_partOf_29 : decode cX0_partOf 29 = .ok (.iinc 3 1, 3) := by decide +kernel
theorem dX0_partOf_32 : decode cX0_partOf 32 = .ok (.goto (-28), 3) := by decide +kernel
theorem dX0_partOf_35 : decode cX0_partOf 35 = .ok (.iload_n 2, 1) := by decide +kernel
theorem dX0_partOf_36 : decode cX0_partOf 36 = .ok (.ireturn, 1) := by decide +kernel
theorem dX0_rootOf_0 : decode cX0_rootOf 0 = .ok (.iconst 0, 1) := by decide +kernel
theorem dX0_rootOf_1 : decode cX0_rootOf 1 = .ok (.istore_n 1, 1) := by decide +kernel
theorem dX0_rootOf_2 : decode cX0_rootOf 2 = .ok (.bipush 8, 2) := by decide +kernel
theorem dX0_rootOf_4 : decode cX0_rootOf 4 = .ok (.istore_n 2, 1) := by decide +kernel
theorem dX0_rootOf_5 : decode cX0_rootOf 5 = .ok (.iload_n 2, 1) := by decide +kernel
theorem dX0_rootOf_6 : decode cX0_rootOf 6 = .ok (.ifCond .lt 24, 3) := by decide +kernel
theorem dX0_rootOf_9 : decode cX0_rootOf 9 = .ok (.iload_n 1, 1) := by decide +kernel
theorem dX0_rootOf_10 : decode cX0_rootOf 10 = .ok (.iconst 1, 1) := by decide +kernel
theorem dX0_rootOf_11 : decode cX0_rootOf 11 = .ok (.iload_n 2, 1) := by decide +kernel
theorem dX0_rootOf_12 : decode cX0_rootOf 12 = .ok (.ishl, 1) := by decide +kernel
theorem dX0_rootOf_13 : decode cX0_rootOf 13 = .ok (.iadd, 1) := by decide +kernel
theorem dX0_rootOf_14 : decode cX0_rootOf 14 = .ok (.istore_n 3, 1) := by decide +kernel
theorem dX0_rootOf_15 : decode cX0_rootOf 15 = .ok (.iload_n 3, 1) := by decide +kernel
theorem dX0_rootOf_16 : decode cX0_rootOf 16 = .ok (.iload_n 3, 1) := by decide +kernel
theorem dX0_rootOf_17 : decode cX0_rootOf 17 = .ok (.imul, 1) := by decide +kernel
theorem dX0_rootOf_18 : decode cX0_rootOf 18 = .ok (.iload_n 0, 1) := by decide +kernel
theorem dX0_rootOf_19 : decode cX0_rootOf 19 = .ok (.if_icmp .gt 5, 3) := by decide +kernel
theorem dX0_rootOf_22 : decode cX0_rootOf 22 = .ok (.iload_n 3, 1) := by decide +kernel
theorem dX0_rootOf_23 : decode cX0_rootOf 23 = .ok (.istore_n 1, 1) := by decide +kernel
theorem dX0_rootOf_24 : decode cX0_rootOf 24 = .ok (.iinc 2 (-1), 3) := by decide +kernel
theorem dX0_rootOf_27 : decode cX0_rootOf 27 = .ok (.goto (-22), 3) := by decide +kernel
theorem dX0_rootOf_30 : decode cX0_rootOf 30 = .ok (.iload_n 1, 1) := by decide +kernel
theorem dX0_rootOf_31 : decode cX0_rootOf 31 = .ok (.ireturn, 1) := by decide +kernel
theorem dX0_squareOfSum_0 : decode cX0_squareOfSum 0 = .ok (.iconst 0, 1) := by decide +kernel
theorem dX0_squareOfSum_1 : decode cX0_squareOfSum 1 = .ok (.istore_n 1, 1) := by decide +kernel
theorem dX0_squareOfSum_2 : decode cX0_squareOfSum 2 = .ok (.iconst 0, 1) := by decide +kernel
theorem dX0_squareOfSum_3 : decode cX0_squareOfSum 3 = .ok (.istore_n 2, 1) := by decide +kernel
theorem dX0_squareOfSum_4 : decode cX0_squareOfSum 4 = .ok (.iload_n 2, 1) := by decide +kernel
theorem dX0_squareOfSum_5 : decode cX0_squareOfSum 5 = .ok (.bipush 8, 2) := by decide +kernel
theorem dX0_squareOfSum_7 : decode cX0_squareOfSum 7 = .ok (.if_icmp .ge 18, 3) := by decide +kernel
theorem dX0_squareOfSum_10 : decode cX0_squareOfSum 10 = .ok (.iload_n 1, 1) := by decide +kernel
theorem dX0_squareOfSum_11 : decode cX0_squareOfSum 11 = .ok (.aload_n 0, 1) := by decide +kernel
theorem dX0_squareOfSum_12 : decode cX0_squareOfSum 12 = .ok (.getfield 41, 3) := by decide +kernel
theorem dX0_squareOfSum_15 : decode cX0_squareOfSum 15 = .ok (.iload_n 2, 1) := by decide +kernel
theorem dX0_squareOfSum_16 : decode cX0_squareOfSum 16 = .ok (.iaload, 1) := by decide +kernel
theorem dX0_squareOfSum_17 : decode cX0_squareOfSum 17 = .ok (.iadd, 1) := by decide +kernel
theorem dX0_squareOfSum_18 : decode cX0_squareOfSum 18 = .ok (.istore_n 1, 1) := by decide +kernel
theorem dX0_squareOfSum_19 : decode cX0_squareOfSum 19 = .ok (.iinc 2 1, 3) := by decide +kernel
theorem dX0_squareOfSum_22 : decode cX0_squareOfSum 22 = .ok (.goto (-18), 3) := by decide +kernel
theorem dX0_squareOfSum_25 : decode cX0_squareOfSum 25 = .ok (.iload_n 1, 1) := by decide +kernel
theorem dX0_squareOfSum_26 : decode cX0_squareOfSum 26 = .ok (.iload_n 1, 1) := by decide +kernel
theorem dX0_squareOfSum_27 : decode cX0_squareOfSum 27 = .ok (.imul, 1) := by decide +kernel
theorem dX0_squareOfSum_28 : decode cX0_squareOfSum 28 = .ok (.ireturn, 1) := by decide +kernel
theorem dX0_squareByPairs_0 : decode cX0_squareByPairs 0 = .ok (.iconst 0, 1) := by decide +kernel
theorem dX0_squareByPairs_1 : decode cX0_squareByPairs 1 = .ok (.istore_n 1, 1) := by decide +kernel
theorem dX0_squareByPairs_2 : decode cX0_squareByPairs 2 = .ok (.iconst 0, 1) := by decide +kernel
theorem dX0_squareByPairs_3 : decode cX0_squareByPairs 3 = .ok (.istore_n 2, 1) := by decide +kernel
theorem dX0_squareByPairs_4 : decode cX0_squareByPairs 4 = .ok (.iload_n 2, 1) := by decide +kernel
theorem dX0_squareByPairs_5 : decode cX0_squareByPairs 5 = .ok (.bipush 8, 2) := by decide +kernel
theorem dX0_squareByPairs_7 : decode cX0_squareByPairs 7 = .ok (.if_icmp .ge 59, 3) := by decide +kernel
theorem dX0_squareByPairs_10 : decode cX0_squareByPairs 10 = .ok (.iload_n 1, 1) := by decide +kernel
theorem dX0_squareByPairs_11 : decode cX0_squareByPairs 11 = .ok (.aload_n 0, 1) := by decide +kernel
theorem dX0_squareByPairs_12 : decode cX0_squareByPairs 12 = .ok (.getfield 41, 3) := by decide +kernel
theorem dX0_squareByPairs_15 : decode cX0_squareByPairs 15 = .ok (.iload_n 2, 1) := by decide +kernel
theorem dX0_squareByPairs_16 : decode cX0_squareByPairs 16 = .ok (.iaload, 1) := by decide +kernel
theorem dX0_squareByPairs_17 : decode cX0_squareByPairs 17 = .ok (.aload_n 0, 1) := by decide +kernel
theorem dX0_squareByPairs_18 : decode cX0_squareByPairs 18 = .ok (.getfield 41, 3) := by decide +kernel
theorem dX0_squareByPairs_21 : decode cX0_squareByPairs 21 = .ok (.iload_n 2, 1) := by decide +kernel
theorem dX0_squareByPairs_22 : decode cX0_squareByPairs 22 = .ok (.iaload, 1) := by decide +kernel
theorem dX0_squareByPairs_23 : decode cX0_squareByPairs 23 = .ok (.imul, 1) := by decide +kernel
theorem dX0_squareByPairs_24 : decode cX0_squareByPairs 24 = .ok (.iadd, 1) := by decide +kernel
theorem dX0_squareByPairs_25 : decode cX0_squareByPairs 25 = .ok (.istore_n 1, 1) := by decide +kernel
theorem dX0_squareByPairs_26 : decode cX0_squareByPairs 26 = .ok (.iload_n 2, 1) := by decide +kernel
theorem dX0_squareByPairs_27 : decode cX0_squareByPairs 27 = .ok (.iconst 1, 1) := by decide +kernel
theorem dX0_squareByPairs_28 : decode cX0_squareByPairs 28 = .ok (.iadd, 1) := by decide +kernel
theorem dX0_squareByPairs_29 : decode cX0_squareByPairs 29 = .ok (.istore_n 3, 1) := by decide +kernel
theorem dX0_squareByPairs_30 : decode cX0_squareByPairs 30 = .ok (.iload_n 3, 1) := by decide +kernel
theorem dX0_squareByPairs_31 : decode cX0_squareByPairs 31 = .ok (.bipush 8, 2) := by decide +kernel
theorem dX0_squareByPairs_33 : decode cX0_squareByPairs 33 = .ok (.if_icmp .ge 27, 3) := by decide +kernel
theorem dX0_squareByPairs_36 : decode cX0_squareByPairs 36 = .ok (.iload_n 1, 1) := by decide +kernel
theorem dX0_squareByPairs_37 : decode cX0_squareByPairs 37 = .ok (.iconst 2, 1) := by decide +kernel
theorem dX0_squareByPairs_38 : decode cX0_squareByPairs 38 = .ok (.aload_n 0, 1) := by decide +kernel
theorem dX0_squareByPairs_39 : decode cX0_squareByPairs 39 = .ok (.getfield 41, 3) := by decide +kernel
theorem dX0_squareByPairs_42 : decode cX0_squareByPairs 42 = .ok (.iload_n 2, 1) := by decide +kernel
theorem dX0_squareByPairs_43 : decode cX0_squareByPairs 43 = .ok (.iaload, 1) := by decide +kernel
theorem dX0_squareByPairs_44 : decode cX0_squareByPairs 44 = .ok (.imul, 1) := by decide +kernel
theorem dX0_squareByPairs_45 : decode cX0_squareByPairs 45 = .ok (.aload_n 0, 1) := by decide +kernel
theorem dX0_squareByPairs_46 : decode cX0_squareByPairs 46 = .ok (.getfield 41, 3) := by decide +kernel
theorem dX0_squareByPairs_49 : decode cX0_squareByPairs 49 = .ok (.iload_n 3, 1) := by decide +kernel
theorem dX0_squareByPairs_50 : decode cX0_squareByPairs 50 = .ok (.iaload, 1) := by decide +kernel
theorem dX0_squareByPairs_51 : decode cX0_squareByPairs 51 = .ok (.imul, 1) := by decide +kernel
theorem dX0_squareByPairs_52 : decode cX0_squareByPairs 52 = .ok (.iadd, 1) := by decide +kernel
theorem dX0_squareByPairs_53 : decode cX0_squareByPairs 53 = .ok (.istore_n 1, 1) := by decide +kernel
theorem dX0_squareByPairs_54 : decode cX0_squareByPairs 54 = .ok (.iinc 3 1, 3) := by decide +kernel
theorem dX0_squareByPairs_57 : decode cX0_squareByPairs 57 = .ok (.goto (-27), 3) := by decide +kernel
theorem dX0_squareByPairs_60 : decode cX0_squareByPairs 60 = .ok (.iinc 2 1, 3) := by decide +kernel
theorem dX0_squareByPairs_63 : decode cX0_squareByPairs 63 = .ok (.goto (-59), 3) := by decide +kernel
theorem dX0_squareByPairs_66 : decode cX0_squareByPairs 66 = .ok (.iload_n 1, 1) := by decide +kernel
theorem dX0_squareByPairs_67 : decode cX0_squareByPairs 67 = .ok (.ireturn, 1) := by decide +kernel
theorem dX0_withinPot_0 : decode cX0_withinPot 0 = .ok (.iload_n 1, 1) := by decide +kernel
theorem dX0_withinPot_1 : decode cX0_withinPot 1 = .ok (.iconst 0, 1) := by decide +kernel
theorem dX0_withinPot_2 : decode cX0_withinPot 2 = .ok (.invokestatic 177, 3) := by decide +kernel
theorem dX0_withinPot_5 : decode cX0_withinPot 5 = .ok (.aload_n 0, 1) := by decide +kernel
theorem dX0_withinPot_6 : decode cX0_withinPot 6 = .ok (.getfield 71, 3) := by decide +kernel
theorem dX0_withinPot_9 : decode cX0_withinPot 9 = .ok (.invokestatic 183, 3) := by decide +kernel
theorem dX0_withinPot_12 : decode cX0_withinPot 12 = .ok (.ireturn, 1) := by decide +kernel
theorem dJ9_max_7cf53_0 : decode cJ9_max_7cf53 0 = .ok (.iload_n 0, 1) := by decide +kernel
theorem dJ9_max_7cf53_1 : decode cJ9_max_7cf53 1 = .ok (.iload_n 1, 1) := by decide +kernel
theorem dJ9_max_7cf53_2 : decode cJ9_max_7cf53 2 = .ok (.if_icmp .lt 7, 3) := by decide +kernel
theorem dJ9_max_7cf53_5 : decode cJ9_max_7cf53 5 = .ok (.iload_n 0, 1) := by decide +kernel
theorem dJ9_max_7cf53_6 : decode cJ9_max_7cf53 6 = .ok (.goto 4, 3) := by decide +kernel
theorem dJ9_max_7cf53_9 : decode cJ9_max_7cf53 9 = .ok (.iload_n 1, 1) := by decide +kernel
theorem dJ9_max_7cf53_10 : decode cJ9_max_7cf53 10 = .ok (.ireturn, 1) := by decide +kernel
theorem dJ9_min_7cf53_0 : decode cJ9_min_7cf53 0 = .ok (.iload_n 0, 1) := by decide +kernel
theorem dJ9_min_7cf53_1 : decode cJ9_min_7cf53 1 = .ok (.iload_n 1, 1) := by decide +kernel
theorem dJ9_min_7cf53_2 : decode cJ9_min_7cf53 2 = .ok (.if_icmp .gt 7, 3) := by decide +kernel
theorem dJ9_min_7cf53_5 : decode cJ9_min_7cf53 5 = .ok (.iload_n 0, 1) := by decide +kernel
theorem dJ9_min_7cf53_6 : decode cJ9_min_7cf53 6 = .ok (.goto 4, 3) := by decide +kernel
theorem dJ9_min_7cf53_9 : decode cJ9_min_7cf53 9 = .ok (.iload_n 1, 1) := by decide +kernel
theorem dJ9_min_7cf53_10 : decode cJ9_min_7cf53 10 = .ok (.ireturn, 1) := by decide +kernel
