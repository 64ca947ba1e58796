theorem dX1_init_0 : decode cX1_init 0 = .ok (.aload_n 0, 1) := by decide +kernel
theorem dX1_init_1 : decode cX1_init 1 = .ok (.invokespecial 1, 3) := by decide +kernel
theorem dX1_init_4 : decode cX1_init 4 = .ok (.aload_n 0, 1) := by decide +kernel
theorem dX1_init_5 : decode cX1_init 5 = .ok (.bipush 8, 2) := by decide +kernel
theorem dX1_init_7 : decode cX1_init 7 = .ok (.newarray .int, 2) := by decide +kernel
theorem dX1_init_9 : decode cX1_init 9 = .ok (.putfield 7, 3) := by decide +kernel
theorem dX1_init_12 : decode cX1_init 12 = .ok (.aload_n 0, 1) := by decide +kernel
theorem dX1_init_13 : decode cX1_init 13 = .ok (.bipush 8, 2) := by decide +kernel
theorem dX1_init_15 : decode cX1_init 15 = .ok (.newarray .int, 2) := by decide +kernel
theorem dX1_init_17 : decode cX1_init 17 = .ok (.putfield 13, 3) := by decide +kernel
theorem dX1_init_20 : decode cX1_init 20 = .ok (.aload_n 0, 1) := by decide +kernel
theorem dX1_init_21 : decode cX1_init 21 = .ok (.bipush 8, 2) := by decide +kernel
theorem dX1_init_23 : decode cX1_init 23 = .ok (.newarray .int, 2) := by decide +kernel
theorem dX1_init_25 : decode cX1_init 25 = .ok (.putfield 16, 3) := by decide +kernel
theorem dX1_init_28 : decode cX1_init 28 = .ok (.aload_n 0, 1) := by decide +kernel
theorem dX1_init_29 : decode cX1_init 29 = .ok (.bipush 8, 2) := by decide +kernel
theorem dX1_init_31 : decode cX1_init 31 = .ok (.newarray .int, 2) := by decide +kernel
theorem dX1_init_33 : decode cX1_init 33 = .ok (.putfield 19, 3) := by decide +kernel
theorem dX1_init_36 : decode cX1_init 36 = .ok (.aload_n 0, 1) := by decide +kernel
theorem dX1_init_37 : decode cX1_init 37 = .ok (.bipush 6, 2) := by decide +kernel
theorem dX1_init_39 : decode cX1_init 39 = .ok (.newarray .int, 2) := by decide +kernel
theorem dX1_init_41 : decode cX1_init 41 = .ok (.putfield 22, 3) := by decide +kernel
theorem dX1_init_44 : decode cX1_init 44 = .ok (.aload_n 0, 1) := by decide +kernel
theorem dX1_init_45 : decode cX1_init 45 = .ok (.bipush 6, 2) := by decide +kernel
theorem dX1_init_47 : decode cX1_init 47 = .ok (.newarray .boolean, 2) := by decide +kernel
theorem dX1_init_49 : decode cX1_init 49 = .ok (.putfield 25, 3) := by decide +kernel
theorem dX1_init_52 : decode cX1_init 52 = .ok (.aload_n 0, 1) := by decide +kernel
theorem dX1_init_53 : decode cX1_init 53 = .ok (.bipush 8, 2) := by decide +kernel
theorem dX1_init_55 : decode cX1_init 55 = .ok (.newarray .int, 2) := by decide +kernel
theorem dX1_init_57 : decode cX1_init 57 = .ok (.putfield 29, 3) := by decide +kernel
theorem dX1_init_60 : decode cX1_init 60 = .ok (.iconst 0, 1) := by decide +kernel
theorem dX1_init_61 : decode cX1_init 61 = .ok (.istore_n 1, 1) := by decide +kernel
theorem dX1_init_62 : decode cX1_init 62 = .ok (.iload_n 1, 1) := by decide +kernel
theorem dX1_init_63 : decode cX1_init 63 = .ok (.bipush 8, 2) := by decide +kernel
theorem dX1_init_65 : decode cX1_init 65 = .ok (.if_icmp .ge 23, 3) := by decide +kernel
theorem dX1_init_68 : decode cX1_init 68 = .ok (.aload_n 0, 1) := by decide +kernel
theorem dX1_init_69 : decode cX1_init 69 = .ok (.getfield 13, 3) := by decide +kernel
theorem dX1_init_72 : decode cX1_init 72 = .ok (.iload_n 1, 1) := by decide +kernel
theorem dX1_init_73 : decode cX1_init 73 = .ok (.iconst (-1), 1) := by decide +kernel
theorem dX1_init_74 : decode cX1_init 74 = .ok (.iastore, 1) := by decide +kernel
theorem dX1_init_75 : decode cX1_init 75 = .ok (.aload_n 0, 1) := by decide +kernel
theorem dX1_init_76 : decode cX1_init 76 = .ok (.getfield 16, 3) := by decide +kernel
theorem dX1_init_79 : decode cX1_init 79 = .ok (.iload_n 1, 1) := by decide +kernel
theorem dX1_init_80 : decode cX1_init 80 = .ok (.iload_n 1, 1) := by decide +kernel
theorem dX1_init_81 : decode cX1_init 81 = .ok (.iastore, 1) := by decide +kernel
theorem dX1_init_82 : decode cX1_init 82 = .ok (.iinc 1 1, 3) := by decide +kernel
theorem dX1_init_85 : decode cX1_init 85 = .ok (.goto (-23), 3) := by decide +kernel
theorem dX1_init_88 : decode cX1_init 88 = .ok (.return_, 1) := by decide +kernel
theorem dX1_thrown_0 : decode cX1_thrown 0 = .ok (.aload_n 0, 1) := by decide +kernel
theorem dX1_thrown_1 : decode cX1_thrown 1 = .ok (.getfield 32, 3) := by decide +kernel
theorem dX1_thrown_4 : decode cX1_thrown 4 = .ok (.ireturn, 1) := by decide +kernel
theorem dX1_goes_0 : decode cX1_goes 0 = .ok (.aload_n 0, 1) := by decide +kernel
theorem dX1_goes_1 : decode cX1_goes 1 = .ok (.iload_n 1, 1) := by decide +kernel
theorem dX1_goes_2 : decode cX1_goes 2 = .ok (.putfield 32, 3) := by decide +kernel
theorem dX1_goes_5 : decode cX1_goes 5 = .ok (.iload_n 1, 1) := by decide +kernel
theorem dX1_goes_6 : decode cX1_goes 6 = .ok (.ifCond .ne 7, 3) := by decide +kernel
theorem dX1_goes_9 : decode cX1_goes 9 = .ok (.iconst 1, 1) := by decide +kernel
theorem dX1_goes_10 : decode cX1_goes 10 = .ok (.goto 4, 3) := by decide +kernel
theorem dX1_goes_13 : decode cX1_goes 13 = .ok (.iconst 0, 1) := by decide +kernel
theorem dX1_goes_14 : decode cX1_goes 14 = .ok (.ireturn, 1) := by decide +kernel
theorem dX1_isIn_0 : decode cX1_isIn 0 = .ok (.iload_n 0, 1) := by decide +kernel
theorem dX1_isIn_1 : decode cX1_isIn 1 = .ok (.iload_n 1, 1) := by decide +kernel
theorem dX1_isIn_2 : decode cX1_isIn 2 = .ok (.if_icmp .lt 12, 3) := by decide +kernel
theorem dX1_isIn_5 : decode cX1_isIn 5 = .ok (.iload_n 0, 1) := by decide +kernel
theorem dX1_isIn_6 : decode cX1_isIn 6 = .ok (.iload_n 2, 1) := by decide +kernel
theorem dX1_isIn_7 : decode cX1_isIn 7 = .ok (.if_icmp .gt 7, 3) := by decide +kernel
theorem dX1_isIn_10 : decode cX1_isIn 10 = .ok (.iconst 1, 1) := by decide +kernel
theorem dX1_isIn_11 : decode cX1_isIn 11 = .ok (.goto 4, 3) := by decide +kernel
theorem dX1_isIn_14 : decode cX1_isIn 14 = .ok (.iconst 0, 1) := by decide +kernel
theorem dX1_isIn_15 : decode cX1_isIn 15 = .ok (.ireturn, 1) := by decide +kernel
set_option maxRecDepth 20000 in
theorem ggX1_isGiver_X1_isIn : GoodIn wsX1_isGiver wsX1_isIn := goodIn_r _ [4] (by decide +kernel) (by decide +kernel)
set_option maxRecDepth 20000 in
theorem gX1_isGiver_X1_isIn : GoodIn wsX1_isGiver (va_wsS RX1 36 yX1_isIn wsX1_isIn) := goodIn_app (goodIn_of _ (by decide +kernel)) ggX1_isGiver_X1_isIn
theorem dX1_isGiver_0 : decode cX1_isGiver 0 = .ok (.iload_n 0, 1) := by decide +kernel
theorem dX1_isGiver_1 : decode cX1_isGiver 1 = .ok (.iconst 0, 1) := by decide +kernel
theorem dX1_isGiver_2 : decode cX1_isGiver 2 = .ok (.bipush 7, 2) := by decide +kernel
theorem dX1_isGiver_4 : decode cX1_isGiver 4 = .ok (.invokestatic 36, 3) := by decide +kernel
theorem dX1_isGiver_7 : decode cX1_isGiver 7 = .ok (.ireturn, 1) := by decide +kernel
set_option maxRecDepth 20000 in
theorem ggX1_give_X1_isIn : GoodIn wsX1_give wsX1_isIn := goodIn_r _ [6] (by decide +kernel) (by decide +kernel)
set_option maxRecDepth 20000 in
theorem gX1_give_X1_isIn : GoodIn wsX1_give (va_wsS RX1 36 yX1_isIn wsX1_isIn) := goodIn_app (goodIn_of _ (by decide +kernel)) ggX1_give_X1_isIn
set_option maxRecDepth 20000 in
theorem ggX1_give_X1_isGiver : GoodIn wsX1_give wsX1_isGiver := goodIn_r _ [9, 3, 4, 5, 6] (by decide +kernel) (by decide +kernel)
set_option maxRecDepth 20000 in
theorem gX1_give_X1_isGiver : GoodIn wsX1_give (va_wsS RX1 40 yX1_isGiver wsX1_isGiver) := goodIn_app (goodIn_of _ (by decide +kernel)) ggX1_give_X1_isGiver
set_option maxRecDepth 20000 in
theorem ggX1_give_X1_goes : GoodIn wsX1_give wsX1_goes := goodIn_r _ [13, 14, 15, 16, 17, 18, 19, 20, 21, 22, 23, 24, 25, 26] (by decide +kernel) (by decide +kernel)
set_option maxRecDepth 20000 in
theorem gX1_give_X1_goes : GoodIn wsX1_give (wsV RX1 45 RX1 yX1_goes wsX1_goes) := goodIn_app (goodIn_of _ (by decide +kernel)) ggX1_give_X1_goes
theorem dX1_give_0 : decode cX1_give 0 = .ok (.iload_n 2, 1) := by decide +kernel
theorem dX1_give_1 : decode cX1_give 1 = .ok (.iconst 1, 1) := by decide +kernel
theorem dX1_give_2 : decode cX1_give 2 = .ok (.sipush 10000, 3) := by decide +kernel
theorem dX1_give_5 : decode cX1_give 5 = .ok (.invokestatic 36, 3) := by decide +kernel
theorem dX1_give_8 : decode cX1_give 8 = .ok (.istore_n 3, 1) := by decide +kernel
theorem dX1_give_9 : decode cX1_give 9 = .ok (.aload_n 0, 1) := by decide +kernel
theorem dX1_give_10 : decode cX1_give 10 = .ok (.iload_n 1, 1) := by decide +kernel
theorem dX1_give_11 : decode cX1_give 11 = .ok (.invokestatic 40, 3) := by decide +kernel
theorem dX1_give_14 : decode cX1_give 14 = .ok (.ifCond .ne 7, 3) := by decide +kernel
theorem dX1_give_17 : decode cX1_give 17 = .ok (.iconst 1, 1) := by decide +kernel
theorem dX1_give_18 : decode cX1_give 18 = .ok (.goto 29, 3) := by decide +kernel
theorem dX1_give_21 : decode cX1_give 21 = .ok (.iload_n 3, 1) := by decide +kernel
theorem dX1_give_22 : decode cX1_give 22 = .ok (.ifCond .ne 7, 3) := by decide +kernel
theorem dX1_give_25 : decode cX1_give 25 = .ok (.iconst 2, 1) := by decide +kernel
theorem dX1_give_26 : decode cX1_give 26 = .ok (.goto 21, 3) := by decide +kernel
theorem dX1_give_29 : decode cX1_give 29 = .ok (.aload_n 0, 1) := by decide +kernel
theorem dX1_give_30 : decode cX1_give 30 = .ok (.getfield 7, 3) := by decide +kernel
theorem dX1_give_33 : decode cX1_give 33 = .ok (.iload_n 1, 1) := by decide +kernel
theorem dX1_give_34 : decode cX1_give 34 = .ok (.iaload, 1) := by decide +kernel
theorem dX1_give_35 : decode cX1_give 35 = .ok (.iload_n 2, 1) := by decide +kernel
theorem dX1_give_36 : decode cX1_give 36 = .ok (.iadd, 1) := by decide +kernel
theorem dX1_give_37 : decode cX1_give 37 = .ok (.ldc 44, 2) := by decide +kernel
theorem dX1_give_39 : decode cX1_give 39 = .ok (.if_icmp .le 7, 3) := by decide +kernel
theorem dX1_give_42 : decode cX1_give 42 = .ok (.iconst 3, 1) := by decide +kernel
theorem dX1_give_43 : decode cX1_give 43 = .ok (.goto 4, 3) := by decide +kernel
theorem dX1_give_46 : decode cX1_give 46 = .ok (.iconst 0, 1) := by decide +kernel
theorem dX1_give_47 : decode cX1_give 47 = .ok (.invokevirtual 45, 3) := by decide +kernel
theorem dX1_give_50 : decode cX1_give 50 = .ok (.ifCond .ne 5, 3) := by decide +kernel
theorem dX1_give_53 : decode cX1_give 53 = .ok (.iconst 0, 1) := by decide +kernel
theorem dX1_give_54 : decode cX1_give 54 = .ok (.ireturn, 1) := by decide +kernel
theorem dX1_give_55 : decode cX1_give 55 = .ok (.aload_n 0, 1) := by decide +kernel
theorem dX1_give_56 : decode cX1_give 56 = .ok (.getfield 7, 3) := by decide +kernel
theorem dX1_give_59 : decode cX1_give 59 = .ok (.iload_n 1, 1) := by decide +kernel
theorem dX1_give_60 : decode cX1_give 60 = .ok (.dup2, 1) := by decide +kernel
theorem dX1_give_61 : decode cX1_give 61 = .ok (.iaload, 1) := by decide +kernel
theorem dX1_give_62 : decode cX1_give 62 = .ok (.iload_n 2, 1) := by decide +kernel
theorem dX1_give_63 : decode cX1_give 63 = .ok (.iadd, 1) := by decide +kernel
theorem dX1_give_64 : decode cX1_give 64 = .ok (.iastore, 1) := by decide +kernel
theorem dX1_give_65 : decode cX1_give 65 = .ok (.aload_n 0, 1) := by decide +kernel
theorem dX1_give_66 : decode cX1_give 66 = .ok (.getfield 7, 3) := by decide +kernel
theorem dX1_give_69 : decode cX1_give 69 = .ok (.iload_n 1, 1) := by decide +kernel
theorem dX1_give_70 : decode cX1_give 70 = .ok (.iaload, 1) := by decide +kernel
theorem dX1_give_71 : decode cX1_give 71 = .ok (.ireturn, 1) := by decide +kernel
set_option maxRecDepth 20000 in
theorem ggX1_leave_X1_isGiver : GoodIn wsX1_leave wsX1_isGiver := goodIn_r _ [6, 7, 8, 5, 9] (by decide +kernel) (by decide +kernel)
set_option maxRecDepth 20000 in
theorem gX1_leave_X1_isGiver : GoodIn wsX1_leave (va_wsS RX1 40 yX1_isGiver wsX1_isGiver) := goodIn_app (goodIn_of _ (by decide +kernel)) ggX1_leave_X1_isGiver
set_option maxRecDepth 20000 in
theorem ggX1_leave_X1_goes : GoodIn wsX1_leave wsX1_goes := goodIn_r _ [13, 14, 15, 16, 17, 18, 19, 20, 21, 22, 23, 24, 25, 26] (by decide +kernel) (by decide +kernel)
set_option maxRecDepth 20000 in
theorem gX1_leave_X1_goes : GoodIn wsX1_leave (wsV RX1 45 RX1 yX1_goes wsX1_goes) := goodIn_app (goodIn_of _ (by decide +kernel)) ggX1_leave_X1_goes
theorem dX1_leave_0 : decode cX1_leave 0 = .ok (.aload_n 0, 1) := by decide +kernel
theorem dX1_leave_1 : decode cX1_leave 1 = .ok (.iload_n 1, 1) := by decide +kernel
theorem dX1_leave_2 : decode cX1_leave 2 = .ok (.invokestatic 40, 3) := by decide +kernel
theorem dX1_leave_5 : decode cX1_leave 5 = .ok (.ifCond .eq 7, 3) := by decide +kernel
theorem dX1_leave_8 : decode cX1_leave 8 = .ok (.iconst 0, 1) := by decide +kernel
theorem dX1_leave_9 : decode cX1_leave 9 = .ok (.goto 4, 3) := by decide +kernel
theorem dX1_leave_12 : decode cX1_leave 12 = .ok (.iconst 1, 1) := by decide +kernel
theorem dX1_leave_13 : decode cX1_leave 13 = .ok (.invokevirtual 45, 3) := by decide +kernel
theorem dX1_leave_16 : decode cX1_leave 16 = .ok (.ifCond .ne 5, 3) := by decide +kernel
theorem dX1_leave_19 : decode cX1_leave 19 = .ok (.iconst 0, 1) := by decide +kernel
theorem dX1_leave_20 : decode cX1_leave 20 = .ok (.ireturn, 1) := by decide +kernel
theorem dX1_leave_21 : decode cX1_leave 21 = .ok (.aload_n 0, 1) := by decide +kernel
theorem dX1_leave_22 : decode cX1_leave 22 = .ok (.getfield 7, 3) := by decide +kernel
theorem dX1_leave_25 : decode cX1_leave 25 = .ok (.iload_n 1, 1) := by decide +kernel
theorem dX1_leave_26 : decode cX1_leave 26 = .ok (.iaload, 1) := by decide +kernel
theorem dX1_leave_27 : decode cX1_leave 27 = .ok (.istore_n 2, 1) := by decide +kernel
theorem dX1_leave_28 : decode cX1_leave 28 = .ok (.aload_n 0, 1) := by decide +kernel
theorem dX1_leave_29 : decode cX1_leave 29 = .ok (.getfield 7, 3) := by decide +kernel
theorem dX1_leave_32 : decode cX1_leave 32 = .ok (.iload_n 1, 1) := by decide +kernel
theorem dX1_leave_33 : decode cX1_leave 33 = .ok (.iconst 0, 1) := by decide +kernel
theorem dX1_leave_34 : decode cX1_leave 34 = .ok (.iastore, 1) := by decide +kernel
theorem dX1_leave_35 : decode cX1_leave 35 = .ok (.aload_n 0, 1) := by decide +kernel
theorem dX1_leave_36 : decode cX1_leave 36 = .ok (.getfield 19, 3) := by decide +kernel
theorem dX1_leave_39 : decode cX1_leave 39 = .ok (.iload_n 1, 1) := by decide +kernel
theorem dX1_leave_40 : decode cX1_leave 40 = .ok (.iconst 0, 1) := by decide +kernel
theorem dX1_leave_41 : decode cX1_leave 41 = .ok (.iastore, 1) := by decide +kernel
theorem dX1_leave_42 : decode cX1_leave 42 = .ok (.iload_n 2, 1) := by decide +kernel
theorem dX1_leave_43 : decode cX1_leave 43 = .ok (.ireturn, 1) := by decide +kernel
theorem dX1_isInRow_0 : decode cX1_isInRow 0 = .ok (.iconst 0, 1) := by decide +kernel
theorem dX1_isInRow_1 : decode cX1_isInRow 1 = .ok (.istore_n 3, 1) := by decide +kernel
theorem dX1_isInRow_2 : decode cX1_isInRow 2 = .ok (.iload_n 2, 1) := by decide +kernel
theorem dX1_isInRow_3 : decode cX1_isInRow 3 = .ok (.istore 4, 2) := by decide +kernel
theorem dX1_isInRow_5 : decode cX1_isInRow 5 = .ok (.iload 4, 2) := by decide +kernel
theorem dX1_isInRow_7 : decode cX1_isInRow 7 = .ok (.iconst (-1), 1) := by decide +kernel
theorem dX1_isInRow_8 : decode cX1_isInRow 8 = .ok (.if_icmp .eq 31, 3) := by decide +kernel
theorem dX1_isInRow_11 : decode cX1_isInRow 11 = .ok (.iload_n 3, 1) := by decide +kernel
theorem dX1_isInRow_12 : decode cX1_isInRow 12 = .ok (.ifCond .ne 9, 3) := by decide +kernel
theorem dX1_isInRow_15 : decode cX1_isInRow 15 = .ok (.iload 4, 2) := by decide +kernel
theorem dX1_isInRow_17 : decode cX1_isInRow 17 = .ok (.iload_n 1, 1) := by decide +kernel
theorem dX1_isInRow_18 : decode cX1_isInRow 18 = .ok (.if_icmp .ne 7, 3) := by decide +kernel
theorem dX1_isInRow_21 : decode cX1_isInRow 21 = .ok (.iconst 1, 1) := by decide +kernel
theorem dX1_isInRow_22 : decode cX1_isInRow 22 = .ok (.goto 4, 3) := by decide +kernel
theorem dX1_isInRow_25 : decode cX1_isInRow 25 = .ok (.iconst 0, 1) := by decide +kernel
theorem dX1_isInRow_26 : decode cX1_isInRow 26 = .ok (.istore_n 3, 1) := by decide +kernel
theorem dX1_isInRow_27 : decode cX1_isInRow 27 = .ok (.aload_n 0, 1) := by decide +kernel
theorem dX1_isInRow_28 : decode cX1_isInRow 28 = .ok (.getfield 13, 3) := by decide +kernel
theorem dX1_isInRow_31 : decode cX1_isInRow 31 = .ok (.iload 4, 2) := by decide +kernel
theorem dX1_isInRow_33 : decode cX1_isInRow 33 = .ok (.iaload, 1) := by decide +kernel
theorem dX1_isInRow_34 : decode cX1_isInRow 34 = .ok (.istore 4, 2) := by decide +kernel
theorem dX1_isInRow_36 : decode cX1_isInRow 36 = .ok (.goto (-31), 3) := by decide +kernel
theorem dX1_isInRow_39 : decode cX1_isInRow 39 = .ok (.iload_n 3, 1) := by decide +kernel
theorem dX1_isInRow_40 : decode cX1_isInRow 40 = .ok (.ireturn, 1) := by decide +kernel
set_option maxRecDepth 20000 in
theorem ggX1_trust_X1_isGiver : GoodIn wsX1_trust wsX1_isGiver := goodIn_r _ [5, 6, 7, 4, 8] (by decide +kernel) (by decide +kernel)
set_option maxRecDepth 20000 in
theorem gX1_trust_X1_isGiver : GoodIn wsX1_trust (va_wsS RX1 40 yX1_isGiver wsX1_isGiver) := goodIn_app (goodIn_of _ (by decide +kernel)) ggX1_trust_X1_isGiver
set_option maxRecDepth 20000 in
theorem ggX1_trust_X1_isInRow : GoodIn wsX1_trust wsX1_isInRow := goodIn_r _ [12, 1, 18, 19, 20, 21, 22, 23, 24, 25, 26, 27, 28, 29] (by decide +kernel) (by decide +kernel)
set_option maxRecDepth 20000 in
theorem gX1_trust_X1_isInRow : GoodIn wsX1_trust (wsV RX1 48 RX1 yX1_isInRow wsX1_isInRow) := goodIn_app (goodIn_of _ (by decide +kernel)) ggX1_trust_X1_isInRow
set_option maxRecDepth 20000 in
theorem ggX1_trust_X1_goes : GoodIn wsX1_trust wsX1_goes := goodIn_r _ [16, 17, 18, 19, 20, 21, 22, 23, 24, 25, 26, 27, 28, 29] (by decide +kernel) (by decide +kernel)
set_option maxRecDepth 20000 in
theorem gX1_trust_X1_goes : GoodIn wsX1_trust (wsV RX1 45 RX1 yX1_goes wsX1_goes) := goodIn_app (goodIn_of _ (by decide +kernel)) ggX1_trust_X1_goes
theorem dX1_trust_0 : decode cX1_trust 0 = .ok (.iload_n 1, 1) := by decide +kernel
theorem dX1_trust_1 : decode cX1_trust 1 = .ok (.invokestatic 40, 3) := by decide +kernel
theorem dX1_trust_4 : decode cX1_trust 4 = .ok (.ifCond .eq 19, 3) := by decide +kernel
theorem dX1_trust_7 : decode cX1_trust 7 = .ok (.iload_n 2, 1) := by decide +kernel
theorem dX1_trust_8 : decode cX1_trust 8 = .ok (.iconst (-1), 1) := by decide +kernel
theorem dX1_trust_9 : decode cX1_trust 9 = .ok (.if_icmp .eq 10, 3) := by decide +kernel
theorem dX1_trust_12 : decode cX1_trust 12 = .ok (.iload_n 2, 1) := by decide +kernel
theorem dX1_trust_13 : decode cX1_trust 13 = .ok (.invokestatic 40, 3) := by decide +kernel
theorem dX1_trust_16 : decode cX1_trust 16 = .ok (.ifCond .eq 7, 3) := by decide +kernel
theorem dX1_trust_19 : decode cX1_trust 19 = .ok (.iconst 1, 1) := by decide +kernel
theorem dX1_trust_20 : decode cX1_trust 20 = .ok (.goto 4, 3) := by decide +kernel
theorem dX1_trust_23 : decode cX1_trust 23 = .ok (.iconst 0, 1) := by decide +kernel
theorem dX1_trust_24 : decode cX1_trust 24 = .ok (.istore_n 3, 1) := by decide +kernel
theorem dX1_trust_25 : decode cX1_trust 25 = .ok (.aload_n 0, 1) := by decide +kernel
theorem dX1_trust_26 : decode cX1_trust 26 = .ok (.iload_n 3, 1) := by decide +kernel
theorem dX1_trust_27 : decode cX1_trust 27 = .ok (.ifCond .ne 7, 3) := by decide +kernel
theorem dX1_trust_30 : decode cX1_trust 30 = .ok (.iconst 1, 1) := by decide +kernel
theorem dX1_trust_31 : decode cX1_trust 31 = .ok (.goto 17, 3) := by decide +kernel
theorem dX1_trust_34 : decode cX1_trust 34 = .ok (.aload_n 0, 1) := by decide +kernel
theorem dX1_trust_35 : decode cX1_trust 35 = .ok (.iload_n 1, 1) := by decide +kernel
theorem dX1_trust_36 : decode cX1_trust 36 = .ok (.iload_n 2, 1) := by decide +kernel
theorem dX1_trust_37 : decode cX1_trust 37 = .ok (.invokevirtual 48, 3) := by decide +kernel
theorem dX1_trust_40 : decode cX1_trust 40 = .ok (.ifCond .eq 7, 3) := by decide +kernel
theorem dX1_trust_43 : decode cX1_trust 43 = .ok (.iconst 2, 1) := by decide +kernel
theorem dX1_trust_44 : decode cX1_trust 44 = .ok (.goto 4, 3) := by decide +kernel
theorem dX1_trust_47 : decode cX1_trust 47 = .ok (.iconst 0, 1) := by decide +kernel
theorem dX1_trust_48 : decode cX1_trust 48 = .ok (.invokevirtual 45, 3) := by decide +kernel
theorem dX1_trust_51 : decode cX1_trust 51 = .ok (.ifCond .ne 5, 3) := by decide +kernel
theorem dX1_trust_54 : decode cX1_trust 54 = .ok (.iconst 0, 1) := by decide +kernel
theorem dX1_trust_55 : decode cX1_trust 55 = .ok (.ireturn, 1) := by decide +kernel
theorem dX1_trust_56 : decode cX1_trust 56 = .ok (.aload_n 0, 1) := by decide +kernel
theorem dX1_trust_57 : decode cX1_trust 57 = .ok (.getfield 13, 3) := by decide +kernel
theorem dX1_trust_60 : decode cX1_trust 60 = .ok (.iload_n 1, 1) := by decide +kernel
theorem dX1_trust_61 : decode cX1_trust 61 = .ok (.iaload, 1) := by decide +kernel
theorem dX1_trust_62 : decode cX1_trust 62 = .ok (.istore 4, 2) := by decide +kernel
theorem dX1_trust_64 : decode cX1_trust 64 = .ok (.aload_n 0, 1) := by decide +kernel
theorem dX1_trust_65 : decode cX1_trust 65 = .ok (.getfield 13, 3) := by decide +kernel
theorem dX1_trust_68 : decode cX1_trust 68 = .ok (.iload_n 1, 1) := by decide +kernel
theorem dX1_trust_69 : decode cX1_trust 69 = .ok (.iload_n 2, 1) := by decide +kernel
theorem dX1_trust_70 : decode cX1_trust 70 = .ok (.iastore, 1) := by decide +kernel
theorem dX1_trust_71 : decode cX1_trust 71 = .ok (.iload 4, 2) := by decide +kernel
theorem dX1_trust_73 : decode cX1_trust 73 = .ok (.ireturn, 1) := by decide +kernel
set_option maxRecDepth 20000 in
theorem ggX1_setPerson_X1_isGiver : GoodIn wsX1_setPerson wsX1_isGiver := goodIn_r _ [5, 6, 7, 4, 8] (by decide +kernel) (by decide +kernel)
set_option maxRecDepth 20000 in
theorem gX1_setPerson_X1_isGiver : GoodIn wsX1_setPerson (va_wsS RX1 40 yX1_isGiver wsX1_isGiver) := goodIn_app (goodIn_of _ (by decide +kernel)) ggX1_setPerson_X1_isGiver
set_option maxRecDepth 20000 in
theorem ggX1_setPerson_X1_goes : GoodIn wsX1_setPerson wsX1_goes := goodIn_r _ [12, 13, 14, 15, 16, 17, 18, 19, 20, 21, 22, 23, 24, 25] (by decide +kernel) (by decide +kernel)
set_option maxRecDepth 20000 in
theorem gX1_setPerson_X1_goes : GoodIn wsX1_setPerson (wsV RX1 45 RX1 yX1_goes wsX1_goes) := goodIn_app (goodIn_of _ (by decide +kernel)) ggX1_setPerson_X1_goes
theorem dX1_setPerson_0 : decode cX1_setPerson 0 = .ok (.aload_n 0, 1) := by decide +kernel
theorem dX1_setPerson_1 : decode cX1_setPerson 1 = .ok (.iload_n 1, 1) := by decide +kernel
theorem dX1_setPerson_2 : decode cX1_setPerson 2 = .ok (.invokestatic 40, 3) := by decide +kernel
theorem dX1_setPerson_5 : decode cX1_setPerson 5 = .ok (.ifCond .eq 14, 3) := by decide +kernel
theorem dX1_setPerson_8 : decode cX1_setPerson 8 = .ok (.iload_n 2, 1) := by decide +kernel
theorem dX1_setPerson_9 : decode cX1_setPerson 9 = .ok (.invokestatic 40, 3) := by decide +kernel
theorem dX1_setPerson_12 : decode cX1_setPerson 12 = .ok (.ifCond .eq 7, 3) := by decide +kernel
theorem dX1_setPerson_15 : decode cX1_setPerson 15 = .ok (.iconst 0, 1) := by decide +kernel
theorem dX1_setPerson_16 : decode cX1_setPerson 16 = .ok (.goto 4, 3) := by decide +kernel
theorem dX1_setPerson_19 : decode cX1_setPerson 19 = .ok (.iconst 1, 1) := by decide +kernel
theorem dX1_setPerson_20 : decode cX1_setPerson 20 = .ok (.invokevirtual 45, 3) := by decide +kernel
theorem dX1_setPerson_23 : decode cX1_setPerson 23 = .ok (.ifCond .ne 5, 3) := by decide +kernel
theorem dX1_setPerson_26 : decode cX1_setPerson 26 = .ok (.iconst 0, 1) := by decide +kernel
theorem dX1_setPerson_27 : decode cX1_setPerson 27 = .ok (.ireturn, 1) := by decide +kernel
theorem dX1_setPerson_28 : decode cX1_setPerson 28 = .ok (.aload_n 0, 1) := by decide +kernel
theorem dX1_setPerson_29 : decode cX1_setPerson 29 = .ok (.getfield 16, 3) := by decide +kernel
theorem dX1_setPerson_32 : decode cX1_setPerson 32 = .ok (.iload_n 1, 1) := by decide +kernel
theorem dX1_setPerson_33 : decode cX1_setPerson 33 = .ok (.iaload, 1) := by decide +kernel
theorem dX1_setPerson_34 : decode cX1_setPerson 34 = .ok (.istore_n 3, 1) := by decide +kernel
theorem dX1_setPerson_35 : decode cX1_setPerson 35 = .ok (.aload_n 0, 1) := by decide +kernel
theorem dX1_setPerson_36 : decode cX1_setPerson 36 = .ok (.getfield 16, 3) := by decide +kernel
theorem dX1_setPerson_39 : decode cX1_setPerson 39 = .ok (.iload_n 1, 1) := by decide +kernel
theorem dX1_setPerson_40 : decode cX1_setPerson 40 = .ok (.iload_n 2, 1) := by decide +kernel
theorem dX1_setPerson_41 : decode cX1_setPerson 41 = .ok (.iastore, 1) := by decide +kernel
theorem dX1_setPerson_42 : decode cX1_setPerson 42 = .ok (.iload_n 3, 1) := by decide +kernel
theorem dX1_setPerson_43 : decode cX1_setPerson 43 = .ok (.ireturn, 1) := by decide +kernel
set_option maxRecDepth 20000 in
theorem ggX1_in_X1_isGiver : GoodIn wsX1_in wsX1_isGiver := goodIn_r _ [5, 6, 7, 4, 8] (by decide +kernel) (by decide +kernel)
set_option maxRecDepth 20000 in
theorem gX1_in_X1_isGiver : GoodIn wsX1_in (va_wsS RX1 40 yX1_isGiver wsX1_isGiver) := goodIn_app (goodIn_of _ (by decide +kernel)) ggX1_in_X1_isGiver
set_option maxRecDepth 20000 in
theorem ggX1_in_X1_goes : GoodIn wsX1_in wsX1_goes := goodIn_r _ [12, 13, 14, 15, 16, 17, 18, 19, 20, 21, 22, 23, 24, 25] (by decide +kernel) (by decide +kernel)
set_option maxRecDepth 20000 in
theorem gX1_in_X1_goes : GoodIn wsX1_in (wsV RX1 45 RX1 yX1_goes wsX1_goes) := goodIn_app (goodIn_of _ (by decide +kernel)) ggX1_in_X1_goes
theorem dX1_in_0 : decode cX1_in 0 = .ok (.aload_n 0, 1) := by decide +kernel
theorem dX1_in_1 : decode cX1_in 1 = .ok (.iload_n 1, 1) := by decide +kernel
theorem dX1_in_2 : decode cX1_in 2 = .ok (.invokestatic 40, 3) := by decide +kernel
theorem dX1_in_5 : decode cX1_in 5 = .ok (.ifCond .eq 7, 3) := by decide +kernel
theorem dX1_in_8 : decode cX1_in 8 = .ok (.iconst 0, 1) := by decide +kernel
theorem dX1_in_9 : decode cX1_in 9 = .ok (.goto 4, 3) := by decide +kernel
theorem dX1_in_12 : decode cX1_in 12 = .ok (.iconst 1, 1) := by decide +kernel
theorem dX1_in_13 : decode cX1_in 13 = .ok (.invokevirtual 45, 3) := by decide +kernel
theorem dX1_in_16 : decode cX1_in 16 = .ok (.ifCond .eq 12, 3) := by decide +kernel
theorem dX1_in_19 : decode cX1_in 19 = .ok (.aload_n 0, 1) := by decide +kernel
theorem dX1_in_20 : decode cX1_in 20 = .ok (.getfield 7, 3) := by decide +kernel
theorem dX1_in_23 : decode cX1_in 23 = .ok (.iload_n 1, 1) := by decide +kernel
theorem dX1_in_24 : decode cX1_in 24 = .ok (.iaload, 1) := by decide +kernel
theorem dX1_in_25 : decode cX1_in 25 = .ok (.goto 4, 3) := by decide +kernel
theorem dX1_in_28 : decode cX1_in 28 = .ok (.iconst 0, 1) := by decide +kernel
theorem dX1_in_29 : decode cX1_in 29 = .ok (.ireturn, 1) := by decide +kernel
set_option maxRecDepth 20000 in
theorem ggX1_inByBook_X1_isGiver : GoodIn wsX1_inByBook wsX1_isGiver := goodIn_r _ [5, 6, 7, 4, 8] (by decide +kernel) (by decide +kernel)
set_option maxRecDepth 20000 in
theorem gX1_inByBook_X1_isGiver : GoodIn wsX1_inByBook (va_wsS RX1 40 yX1_isGiver wsX1_isGiver) := goodIn_app (goodIn_of _ (by decide +kernel)) ggX1_inByBook_X1_isGiver
set_option maxRecDepth 20000 in
theorem ggX1_inByBook_X1_goes : GoodIn wsX1_inByBook wsX1_goes := goodIn_r _ [12, 13, 14, 15, 16, 17, 18, 19, 20, 21, 22, 23, 24, 25] (by decide +kernel) (by decide +kernel)
set_option maxRecDepth 20000 in
theorem gX1_inByBook_X1_goes : GoodIn wsX1_inByBook (wsV RX1 45 RX1 yX1_goes wsX1_goes) := goodIn_app (goodIn_of _ (by decide +kernel)) ggX1_inByBook_X1_goes
theorem dX1_inByBook_0 : decode cX1_inByBook 0 = .ok (.aload_n 0, 1) := by decide +kernel
theorem dX1_inByBook_1 : decode cX1_inByBook 1 = .ok (.iload_n 1, 1) := by decide +kernel
theorem dX1_inByBook_2 : decode cX1_inByBook 2 = .ok (.invokestatic 40, 3) := by decide +kernel
theorem dX1_inByBook_5 : decode cX1_inByBook 5 = .ok (.ifCond .eq 7, 3) := by decide +kernel
theorem dX1_inByBook_8 : decode cX1_inByBook 8 = .ok (.iconst 0, 1) := by decide +kernel
theorem dX1_inByBook_9 : decode cX1_inByBook 9 = .ok (.goto 4, 3) := by decide +kernel
theorem dX1_inByBook_12 : decode cX1_inByBook 12 = .ok (.iconst 1, 1) := by decide +kernel
theorem dX1_inByBook_13 : decode cX1_inByBook 13 = .ok (.invokevirtual 45, 3) := by decide +kernel
theorem dX1_inByBook_16 : decode cX1_inByBook 16 = .ok (.ifCond .eq 12, 3) := by decide +kernel
theorem dX1_inByBook_19 : decode cX1_inByBook 19 = .ok (.aload_n 0, 1) := by decide +kernel
theorem dX1_inByBook_20 : decode cX1_inByBook 20 = .ok (.getfield 7, 3) := by decide +kernel
theorem dX1_inByBook_23 : decode cX1_inByBook 23 = .ok (.iload_n 1, 1) := by decide +kernel
theorem dX1_inByBook_24 : decode cX1_inByBook 24 = .ok (.iaload, 1) := by decide +kernel
theorem dX1_inByBook_25 : decode cX1_inByBook 25 = .ok (.goto 4, 3) := by decide +kernel
theorem dX1_inByBook_28 : decode cX1_inByBook 28 = .ok (.iconst 0, 1) := by decide +kernel
theorem dX1_inByBook_29 : decode cX1_inByBook 29 = .ok (.ireturn, 1) := by decide +kernel
theorem dX1_all_0 : decode cX1_all 0 = .ok (.iconst 0, 1) := by decide +kernel
theorem dX1_all_1 : decode cX1_all 1 = .ok (.istore_n 1, 1) := by decide +kernel
theorem dX1_all_2 : decode cX1_all 2 = .ok (.iconst 0, 1) := by decide +kernel
theorem dX1_all_3 : decode cX1_all 3 = .ok (.istore_n 2, 1) := by decide +kernel
theorem dX1_all_4 : decode cX1_all 4 = .ok (.iload_n 2, 1) := by decide +kernel
theorem dX1_all_5 : decode cX1_all 5 = .ok (.bipush 8, 2) := by decide +kernel
theorem dX1_all_7 : decode cX1_all 7 = .ok (.if_icmp .ge 18, 3) := by decide +kernel
theorem dX1_all_10 : decode cX1_all 10 = .ok (.iload_n 1, 1) := by decide +kernel
theorem dX1_all_11 : decode cX1_all 11 = .ok (.aload_n 0, 1) := by decide +kernel
theorem dX1_all_12 : decode cX1_all 12 = .ok (.getfield 7, 3) := by decide +kernel
theorem dX1_all_15 : decode cX1_all 15 = .ok (.iload_n 2, 1) := by decide +kernel
theorem dX1_all_16 : decode cX1_all 16 = .ok (.iaload, 1) := by decide +kernel
theorem dX1_all_17 : decode cX1_all 17 = .ok (.iadd, 1) := by decide +kernel
theorem dX1_all_18 : decode cX1_all 18 = .ok (.istore_n 1, 1) := by decide +kernel
theorem dX1_all_19 : decode cX1_all 19 = .ok (.iinc 2 1, 3) := by decide +kernel
theorem dX1_all_22 : decode cX1_all 22 = .ok (.goto (-18), 3) := by decide +kernel
theorem dX1_all_25 : decode cX1_all 25 = .ok (.iload_n 1, 1) := by decide +kernel
theorem dX1_all_26 : decode cX1_all 26 = .ok (.ireturn, 1) := by decide +kernel
set_option maxRecDepth 20000 in
theorem ggX1_total_X1_all : GoodIn wsX1_total wsX1_all := goodIn_r _ [6, 7, 8, 9, 10, 11, 12, 13, 14, 15, 16, 17, 18, 19] (by decide +kernel) (by decide +kernel)
set_option maxRecDepth 20000 in
theorem gX1_total_X1_all : GoodIn wsX1_total (wsV RX1 52 RX1 yX1_all wsX1_all) := goodIn_app (goodIn_of _ (by decide +kernel)) ggX1_total_X1_all
theorem dX1_total_0 : decode cX1_total 0 = .ok (.aload_n 0, 1) := by decide +kernel
theorem dX1_total_1 : decode cX1_total 1 = .ok (.iconst 0, 1) := by decide +kernel
theorem dX1_total_2 : decode cX1_total 2 = .ok (.putfield 32, 3) := by decide +kernel
theorem dX1_total_5 : decode cX1_total 5 = .ok (.aload_n 0, 1) := by decide +kernel
theorem dX1_total_6 : decode cX1_total 6 = .ok (.invokevirtual 52, 3) := by decide +kernel
theorem dX1_total_9 : decode cX1_total 9 = .ok (.ireturn, 1) := by decide +kernel
set_option maxRecDepth 20000 in
theorem ggX1_fillPot_X1_isIn : GoodIn wsX1_fillPot wsX1_isIn := goodIn_r _ [7] (by decide +kernel) (by decide +kernel)
set_option maxRecDepth 20000 in
theorem gX1_fillPot_X1_isIn : GoodIn wsX1_fillPot (va_wsS RX1 36 yX1_isIn wsX1_isIn) := goodIn_app (goodIn_of _ (by decide +kernel)) ggX1_fillPot_X1_isIn
set_option maxRecDepth 20000 in
theorem ggX1_fillPot_X1_goes : GoodIn wsX1_fillPot wsX1_goes := goodIn_r _ [11, 12, 13, 14, 15, 16, 17, 18, 19, 20, 21, 22, 23, 24] (by decide +kernel) (by decide +kernel)
set_option maxRecDepth 20000 in
theorem gX1_fillPot_X1_goes : GoodIn wsX1_fillPot (wsV RX1 45 RX1 yX1_goes wsX1_goes) := goodIn_app (goodIn_of _ (by decide +kernel)) ggX1_fillPot_X1_goes
theorem dX1_fillPot_0 : decode cX1_fillPot 0 = .ok (.aload_n 0, 1) := by decide +kernel
theorem dX1_fillPot_1 : decode cX1_fillPot 1 = .ok (.iload_n 1, 1) := by decide +kernel
theorem dX1_fillPot_2 : decode cX1_fillPot 2 = .ok (.iconst 1, 1) := by decide +kernel
theorem dX1_fillPot_3 : decode cX1_fillPot 3 = .ok (.ldc 44, 2) := by decide +kernel
theorem dX1_fillPot_5 : decode cX1_fillPot 5 = .ok (.invokestatic 36, 3) := by decide +kernel
theorem dX1_fillPot_8 : decode cX1_fillPot 8 = .ok (.ifCond .ne 7, 3) := by decide +kernel
theorem dX1_fillPot_11 : decode cX1_fillPot 11 = .ok (.iconst 1, 1) := by decide +kernel
theorem dX1_fillPot_12 : decode cX1_fillPot 12 = .ok (.goto 19, 3) := by decide +kernel
theorem dX1_fillPot_15 : decode cX1_fillPot 15 = .ok (.aload_n 0, 1) := by decide +kernel
theorem dX1_fillPot_16 : decode cX1_fillPot 16 = .ok (.getfield 56, 3) := by decide +kernel
theorem dX1_fillPot_19 : decode cX1_fillPot 19 = .ok (.iload_n 1, 1) := by decide +kernel
theorem dX1_fillPot_20 : decode cX1_fillPot 20 = .ok (.iadd, 1) := by decide +kernel
theorem dX1_fillPot_21 : decode cX1_fillPot 21 = .ok (.ldc 59, 2) := by decide +kernel
theorem dX1_fillPot_23 : decode cX1_fillPot 23 = .ok (.if_icmp .le 7, 3) := by decide +kernel
theorem dX1_fillPot_26 : decode cX1_fillPot 26 = .ok (.iconst 2, 1) := by decide +kernel
theorem dX1_fillPot_27 : decode cX1_fillPot 27 = .ok (.goto 4, 3) := by decide +kernel
theorem dX1_fillPot_30 : decode cX1_fillPot 30 = .ok (.iconst 0, 1) := by decide +kernel
theorem dX1_fillPot_31 : decode cX1_fillPot 31 = .ok (.invokevirtual 45, 3) := by decide +kernel
theorem dX1_fillPot_34 : decode cX1_fillPot 34 = .ok (.ifCond .ne 5, 3) := by decide +kernel
theorem dX1_fillPot_37 : decode cX1_fillPot 37 = .ok (.iconst 0, 1) := by decide +kernel
theorem dX1_fillPot_38 : decode cX1_fillPot 38 = .ok (.ireturn, 1) := by decide +kernel
theorem dX1_fillPot_39 : decode cX1_fillPot 39 = .ok (.aload_n 0, 1) := by decide +kernel
theorem dX1_fillPot_40 : decode cX1_fillPot 40 = .ok (.dup, 1) := by decide +kernel
theorem dX1_fillPot_41 : decode cX1_fillPot 41 = .ok (.getfield 56, 3) := by decide +kernel
theorem dX1_fillPot_44 : decode cX1_fillPot 44 = .ok (.iload_n 1, 1) := by decide +kernel
theorem dX1_fillPot_45 : decode cX1_fillPot 45 = .ok (.iadd, 1) := by decide +kernel
theorem dX1_fillPot_46 : decode cX1_fillPot 46 = .ok (.putfield 56, 3) := by decide +kernel
theorem dX1_fillPot_49 : decode cX1_fillPot 49 = .ok (.aload_n 0, 1) := by decide +kernel
theorem dX1_fillPot_50 : decode cX1_fillPot 50 = .ok (.getfield 56, 3) := by decide +kernel
theorem dX1_fillPot_53 : decode cX1_fillPot 53 = .ok (.ireturn, 1) := by decide +kernel
theorem dX1_pot_0 : decode cX1_pot 0 = .ok (.aload_n 0, 1) := by decide +kernel
theorem dX1_pot_1 : decode cX1_pot 1 = .ok (.iconst 0, 1) := by decide +kernel
theorem dX1_pot_2 : decode cX1_pot 2 = .ok (.putfield 32, 3) := by decide +kernel
theorem dX1_pot_5 : decode cX1_pot 5 = .ok (.aload_n 0, 1) := by decide +kernel
theorem dX1_pot_6 : decode cX1_pot 6 = .ok (.getfield 56, 3) := by decide +kernel
theorem dX1_pot_9 : decode cX1_pot 9 = .ok (.ireturn, 1) := by decide +kernel
set_option maxRecDepth 20000 in
theorem ggX1_addMilestone_X1_isIn : GoodIn wsX1_addMilestone wsX1_isIn := goodIn_r _ [8] (by decide +kernel) (by decide +kernel)
set_option maxRecDepth 20000 in
theorem gX1_addMilestone_X1_isIn : GoodIn wsX1_addMilestone (va_wsS RX1 36 yX1_isIn wsX1_isIn) := goodIn_app (goodIn_of _ (by decide +kernel)) ggX1_addMilestone_X1_isIn
set_option maxRecDepth 20000 in
theorem ggX1_addMilestone_X1_goes : GoodIn wsX1_addMilestone wsX1_goes := goodIn_r _ [12, 13, 14, 15, 16, 17, 18, 19, 20, 21, 22, 23, 24, 25] (by decide +kernel) (by decide +kernel)
set_option maxRecDepth 20000 in
theorem gX1_addMilestone_X1_goes : GoodIn wsX1_addMilestone (wsV RX1 45 RX1 yX1_goes wsX1_goes) := goodIn_app (goodIn_of _ (by decide +kernel)) ggX1_addMilestone_X1_goes
theorem dX1_addMilestone_0 : decode cX1_addMilestone 0 = .ok (.aload_n 0, 1) := by decide +kernel
theorem dX1_addMilestone_1 : decode cX1_addMilestone 1 = .ok (.iload_n 1, 1) := by decide +kernel
theorem dX1_addMilestone_2 : decode cX1_addMilestone 2 = .ok (.iconst 1, 1) := by decide +kernel
theorem dX1_addMilestone_3 : decode cX1_addMilestone 3 = .ok (.ldc 44, 2) := by decide +kernel
theorem dX1_addMilestone_5 : decode cX1_addMilestone 5 = .ok (.invokestatic 36, 3) := by decide +kernel
theorem dX1_addMilestone_8 : decode cX1_addMilestone 8 = .ok (.ifCond .ne 7, 3) := by decide +kernel
theorem dX1_addMilestone_11 : decode cX1_addMilestone 11 = .ok (.iconst 1, 1) := by decide +kernel
theorem dX1_addMilestone_12 : decode cX1_addMilestone 12 = .ok (.goto 17, 3) := by decide +kernel
theorem dX1_addMilestone_15 : decode cX1_addMilestone 15 = .ok (.aload_n 0, 1) := by decide +kernel
theorem dX1_addMilestone_16 : decode cX1_addMilestone 16 = .ok (.getfield 60, 3) := by decide +kernel
theorem dX1_addMilestone_19 : decode cX1_addMilestone 19 = .ok (.bipush 6, 2) := by decide +kernel
theorem dX1_addMilestone_21 : decode cX1_addMilestone 21 = .ok (.if_icmp .ne 7, 3) := by decide +kernel
theorem dX1_addMilestone_24 : decode cX1_addMilestone 24 = .ok (.iconst 2, 1) := by decide +kernel
theorem dX1_addMilestone_25 : decode cX1_addMilestone 25 = .ok (.goto 4, 3) := by decide +kernel
theorem dX1_addMilestone_28 : decode cX1_addMilestone 28 = .ok (.iconst 0, 1) := by decide +kernel
theorem dX1_addMilestone_29 : decode cX1_addMilestone 29 = .ok (.invokevirtual 45, 3) := by decide +kernel
theorem dX1_addMilestone_32 : decode cX1_addMilestone 32 = .ok (.ifCond .ne 5, 3) := by decide +kernel
theorem dX1_addMilestone_35 : decode cX1_addMilestone 35 = .ok (.iconst 0, 1) := by decide +kernel
theorem dX1_addMilestone_36 : decode cX1_addMilestone 36 = .ok (.ireturn, 1) := by decide +kernel
theorem dX1_addMilestone_37 : decode cX1_addMilestone 37 = .ok (.aload_n 0, 1) := by decide +kernel
theorem dX1_addMilestone_38 : decode cX1_addMilestone 38 = .ok (.getfield 22, 3) := by decide +kernel
theorem dX1_addMilestone_41 : decode cX1_addMilestone 41 = .ok (.aload_n 0, 1) := by decide +kernel
theorem dX1_addMilestone_42 : decode cX1_addMilestone 42 = .ok (.getfield 60, 3) := by decide +kernel
theorem dX1_addMilestone_45 : decode cX1_addMilestone 45 = .ok (.iload_n 1, 1) := by decide +kernel
theorem dX1_addMilestone_46 : decode cX1_addMilestone 46 = .ok (.iastore, 1) := by decide +kernel
theorem dX1_addMilestone_47 : decode cX1_addMilestone 47 = .ok (.aload_n 0, 1) := by decide +kernel
theorem dX1_addMilestone_48 : decode cX1_addMilestone 48 = .ok (.getfield 25, 3) := by decide +kernel
theorem dX1_addMilestone_51 : decode cX1_addMilestone 51 = .ok (.aload_n 0, 1) := by decide +kernel
theorem dX1_addMilestone_52 : decode cX1_addMilestone 52 = .ok (.getfield 60, 3) := by decide +kernel
theorem dX1_addMilestone_55 : decode cX1_addMilestone 55 = .ok (.iconst 0, 1) := by decide +kernel
theorem dX1_addMilestone_56 : decode cX1_addMilestone 56 = .ok (.bastore, 1) := by decide +kernel
theorem dX1_addMilestone_57 : decode cX1_addMilestone 57 = .ok (.aload_n 0, 1) := by decide +kernel
theorem dX1_addMilestone_58 : decode cX1_addMilestone 58 = .ok (.dup, 1) := by decide +kernel
theorem dX1_addMilestone_59 : decode cX1_addMilestone 59 = .ok (.getfield 60, 3) := by decide +kernel
theorem dX1_addMilestone_62 : decode cX1_addMilestone 62 = .ok (.iconst 1, 1) := by decide +kernel
theorem dX1_addMilestone_63 : decode cX1_addMilestone 63 = .ok (.iadd, 1) := by decide +kernel
theorem dX1_addMilestone_64 : decode cX1_addMilestone 64 = .ok (.putfield 60, 3) := by decide +kernel
theorem dX1_addMilestone_67 : decode cX1_addMilestone 67 = .ok (.aload_n 0, 1) := by decide +kernel
theorem dX1_addMilestone_68 : decode cX1_addMilestone 68 = .ok (.getfield 60, 3) := by decide +kernel
theorem dX1_addMilestone_71 : decode cX1_addMilestone 71 = .ok (.iconst 1, 1) := by decide +kernel
theorem dX1_addMilestone_72 : decode cX1_addMilestone 72 = .ok (.isub, 1) := by decide +kernel
theorem dX1_addMilestone_73 : decode cX1_addMilestone 73 = .ok (.ireturn, 1) := by decide +kernel
set_option maxRecDepth 20000 in
theorem ggX1_prove_X1_isIn : GoodIn wsX1_prove wsX1_isIn := goodIn_r _ [7] (by decide +kernel) (by decide +kernel)
set_option maxRecDepth 20000 in
theorem gX1_prove_X1_isIn : GoodIn wsX1_prove (va_wsS RX1 36 yX1_isIn wsX1_isIn) := goodIn_app (goodIn_of _ (by decide +kernel)) ggX1_prove_X1_isIn
set_option maxRecDepth 20000 in
theorem ggX1_prove_X1_goes : GoodIn wsX1_prove wsX1_goes := goodIn_r _ [11, 12, 13, 14, 15, 16, 17, 18, 19, 20, 21, 22, 23, 24] (by decide +kernel) (by decide +kernel)
set_option maxRecDepth 20000 in
theorem gX1_prove_X1_goes : GoodIn wsX1_prove (wsV RX1 45 RX1 yX1_goes wsX1_goes) := goodIn_app (goodIn_of _ (by decide +kernel)) ggX1_prove_X1_goes
theorem dX1_prove_0 : decode cX1_prove 0 = .ok (.aload_n 0, 1) := by decide +kernel
theorem dX1_prove_1 : decode cX1_prove 1 = .ok (.iload_n 1, 1) := by decide +kernel
theorem dX1_prove_2 : decode cX1_prove 2 = .ok (.iconst 0, 1) := by decide +kernel
theorem dX1_prove_3 : decode cX1_prove 3 = .ok (.aload_n 0, 1) := by decide +kernel
theorem dX1_prove_4 : decode cX1_prove 4 = .ok (.getfield 60, 3) := by decide +kernel
theorem dX1_prove_7 : decode cX1_prove 7 = .ok (.iconst 1, 1) := by decide +kernel
theorem dX1_prove_8 : decode cX1_prove 8 = .ok (.isub, 1) := by decide +kernel
theorem dX1_prove_9 : decode cX1_prove 9 = .ok (.invokestatic 36, 3) := by decide +kernel
theorem dX1_prove_12 : decode cX1_prove 12 = .ok (.ifCond .ne 7, 3) := by decide +kernel
theorem dX1_prove_15 : decode cX1_prove 15 = .ok (.iconst 1, 1) := by decide +kernel
theorem dX1_prove_16 : decode cX1_prove 16 = .ok (.goto 16, 3) := by decide +kernel
theorem dX1_prove_19 : decode cX1_prove 19 = .ok (.iload_n 1, 1) := by decide +kernel
theorem dX1_prove_20 : decode cX1_prove 20 = .ok (.aload_n 0, 1) := by decide +kernel
theorem dX1_prove_21 : decode cX1_prove 21 = .ok (.getfield 63, 3) := by decide +kernel
theorem dX1_prove_24 : decode cX1_prove 24 = .ok (.if_icmp .ge 7, 3) := by decide +kernel
theorem dX1_prove_27 : decode cX1_prove 27 = .ok (.iconst 2, 1) := by decide +kernel
theorem dX1_prove_28 : decode cX1_prove 28 = .ok (.goto 4, 3) := by decide +kernel
theorem dX1_prove_31 : decode cX1_prove 31 = .ok (.iconst 0, 1) := by decide +kernel
theorem dX1_prove_32 : decode cX1_prove 32 = .ok (.invokevirtual 45, 3) := by decide +kernel
theorem dX1_prove_35 : decode cX1_prove 35 = .ok (.ifCond .ne 5, 3) := by decide +kernel
theorem dX1_prove_38 : decode cX1_prove 38 = .ok (.iconst 0, 1) := by decide +kernel
theorem dX1_prove_39 : decode cX1_prove 39 = .ok (.ireturn, 1) := by decide +kernel
theorem dX1_prove_40 : decode cX1_prove 40 = .ok (.aload_n 0, 1) := by decide +kernel
theorem dX1_prove_41 : decode cX1_prove 41 = .ok (.getfield 25, 3) := by decide +kernel
theorem dX1_prove_44 : decode cX1_prove 44 = .ok (.iload_n 1, 1) := by decide +kernel
theorem dX1_prove_45 : decode cX1_prove 45 = .ok (.aload_n 0, 1) := by decide +kernel
theorem dX1_prove_46 : decode cX1_prove 46 = .ok (.getfield 25, 3) := by decide +kernel
theorem dX1_prove_49 : decode cX1_prove 49 = .ok (.iload_n 1, 1) := by decide +kernel
theorem dX1_prove_50 : decode cX1_prove 50 = .ok (.baload, 1) := by decide +kernel
theorem dX1_prove_51 : decode cX1_prove 51 = .ok (.ifCond .ne 7, 3) := by decide +kernel
theorem dX1_prove_54 : decode cX1_prove 54 = .ok (.iconst 1, 1) := by decide +kernel
theorem dX1_prove_55 : decode cX1_prove 55 = .ok (.goto 4, 3) := by decide +kernel
theorem dX1_prove_58 : decode cX1_prove 58 = .ok (.iconst 0, 1) := by decide +kernel
theorem dX1_prove_59 : decode cX1_prove 59 = .ok (.bastore, 1) := by decide +kernel
theorem dX1_prove_60 : decode cX1_prove 60 = .ok (.aload_n 0, 1) := by decide +kernel
theorem dX1_prove_61 : decode cX1_prove 61 = .ok (.getfield 25, 3) := by decide +kernel
theorem dX1_prove_64 : decode cX1_prove 64 = .ok (.iload_n 1, 1) := by decide +kernel
theorem dX1_prove_65 : decode cX1_prove 65 = .ok (.baload, 1) := by decide +kernel
theorem dX1_prove_66 : decode cX1_prove 66 = .ok (.ireturn, 1) := by decide +kernel
theorem dX1_hasCurrent_0 : decode cX1_hasCurrent 0 = .ok (.aload_n 0, 1) := by decide +kernel
theorem dX1_hasCurrent_1 : decode cX1_hasCurrent 1 = .ok (.getfield 63, 3) := by decide +kernel
theorem dX1_hasCurrent_4 : decode cX1_hasCurrent 4 = .ok (.aload_n 0, 1) := by decide +kernel
theorem dX1_hasCurrent_5 : decode cX1_hasCurrent 5 = .ok (.getfield 60, 3) := by decide +kernel
theorem dX1_hasCurrent_8 : decode cX1_hasCurrent 8 = .ok (.if_icmp .ge 7, 3) := by decide +kernel
theorem dX1_hasCurrent_11 : decode cX1_hasCurrent 11 = .ok (.iconst 1, 1) := by decide +kernel
theorem dX1_hasCurrent_12 : decode cX1_hasCurrent 12 = .ok (.goto 4, 3) := by decide +kernel
theorem dX1_hasCurrent_15 : decode cX1_hasCurrent 15 = .ok (.iconst 0, 1) := by decide +kernel
theorem dX1_hasCurrent_16 : decode cX1_hasCurrent 16 = .ok (.ireturn, 1) := by decide +kernel
set_option maxRecDepth 20000 in
theorem ggX1_current_X1_hasCurrent : GoodIn wsX1_current wsX1_hasCurrent := goodIn_r _ [7, 2, 8, 9, 10, 11, 12, 13, 14, 15, 16, 17, 18, 19, 20] (by decide +kernel) (by decide +kernel)
set_option maxRecDepth 20000 in
theorem gX1_current_X1_hasCurrent : GoodIn wsX1_current (wsV RX1 66 RX1 yX1_hasCurrent wsX1_hasCurrent) := goodIn_app (goodIn_of _ (by decide +kernel)) ggX1_current_X1_hasCurrent
theorem dX1_current_0 : decode cX1_current 0 = .ok (.aload_n 0, 1) := by decide +kernel
theorem dX1_current_1 : decode cX1_current 1 = .ok (.iconst 0, 1) := by decide +kernel
theorem dX1_current_2 : decode cX1_current 2 = .ok (.putfield 32, 3) := by decide +kernel
theorem dX1_current_5 : decode cX1_current 5 = .ok (.aload_n 0, 1) := by decide +kernel
theorem dX1_current_6 : decode cX1_current 6 = .ok (.invokevirtual 66, 3) := by decide +kernel
theorem dX1_current_9 : decode cX1_current 9 = .ok (.ifCond .eq 10, 3) := by decide +kernel
theorem dX1_current_12 : decode cX1_current 12 = .ok (.aload_n 0, 1) := by decide +kernel
theorem dX1_current_13 : decode cX1_current 13 = .ok (.getfield 63, 3) := by decide +kernel
theorem dX1_current_16 : decode cX1_current 16 = .ok (.goto 4, 3) := by decide +kernel
theorem dX1_current_19 : decode cX1_current 19 = .ok (.iconst (-1), 1) := by decide +kernel
theorem dX1_current_20 : decode cX1_current 20 = .ok (.ireturn, 1) := by decide +kernel
set_option maxRecDepth 20000 in
theorem ggX1_vote_X1_isGiver : GoodIn wsX1_vote wsX1_isGiver := goodIn_r _ [5, 6, 7, 4, 8] (by decide +kernel) (by decide +kernel)
set_option maxRecDepth 20000 in
theorem gX1_vote_X1_isGiver : GoodIn wsX1_vote (va_wsS RX1 40 yX1_isGiver wsX1_isGiver) := goodIn_app (goodIn_of _ (by decide +kernel)) ggX1_vote_X1_isGiver
set_option maxRecDepth 20000 in
theorem ggX1_vote_X1_isIn : GoodIn wsX1_vote wsX1_isIn := goodIn_r _ [8] (by decide +kernel) (by decide +kernel)
set_option maxRecDepth 20000 in
theorem gX1_vote_X1_isIn : GoodIn wsX1_vote (va_wsS RX1 36 yX1_isIn wsX1_isIn) := goodIn_app (goodIn_of _ (by decide +kernel)) ggX1_vote_X1_isIn
set_option maxRecDepth 20000 in
theorem ggX1_vote_X1_hasCurrent : GoodIn wsX1_vote wsX1_hasCurrent := goodIn_r _ [12, 13, 14, 20, 21, 22, 23, 24, 25, 26, 27, 28, 29, 30, 31] (by decide +kernel) (by decide +kernel)
set_option maxRecDepth 20000 in
theorem gX1_vote_X1_hasCurrent : GoodIn wsX1_vote (wsV RX1 66 RX1 yX1_hasCurrent wsX1_hasCurrent) := goodIn_app (goodIn_of _ (by decide +kernel)) ggX1_vote_X1_hasCurrent
set_option maxRecDepth 20000 in
theorem ggX1_vote_X1_goes : GoodIn wsX1_vote wsX1_goes := goodIn_r _ [18, 19, 20, 21, 22, 23, 24, 25, 26, 27, 28, 29, 30, 31] (by decide +kernel) (by decide +kernel)
set_option maxRecDepth 20000 in
theorem gX1_vote_X1_goes : GoodIn wsX1_vote (wsV RX1 45 RX1 yX1_goes wsX1_goes) := goodIn_app (goodIn_of _ (by decide +kernel)) ggX1_vote_X1_goes
theorem dX1_vote_0 : decode cX1_vote 0 = .ok (.aload_n 0, 1) := by decide +kernel
theorem dX1_vote_1 : decode cX1_vote 1 = .ok (.iload_n 1, 1) := by decide +kernel
theorem dX1_vote_2 : decode cX1_vote 2 = .ok (.invokestatic 40, 3) := by decide +kernel
theorem dX1_vote_5 : decode cX1_vote 5 = .ok (.ifCond .ne 7, 3) := by decide +kernel
theorem dX1_vote_8 : decode cX1_vote 8 = .ok (.iconst 1, 1) := by decide +kernel
theorem dX1_vote_9 : decode cX1_vote 9 = .ok (.goto 28, 3) := by decide +kernel
theorem dX1_vote_12 : decode cX1_vote 12 = .ok (.iload_n 2, 1) := by decide +kernel
theorem dX1_vote_13 : decode cX1_vote 13 = .ok (.iconst 0, 1) := by decide +kernel
theorem dX1_vote_14 : decode cX1_vote 14 = .ok (.iconst 2, 1) := by decide +kernel
theorem dX1_vote_15 : decode cX1_vote 15 = .ok (.invokestatic 36, 3) := by decide +kernel
theorem dX1_vote_18 : decode cX1_vote 18 = .ok (.ifCond .ne 7, 3) := by decide +kernel
theorem dX1_vote_21 : decode cX1_vote 21 = .ok (.iconst 2, 1) := by decide +kernel
theorem dX1_vote_22 : decode cX1_vote 22 = .ok (.goto 15, 3) := by decide +kernel
theorem dX1_vote_25 : decode cX1_vote 25 = .ok (.aload_n 0, 1) := by decide +kernel
theorem dX1_vote_26 : decode cX1_vote 26 = .ok (.invokevirtual 66, 3) := by decide +kernel
theorem dX1_vote_29 : decode cX1_vote 29 = .ok (.ifCond .eq 7, 3) := by decide +kernel
theorem dX1_vote_32 : decode cX1_vote 32 = .ok (.iconst 0, 1) := by decide +kernel
theorem dX1_vote_33 : decode cX1_vote 33 = .ok (.goto 4, 3) := by decide +kernel
theorem dX1_vote_36 : decode cX1_vote 36 = .ok (.iconst 3, 1) := by decide +kernel
theorem dX1_vote_37 : decode cX1_vote 37 = .ok (.invokevirtual 45, 3) := by decide +kernel
theorem dX1_vote_40 : decode cX1_vote 40 = .ok (.ifCond .ne 5, 3) := by decide +kernel
theorem dX1_vote_43 : decode cX1_vote 43 = .ok (.iconst 0, 1) := by decide +kernel
theorem dX1_vote_44 : decode cX1_vote 44 = .ok (.ireturn, 1) := by decide +kernel
theorem dX1_vote_45 : decode cX1_vote 45 = .ok (.aload_n 0, 1) := by decide +kernel
theorem dX1_vote_46 : decode cX1_vote 46 = .ok (.getfield 19, 3) := by decide +kernel
theorem dX1_vote_49 : decode cX1_vote 49 = .ok (.iload_n 1, 1) := by decide +kernel
theorem dX1_vote_50 : decode cX1_vote 50 = .ok (.iaload, 1) := by decide +kernel
theorem dX1_vote_51 : decode cX1_vote 51 = .ok (.istore_n 3, 1) := by decide +kernel
theorem dX1_vote_52 : decode cX1_vote 52 = .ok (.aload_n 0, 1) := by decide +kernel
theorem dX1_vote_53 : decode cX1_vote 53 = .ok (.getfield 19, 3) := by decide +kernel
theorem dX1_vote_56 : decode cX1_vote 56 = .ok (.iload_n 1, 1) := by decide +kernel
theorem dX1_vote_57 : decode cX1_vote 57 = .ok (.iload_n 2, 1) := by decide +kernel
theorem dX1_vote_58 : decode cX1_vote 58 = .ok (.iastore, 1) := by decide +kernel
theorem dX1_vote_59 : decode cX1_vote 59 = .ok (.iload_n 3, 1) := by decide +kernel
theorem dX1_vote_60 : decode cX1_vote 60 = .ok (.ireturn, 1) := by decide +kernel
theorem dX1_speakerOf_0 : decode cX1_speakerOf 0 = .ok (.iload_n 1, 1) := by decide +kernel
theorem dX1_speakerOf_1 : decode cX1_speakerOf 1 = .ok (.istore_n 2, 1) := by decide +kernel
theorem dX1_speakerOf_2 : decode cX1_speakerOf 2 = .ok (.iload_n 2, 1) := by decide +kernel
theorem dX1_speakerOf_3 : decode cX1_speakerOf 3 = .ok (.iconst (-1), 1) := by decide +kernel
theorem dX1_speakerOf_4 : decode cX1_speakerOf 4 = .ok (.if_icmp .eq 22, 3) := by decide +kernel
theorem dX1_speakerOf_7 : decode cX1_speakerOf 7 = .ok (.aload_n 0, 1) := by decide +kernel
theorem dX1_speakerOf_8 : decode cX1_speakerOf 8 = .ok (.getfield 19, 3) := by decide +kernel
theorem dX1_speakerOf_11 : decode cX1_speakerOf 11 = .ok (.iload_n 2, 1) := by decide +kernel
theorem dX1_speakerOf_12 : decode cX1_speakerOf 12 = .ok (.iaload, 1) := by decide +kernel
theorem dX1_speakerOf_13 : decode cX1_speakerOf 13 = .ok (.ifCond .ne 13, 3) := by decide +kernel
theorem dX1_speakerOf_16 : decode cX1_speakerOf 16 = .ok (.aload_n 0, 1) := by decide +kernel
theorem dX1_speakerOf_17 : decode cX1_speakerOf 17 = .ok (.getfield 13, 3) := by decide +kernel
theorem dX1_speakerOf_20 : decode cX1_speakerOf 20 = .ok (.iload_n 2, 1) := by decide +kernel
theorem dX1_speakerOf_21 : decode cX1_speakerOf 21 = .ok (.iaload, 1) := by decide +kernel
theorem dX1_speakerOf_22 : decode cX1_speakerOf 22 = .ok (.istore_n 2, 1) := by decide +kernel
theorem dX1_speakerOf_23 : decode cX1_speakerOf 23 = .ok (.goto (-21), 3) := by decide +kernel
theorem dX1_speakerOf_26 : decode cX1_speakerOf 26 = .ok (.iload_n 2, 1) := by decide +kernel
theorem dX1_speakerOf_27 : decode cX1_speakerOf 27 = .ok (.ireturn, 1) := by decide +kernel
set_option maxRecDepth 20000 in
theorem ggX1_speaker_X1_isGiver : GoodIn wsX1_speaker wsX1_isGiver := goodIn_r _ [4, 5, 6, 3, 7] (by decide +kernel) (by decide +kernel)
set_option maxRecDepth 20000 in
theorem gX1_speaker_X1_isGiver : GoodIn wsX1_speaker (va_wsS RX1 40 yX1_isGiver wsX1_isGiver) := goodIn_app (goodIn_of _ (by decide +kernel)) ggX1_speaker_X1_isGiver
set_option maxRecDepth 20000 in
theorem ggX1_speaker_X1_goes : GoodIn wsX1_speaker wsX1_goes := goodIn_r _ [11, 12, 19, 20, 21, 22, 23, 24, 25, 26, 27, 28, 29, 30] (by decide +kernel) (by decide +kernel)
set_option maxRecDepth 20000 in
theorem gX1_speaker_X1_goes : GoodIn wsX1_speaker (wsV RX1 45 RX1 yX1_goes wsX1_goes) := goodIn_app (goodIn_of _ (by decide +kernel)) ggX1_speaker_X1_goes
set_option maxRecDepth 20000 in
theorem ggX1_speaker_X1_speakerOf : GoodIn wsX1_speaker wsX1_speakerOf := goodIn_r _ [16, 17, 18, 19, 20, 21, 22, 23, 24, 25, 26, 27, 28, 29, 30] (by decide +kernel) (by decide +kernel)
set_option maxRecDepth 20000 in
theorem gX1_speaker_X1_speakerOf : GoodIn wsX1_speaker (wsV RX1 70 RX1 yX1_speakerOf wsX1_speakerOf) := goodIn_app (goodIn_of _ (by decide +kernel)) ggX1_speaker_X1_speakerOf
theorem dX1_speaker_0 : decode cX1_speaker 0 = .ok (.aload_n 0, 1) := by decide +kernel
theorem dX1_speaker_1 : decode cX1_speaker 1 = .ok (.iload_n 1, 1) := by decide +kernel
theorem dX1_speaker_2 : decode cX1_speaker 2 = .ok (.invokestatic 40, 3) := by decide +kernel
theorem dX1_speaker_5 : decode cX1_speaker 5 = .ok (.ifCond .eq 7, 3) := by decide +kernel
theorem dX1_speaker_8 : decode cX1_speaker 8 = .ok (.iconst 0, 1) := by decide +kernel
theorem dX1_speaker_9 : decode cX1_speaker 9 = .ok (.goto 4, 3) := by decide +kernel
theorem dX1_speaker_12 : decode cX1_speaker 12 = .ok (.iconst 1, 1) := by decide +kernel
theorem dX1_speaker_13 : decode cX1_speaker 13 = .ok (.invokevirtual 45, 3) := by decide +kernel
theorem dX1_speaker_16 : decode cX1_speaker 16 = .ok (.ifCond .eq 11, 3) := by decide +kernel
theorem dX1_speaker_19 : decode cX1_speaker 19 = .ok (.aload_n 0, 1) := by decide +kernel
theorem dX1_speaker_20 : decode cX1_speaker 20 = .ok (.iload_n 1, 1) := by decide +kernel
theorem dX1_speaker_21 : decode cX1_speaker 21 = .ok (.invokevirtual 70, 3) := by decide +kernel
theorem dX1_speaker_24 : decode cX1_speaker 24 = .ok (.goto 4, 3) := by decide +kernel
theorem dX1_speaker_27 : decode cX1_speaker 27 = .ok (.iconst 0, 1) := by decide +kernel
theorem dX1_speaker_28 : decode cX1_speaker 28 = .ok (.ireturn, 1) := by decide +kernel
set_option maxRecDepth 20000 in
theorem ggX1_weightOf_X1_speakerOf : GoodIn wsX1_weightOf wsX1_speakerOf := goodIn_r _ [7, 1, 8, 9, 10, 11, 12, 13, 14, 15, 16, 17, 18, 19, 20] (by decide +kernel) (by decide +kernel)
set_option maxRecDepth 20000 in
theorem gX1_weightOf_X1_speakerOf : GoodIn wsX1_weightOf (wsV RX1 70 RX1 yX1_speakerOf wsX1_speakerOf) := goodIn_app (goodIn_of _ (by decide +kernel)) ggX1_weightOf_X1_speakerOf
theorem dX1_weightOf_0 : decode cX1_weightOf 0 = .ok (.iconst 0, 1) := by decide +kernel
theorem dX1_weightOf_1 : decode cX1_weightOf 1 = .ok (.istore_n 2, 1) := by decide +kernel
theorem dX1_weightOf_2 : decode cX1_weightOf 2 = .ok (.iconst 0, 1) := by decide +kernel
theorem dX1_weightOf_3 : decode cX1_weightOf 3 = .ok (.istore_n 3, 1) := by decide +kernel
theorem dX1_weightOf_4 : decode cX1_weightOf 4 = .ok (.iload_n 3, 1) := by decide +kernel
theorem dX1_weightOf_5 : decode cX1_weightOf 5 = .ok (.bipush 8, 2) := by decide +kernel
theorem dX1_weightOf_7 : decode cX1_weightOf 7 = .ok (.if_icmp .ge 46, 3) := by decide +kernel
theorem dX1_weightOf_10 : decode cX1_weightOf 10 = .ok (.aload_n 0, 1) := by decide +kernel
theorem dX1_weightOf_11 : decode cX1_weightOf 11 = .ok (.iload_n 3, 1) := by decide +kernel
theorem dX1_weightOf_12 : decode cX1_weightOf 12 = .ok (.invokevirtual 70, 3) := by decide +kernel
theorem dX1_weightOf_15 : decode cX1_weightOf 15 = .ok (.istore 4, 2) := by decide +kernel
theorem dX1_weightOf_17 : decode cX1_weightOf 17 = .ok (.iload_n 2, 1) := by decide +kernel
theorem dX1_weightOf_18 : decode cX1_weightOf 18 = .ok (.iload 4, 2) := by decide +kernel
theorem dX1_weightOf_20 : decode cX1_weightOf 20 = .ok (.iconst (-1), 1) := by decide +kernel
theorem dX1_weightOf_21 : decode cX1_weightOf 21 = .ok (.if_icmp .eq 23, 3) := by decide +kernel
theorem dX1_weightOf_24 : decode cX1_weightOf 24 = .ok (.aload_n 0, 1) := by decide +kernel
theorem dX1_weightOf_25 : decode cX1_weightOf 25 = .ok (.getfield 19, 3) := by decide +kernel
theorem dX1_weightOf_28 : decode cX1_weightOf 28 = .ok (.iload 4, 2) := by decide +kernel
theorem dX1_weightOf_30 : decode cX1_weightOf 30 = .ok (.iaload, 1) := by decide +kernel
theorem dX1_weightOf_31 : decode cX1_weightOf 31 = .ok (.iload_n 1, 1) := by decide +kernel
theorem dX1_weightOf_32 : decode cX1_weightOf 32 = .ok (.if_icmp .ne 12, 3) := by decide +kernel
theorem dX1_weightOf_35 : decode cX1_weightOf 35 = .ok (.aload_n 0, 1) := by decide +kernel
theorem dX1_weightOf_36 : decode cX1_weightOf 36 = .ok (.getfield 7, 3) := by decide +kernel
theorem dX1_weightOf_39 : decode cX1_weightOf 39 = .ok (.iload_n 3, 1) := by decide +kernel
theorem dX1_weightOf_40 : decode cX1_weightOf 40 = .ok (.iaload, 1) := by decide +kernel
theorem dX1_weightOf_41 : decode cX1_weightOf 41 = .ok (.goto 4, 3) := by decide +kernel
theorem dX1_weightOf_44 : decode cX1_weightOf 44 = .ok (.iconst 0, 1) := by decide +kernel
theorem dX1_weightOf_45 : decode cX1_weightOf 45 = .ok (.iadd, 1) := by decide +kernel
theorem dX1_weightOf_46 : decode cX1_weightOf 46 = .ok (.istore_n 2, 1) := by decide +kernel
theorem dX1_weightOf_47 : decode cX1_weightOf 47 = .ok (.iinc 3 1, 3) := by decide +kernel
theorem dX1_weightOf_50 : decode cX1_weightOf 50 = .ok (.goto (-46), 3) := by decide +kernel
theorem dX1_weightOf_53 : decode cX1_weightOf 53 = .ok (.iload_n 2, 1) := by decide +kernel
theorem dX1_weightOf_54 : decode cX1_weightOf 54 = .ok (.ireturn, 1) := by decide +kernel
set_option maxRecDepth 20000 in
theorem ggX1_weight_X1_isIn : GoodIn wsX1_weight wsX1_isIn := goodIn_r _ [4] (by decide +kernel) (by decide +kernel)
set_option maxRecDepth 20000 in
theorem gX1_weight_X1_isIn : GoodIn wsX1_weight (va_wsS RX1 36 yX1_isIn wsX1_isIn) := goodIn_app (goodIn_of _ (by decide +kernel)) ggX1_weight_X1_isIn
set_option maxRecDepth 20000 in
theorem ggX1_weight_X1_goes : GoodIn wsX1_weight wsX1_goes := goodIn_r _ [8, 9, 21, 22, 23, 24, 25, 26, 27, 28, 29, 30, 31, 32] (by decide +kernel) (by decide +kernel)
set_option maxRecDepth 20000 in
theorem gX1_weight_X1_goes : GoodIn wsX1_weight (wsV RX1 45 RX1 yX1_goes wsX1_goes) := goodIn_app (goodIn_of _ (by decide +kernel)) ggX1_weight_X1_goes
set_option maxRecDepth 20000 in
theorem ggX1_weight_X1_weightOf : GoodIn wsX1_weight wsX1_weightOf := goodIn_r _ [13, 14, 15, 16, 17, 18, 3, 19, 20, 21, 22, 23, 24, 25, 26, 27, 28, 29, 30, 31, 32] (by decide +kernel) (by decide +kernel)
set_option maxRecDepth 20000 in
theorem gX1_weight_X1_weightOf : GoodIn wsX1_weight (wsV RX1 74 RX1 yX1_weightOf wsX1_weightOf) := goodIn_app (goodIn_of _ (by decide +kernel)) ggX1_weight_X1_weightOf
theorem dX1_weight_0 : decode cX1_weight 0 = .ok (.aload_n 0, 1) := by decide +kernel
theorem dX1_weight_1 : decode cX1_weight 1 = .ok (.iload_n 1, 1) := by decide +kernel
theorem dX1_weight_2 : decode cX1_weight 2 = .ok (.iconst 1, 1) := by decide +kernel
theorem dX1_weight_3 : decode cX1_weight 3 = .ok (.iconst 2, 1) := by decide +kernel
theorem dX1_weight_4 : decode cX1_weight 4 = .ok (.invokestatic 36, 3) := by decide +kernel
theorem dX1_weight_7 : decode cX1_weight 7 = .ok (.ifCond .eq 7, 3) := by decide +kernel
theorem dX1_weight_10 : decode cX1_weight 10 = .ok (.iconst 0, 1) := by decide +kernel
theorem dX1_weight_11 : decode cX1_weight 11 = .ok (.goto 4, 3) := by decide +kernel
theorem dX1_weight_14 : decode cX1_weight 14 = .ok (.iconst 1, 1) := by decide +kernel
theorem dX1_weight_15 : decode cX1_weight 15 = .ok (.invokevirtual 45, 3) := by decide +kernel
theorem dX1_weight_18 : decode cX1_weight 18 = .ok (.ifCond .eq 11, 3) := by decide +kernel
theorem dX1_weight_21 : decode cX1_weight 21 = .ok (.aload_n 0, 1) := by decide +kernel
theorem dX1_weight_22 : decode cX1_weight 22 = .ok (.iload_n 1, 1) := by decide +kernel
theorem dX1_weight_23 : decode cX1_weight 23 = .ok (.invokevirtual 74, 3) := by decide +kernel
theorem dX1_weight_26 : decode cX1_weight 26 = .ok (.goto 4, 3) := by decide +kernel
theorem dX1_weight_29 : decode cX1_weight 29 = .ok (.iconst 0, 1) := by decide +kernel
theorem dX1_weight_30 : decode cX1_weight 30 = .ok (.ireturn, 1) := by decide +kernel
set_option maxRecDepth 20000 in
theorem ggX1_canGoOut_X1_hasCurrent : GoodIn wsX1_canGoOut wsX1_hasCurrent := goodIn_r _ [7, 2, 8, 14, 15, 16, 17, 18, 19, 20, 21, 22, 23, 24, 25] (by decide +kernel) (by decide +kernel)
set_option maxRecDepth 20000 in
theorem gX1_canGoOut_X1_hasCurrent : GoodIn wsX1_canGoOut (wsV RX1 66 RX1 yX1_hasCurrent wsX1_hasCurrent) := goodIn_app (goodIn_of _ (by decide +kernel)) ggX1_canGoOut_X1_hasCurrent
set_option maxRecDepth 20000 in
theorem ggX1_canGoOut_X1_all : GoodIn wsX1_canGoOut wsX1_all := goodIn_r _ [12, 13, 14, 15, 16, 17, 18, 19, 20, 21, 22, 23, 24, 25] (by decide +kernel) (by decide +kernel)
set_option maxRecDepth 20000 in
theorem gX1_canGoOut_X1_all : GoodIn wsX1_canGoOut (wsV RX1 52 RX1 yX1_all wsX1_all) := goodIn_app (goodIn_of _ (by decide +kernel)) ggX1_canGoOut_X1_all
theorem dX1_canGoOut_0 : decode cX1_canGoOut 0 = .ok (.aload_n 0, 1) := by decide +kernel
theorem dX1_canGoOut_1 : decode cX1_canGoOut 1 = .ok (.invokevirtual 66, 3) := by decide +kernel
theorem dX1_canGoOut_4 : decode cX1_canGoOut 4 = .ok (.ifCond .eq 23, 3) := by decide +kernel
theorem dX1_canGoOut_7 : decode cX1_canGoOut 7 = .ok (.aload_n 0, 1) := by decide +kernel
theorem dX1_canGoOut_8 : decode cX1_canGoOut 8 = .ok (.invokevirtual 52, 3) := by decide +kernel
theorem dX1_canGoOut_11 : decode cX1_canGoOut 11 = .ok (.aload_n 0, 1) := by decide +kernel
theorem dX1_canGoOut_12 : decode cX1_canGoOut 12 = .ok (.getfield 22, 3) := by decide +kernel
theorem dX1_canGoOut_15 : decode cX1_canGoOut 15 = .ok (.aload_n 0, 1) := by decide +kernel
theorem dX1_canGoOut_16 : decode cX1_canGoOut 16 = .ok (.getfield 63, 3) := by decide +kernel
theorem dX1_canGoOut_19 : decode cX1_canGoOut 19 = .ok (.iaload, 1) := by decide +kernel
theorem dX1_canGoOut_20 : decode cX1_canGoOut 20 = .ok (.if_icmp .lt 7, 3) := by decide +kernel
theorem dX1_canGoOut_23 : decode cX1_canGoOut 23 = .ok (.iconst 1, 1) := by decide +kernel
theorem dX1_canGoOut_24 : decode cX1_canGoOut 24 = .ok (.goto 4, 3) := by decide +kernel
theorem dX1_canGoOut_27 : decode cX1_canGoOut 27 = .ok (.iconst 0, 1) := by decide +kernel
theorem dX1_canGoOut_28 : decode cX1_canGoOut 28 = .ok (.ireturn, 1) := by decide +kernel
set_option maxRecDepth 20000 in
theorem ggX1_laysShares_X1_all : GoodIn wsX1_laysShares wsX1_all := goodIn_r _ [9, 4, 10, 11, 12, 13, 14, 15, 16, 17, 18, 19, 20, 21] (by decide +kernel) (by decide +kernel)
set_option maxRecDepth 20000 in
theorem gX1_laysShares_X1_all : GoodIn wsX1_laysShares (wsV RX1 52 RX1 yX1_all wsX1_all) := goodIn_app (goodIn_of _ (by decide +kernel)) ggX1_laysShares_X1_all
theorem dX1_laysShares_0 : decode cX1_laysShares 0 = .ok (.aload_n 0, 1) := by decide +kernel
theorem dX1_laysShares_1 : decode cX1_laysShares 1 = .ok (.invokevirtual 52, 3) := by decide +kernel
theorem dX1_laysShares_4 : decode cX1_laysShares 4 = .ok (.istore_n 1, 1) := by decide +kernel
theorem dX1_laysShares_5 : decode cX1_laysShares 5 = .ok (.aload_n 0, 1) := by decide +kernel
theorem dX1_laysShares_6 : decode cX1_laysShares 6 = .ok (.getfield 22, 3) := by decide +kernel
theorem dX1_laysShares_9 : decode cX1_laysShares 9 = .ok (.aload_n 0, 1) := by decide +kernel
theorem dX1_laysShares_10 : decode cX1_laysShares 10 = .ok (.getfield 63, 3) := by decide +kernel
theorem dX1_laysShares_13 : decode cX1_laysShares 13 = .ok (.iaload, 1) := by decide +kernel
theorem dX1_laysShares_14 : decode cX1_laysShares 14 = .ok (.istore_n 2, 1) := by decide +kernel
theorem dX1_laysShares_15 : decode cX1_laysShares 15 = .ok (.iload_n 2, 1) := by decide +kernel
theorem dX1_laysShares_16 : decode cX1_laysShares 16 = .ok (.istore_n 3, 1) := by decide +kernel
theorem dX1_laysShares_17 : decode cX1_laysShares 17 = .ok (.iconst 0, 1) := by decide +kernel
theorem dX1_laysShares_18 : decode cX1_laysShares 18 = .ok (.istore 4, 2) := by decide +kernel
theorem dX1_laysShares_20 : decode cX1_laysShares 20 = .ok (.iload 4, 2) := by decide +kernel
theorem dX1_laysShares_22 : decode cX1_laysShares 22 = .ok (.bipush 8, 2) := by decide +kernel
theorem dX1_laysShares_24 : decode cX1_laysShares 24 = .ok (.if_icmp .ge 41, 3) := by decide +kernel
theorem dX1_laysShares_27 : decode cX1_laysShares 27 = .ok (.aload_n 0, 1) := by decide +kernel
theorem dX1_laysShares_28 : decode cX1_laysShares 28 = .ok (.getfield 29, 3) := by decide +kernel
theorem dX1_laysShares_31 : decode cX1_laysShares 31 = .ok (.iload 4, 2) := by decide +kernel
theorem dX1_laysShares_33 : decode cX1_laysShares 33 = .ok (.iload_n 2, 1) := by decide +kernel
theorem dX1_laysShares_34 : decode cX1_laysShares 34 = .ok (.i2l, 1) := by decide +kernel
theorem dX1_laysShares_35 : decode cX1_laysShares 35 = .ok (.aload_n 0, 1) := by decide +kernel
theorem dX1_laysShares_36 : decode cX1_laysShares 36 = .ok (.getfield 7, 3) := by decide +kernel
theorem dX1_laysShares_39 : decode cX1_laysShares 39 = .ok (.iload 4, 2) := by decide +kernel
theorem dX1_laysShares_41 : decode cX1_laysShares 41 = .ok (.iaload, 1) := by decide +kernel
theorem dX1_laysShares_42 : decode cX1_laysShares 42 = .ok (.i2l, 1) := by decide +kernel
theorem dX1_laysShares_43 : decode cX1_laysShares 43 = .ok (.lmul, 1) := by decide +kernel
theorem dX1_laysShares_44 : decode cX1_laysShares 44 = .ok (.iload_n 1, 1) := by decide +kernel
theorem dX1_laysShares_45 : decode cX1_laysShares 45 = .ok (.i2l, 1) := by decide +kernel
theorem dX1_laysShares_46 : decode cX1_laysShares 46 = .ok (.ldiv, 1) := by decide +kernel
theorem dX1_laysShares_47 : decode cX1_laysShares 47 = .ok (.l2i, 1) := by decide +kernel
theorem dX1_laysShares_48 : decode cX1_laysShares 48 = .ok (.iastore, 1) := by decide +kernel
theorem dX1_laysShares_49 : decode cX1_laysShares 49 = .ok (.iload_n 3, 1) := by decide +kernel
theorem dX1_laysShares_50 : decode cX1_laysShares 50 = .ok (.aload_n 0, 1) := by decide +kernel
theorem dX1_laysShares_51 : decode cX1_laysShares 51 = .ok (.getfield 29, 3) := by decide +kernel
theorem dX1_laysShares_54 : decode cX1_laysShares 54 = .ok (.iload 4, 2) := by decide +kernel
theorem dX1_laysShares_56 : decode cX1_laysShares 56 = .ok (.iaload, 1) := by decide +kernel
theorem dX1_laysShares_57 : decode cX1_laysShares 57 = .ok (.isub, 1) := by decide +kernel
theorem dX1_laysShares_58 : decode cX1_laysShares 58 = .ok (.istore_n 3, 1) := by decide +kernel
theorem dX1_laysShares_59 : decode cX1_laysShares 59 = .ok (.iinc 4 1, 3) := by decide +kernel
theorem dX1_laysShares_62 : decode cX1_laysShares 62 = .ok (.goto (-42), 3) := by decide +kernel
theorem dX1_laysShares_65 : decode cX1_laysShares 65 = .ok (.iconst 0, 1) := by decide +kernel
theorem dX1_laysShares_66 : decode cX1_laysShares 66 = .ok (.istore 4, 2) := by decide +kernel
theorem dX1_laysShares_68 : decode cX1_laysShares 68 = .ok (.iload 4, 2) := by decide +kernel
theorem dX1_laysShares_70 : decode cX1_laysShares 70 = .ok (.bipush 8, 2) := by decide +kernel
theorem dX1_laysShares_72 : decode cX1_laysShares 72 = .ok (.if_icmp .ge 54, 3) := by decide +kernel
theorem dX1_laysShares_75 : decode cX1_laysShares 75 = .ok (.iload_n 3, 1) := by decide +kernel
theorem dX1_laysShares_76 : decode cX1_laysShares 76 = .ok (.ifCond .le 24, 3) := by decide +kernel
theorem dX1_laysShares_79 : decode cX1_laysShares 79 = .ok (.aload_n 0, 1) := by decide +kernel
theorem dX1_laysShares_80 : decode cX1_laysShares 80 = .ok (.getfield 7, 3) := by decide +kernel
theorem dX1_laysShares_83 : decode cX1_laysShares 83 = .ok (.iload 4, 2) := by decide +kernel
theorem dX1_laysShares_85 : decode cX1_laysShares 85 = .ok (.iaload, 1) := by decide +kernel
theorem dX1_laysShares_86 : decode cX1_laysShares 86 = .ok (.aload_n 0, 1) := by decide +kernel
theorem dX1_laysShares_87 : decode cX1_laysShares 87 = .ok (.getfield 29, 3) := by decide +kernel
theorem dX1_laysShares_90 : decode cX1_laysShares 90 = .ok (.iload 4, 2) := by decide +kernel
theorem dX1_laysShares_92 : decode cX1_laysShares 92 = .ok (.iaload, 1) := by decide +kernel
theorem dX1_laysShares_93 : decode cX1_laysShares 93 = .ok (.if_icmp .le 7, 3) := by decide +kernel
theorem dX1_laysShares_96 : decode cX1_laysShares 96 = .ok (.iconst 1, 1) := by decide +kernel
theorem dX1_laysShares_97 : decode cX1_laysShares 97 = .ok (.goto 4, 3) := by decide +kernel
theorem dX1_laysShares_100 : decode cX1_laysShares 100 = .ok (.iconst 0, 1) := by decide +kernel
theorem dX1_laysShares_101 : decode cX1_laysShares 101 = .ok (.istore 5, 2) := by decide +kernel
theorem dX1_laysShares_103 : decode cX1_laysShares 103 = .ok (.aload_n 0, 1) := by decide +kernel
theorem dX1_laysShares_104 : decode cX1_laysShares 104 = .ok (.getfield 29, 3) := by decide +kernel
theorem dX1_laysShares_107 : decode cX1_laysShares 107 = .ok (.iload 4, 2) := by decide +kernel
theorem dX1_laysShares_109 : decode cX1_laysShares 109 = .ok (.dup2, 1) := by decide +kernel
theorem dX1_laysShares_110 : decode cX1_laysShares 110 = .ok (.iaload, 1) := by decide +kernel
theorem dX1_laysShares_111 : decode cX1_laysShares 111 = .ok (.iload 5, 2) := by decide +kernel
theorem dX1_laysShares_113 : decode cX1_laysShares 113 = .ok (.iadd, 1) := by decide +kernel
theorem dX1_laysShares_114 : decode cX1_laysShares 114 = .ok (.iastore, 1) := by decide +kernel
theorem dX1_laysShares_115 : decode cX1_laysShares 115 = .ok (.iload_n 3, 1) := by decide +kernel
theorem dX1_laysShares_116 : decode cX1_laysShares 116 = .ok (.iload 5, 2) := by decide +kernel
theorem dX1_laysShares_118 : decode cX1_laysShares 118 = .ok (.isub, 1) := by decide +kernel
theorem dX1_laysShares_119 : decode cX1_laysShares 119 = .ok (.istore_n 3, 1) := by decide +kernel
theorem dX1_laysShares_120 : decode cX1_laysShares 120 = .ok (.iinc 4 1, 3) := by decide +kernel
theorem dX1_laysShares_123 : decode cX1_laysShares 123 = .ok (.goto (-55), 3) := by decide +kernel
theorem dX1_laysShares_126 : decode cX1_laysShares 126 = .ok (.return_, 1) := by decide +kernel
set_option maxRecDepth 20000 in
theorem ggX1_share_X1_isGiver : GoodIn wsX1_share wsX1_isGiver := goodIn_r _ [5, 6, 7, 4, 8] (by decide +kernel) (by decide +kernel)
set_option maxRecDepth 20000 in
theorem gX1_share_X1_isGiver : GoodIn wsX1_share (va_wsS RX1 40 yX1_isGiver wsX1_isGiver) := goodIn_app (goodIn_of _ (by decide +kernel)) ggX1_share_X1_isGiver
set_option maxRecDepth 20000 in
theorem ggX1_share_X1_canGoOut : GoodIn wsX1_share wsX1_canGoOut := goodIn_r _ [12, 13, 14, 15, 16, 17, 4, 18, 19, 20, 21, 22, 23, 24, 34, 35, 36, 37, 38, 39, 40, 41, 42, 43, 44, 45] (by decide +kernel) (by decide +kernel)
set_option maxRecDepth 20000 in
theorem gX1_share_X1_canGoOut : GoodIn wsX1_share (wsV RX1 77 RX1 yX1_canGoOut wsX1_canGoOut) := goodIn_app (goodIn_of _ (by decide +kernel)) ggX1_share_X1_canGoOut
set_option maxRecDepth 20000 in
theorem ggX1_share_X1_goes : GoodIn wsX1_share wsX1_goes := goodIn_r _ [28, 29, 34, 35, 36, 37, 38, 39, 40, 41, 42, 43, 44, 45] (by decide +kernel) (by decide +kernel)
set_option maxRecDepth 20000 in
theorem gX1_share_X1_goes : GoodIn wsX1_share (wsV RX1 45 RX1 yX1_goes wsX1_goes) := goodIn_app (goodIn_of _ (by decide +kernel)) ggX1_share_X1_goes
set_option maxRecDepth 20000 in
theorem ggX1_share_X1_laysShares : GoodIn wsX1_share wsX1_laysShares := goodIn_r _ [33, 13, 14, 1, 24, 20, 21, 22, 4, 23, 34, 35, 36, 37, 38, 39, 40, 41, 42, 43, 44, 45] (by decide +kernel) (by decide +kernel)
set_option maxRecDepth 20000 in
theorem gX1_share_X1_laysShares : GoodIn wsX1_share (wsV RX1 80 RX1 yX1_laysShares wsX1_laysShares) := goodIn_app (goodIn_of _ (by decide +kernel)) ggX1_share_X1_laysShares
theorem dX1_share_0 : decode cX1_share 0 = .ok (.aload_n 0, 1) := by decide +kernel
theorem dX1_share_1 : decode cX1_share 1 = .ok (.iload_n 1, 1) := by decide +kernel
theorem dX1_share_2 : decode cX1_share 2 = .ok (.invokestatic 40, 3) := by decide +kernel
theorem dX1_share_5 : decode cX1_share 5 = .ok (.ifCond .ne 7, 3) := by decide +kernel
theorem dX1_share_8 : decode cX1_share 8 = .ok (.iconst 1, 1) := by decide +kernel
theorem dX1_share_9 : decode cX1_share 9 = .ok (.goto 15, 3) := by decide +kernel
theorem dX1_share_12 : decode cX1_share 12 = .ok (.aload_n 0, 1) := by decide +kernel
theorem dX1_share_13 : decode cX1_share 13 = .ok (.invokevirtual 77, 3) := by decide +kernel
theorem dX1_share_16 : decode cX1_share 16 = .ok (.ifCond .eq 7, 3) := by decide +kernel
theorem dX1_share_19 : decode cX1_share 19 = .ok (.iconst 0, 1) := by decide +kernel
theorem dX1_share_20 : decode cX1_share 20 = .ok (.goto 4, 3) := by decide +kernel
theorem dX1_share_23 : decode cX1_share 23 = .ok (.iconst 2, 1) := by decide +kernel
theorem dX1_share_24 : decode cX1_share 24 = .ok (.invokevirtual 45, 3) := by decide +kernel
theorem dX1_share_27 : decode cX1_share 27 = .ok (.ifCond .ne 5, 3) := by decide +kernel
theorem dX1_share_30 : decode cX1_share 30 = .ok (.iconst 0, 1) := by decide +kernel
theorem dX1_share_31 : decode cX1_share 31 = .ok (.ireturn, 1) := by decide +kernel
theorem dX1_share_32 : decode cX1_share 32 = .ok (.aload_n 0, 1) := by decide +kernel
theorem dX1_share_33 : decode cX1_share 33 = .ok (.invokevirtual 80, 3) := by decide +kernel
theorem dX1_share_36 : decode cX1_share 36 = .ok (.aload_n 0, 1) := by decide +kernel
theorem dX1_share_37 : decode cX1_share 37 = .ok (.getfield 29, 3) := by decide +kernel
theorem dX1_share_40 : decode cX1_share 40 = .ok (.iload_n 1, 1) := by decide +kernel
theorem dX1_share_41 : decode cX1_share 41 = .ok (.iaload, 1) := by decide +kernel
theorem dX1_share_42 : decode cX1_share 42 = .ok (.ireturn, 1) := by decide +kernel
theorem dX1_root_0 : decode cX1_root 0 = .ok (.iconst 0, 1) := by decide +kernel
theorem dX1_root_1 : decode cX1_root 1 = .ok (.istore_n 1, 1) := by decide +kernel
theorem dX1_root_2 : decode cX1_root 2 = .ok (.iload_n 1, 1) := by decide +kernel
theorem dX1_root_3 : decode cX1_root 3 = .ok (.iconst 1, 1) := by decide +kernel
theorem dX1_root_4 : decode cX1_root 4 = .ok (.iadd, 1) := by decide +kernel
theorem dX1_root_5 : decode cX1_root 5 = .ok (.iload_n 1, 1) := by decide +kernel
theorem dX1_root_6 : decode cX1_root 6 = .ok (.iconst 1, 1) := by decide +kernel
theorem dX1_root_7 : decode cX1_root 7 = .ok (.iadd, 1) := by decide +kernel
theorem dX1_root_8 : decode cX1_root 8 = .ok (.imul, 1) := by decide +kernel
theorem dX1_root_9 : decode cX1_root 9 = .ok (.iload_n 0, 1) := by decide +kernel
theorem dX1_root_10 : decode cX1_root 10 = .ok (.if_icmp .gt 9, 3) := by decide +kernel
theorem dX1_root_13 : decode cX1_root 13 = .ok (.iinc 1 1, 3) := by decide +kernel
theorem dX1_root_16 : decode cX1_root 16 = .ok (.goto (-14), 3) := by decide +kernel
theorem dX1_root_19 : decode cX1_root 19 = .ok (.iload_n 1, 1) := by decide +kernel
theorem dX1_root_20 : decode cX1_root 20 = .ok (.ireturn, 1) := by decide +kernel
set_option maxRecDepth 20000 in
theorem ggX1_matched_X1_root : GoodIn wsX1_matched wsX1_root := goodIn_r _ [9] (by decide +kernel) (by decide +kernel)
set_option maxRecDepth 20000 in
theorem gX1_matched_X1_root : GoodIn wsX1_matched (va_wsS RX1 83 yX1_root wsX1_root) := goodIn_app (goodIn_of _ (by decide +kernel)) ggX1_matched_X1_root
theorem dX1_matched_0 : decode cX1_matched 0 = .ok (.iconst 0, 1) := by decide +kernel
theorem dX1_matched_1 : decode cX1_matched 1 = .ok (.istore_n 1, 1) := by decide +kernel
theorem dX1_matched_2 : decode cX1_matched 2 = .ok (.iconst 0, 1) := by decide +kernel
theorem dX1_matched_3 : decode cX1_matched 3 = .ok (.istore_n 2, 1) := by decide +kernel
theorem dX1_matched_4 : decode cX1_matched 4 = .ok (.iload_n 2, 1) := by decide +kernel
theorem dX1_matched_5 : decode cX1_matched 5 = .ok (.bipush 8, 2) := by decide +kernel
theorem dX1_matched_7 : decode cX1_matched 7 = .ok (.if_icmp .ge 59, 3) := by decide +kernel
theorem dX1_matched_10 : decode cX1_matched 10 = .ok (.iconst 0, 1) := by decide +kernel
theorem dX1_matched_11 : decode cX1_matched 11 = .ok (.istore_n 3, 1) := by decide +kernel
theorem dX1_matched_12 : decode cX1_matched 12 = .ok (.iconst 0, 1) := by decide +kernel
theorem dX1_matched_13 : decode cX1_matched 13 = .ok (.istore 4, 2) := by decide +kernel
theorem dX1_matched_15 : decode cX1_matched 15 = .ok (.iload 4, 2) := by decide +kernel
theorem dX1_matched_17 : decode cX1_matched 17 = .ok (.bipush 8, 2) := by decide +kernel
theorem dX1_matched_19 : decode cX1_matched 19 = .ok (.if_icmp .ge 34, 3) := by decide +kernel
theorem dX1_matched_22 : decode cX1_matched 22 = .ok (.iload_n 3, 1) := by decide +kernel
theorem dX1_matched_23 : decode cX1_matched 23 = .ok (.aload_n 0, 1) := by decide +kernel
theorem dX1_matched_24 : decode cX1_matched 24 = .ok (.getfield 16, 3) := by decide +kernel
theorem dX1_matched_27 : decode cX1_matched 27 = .ok (.iload 4, 2) := by decide +kernel
theorem dX1_matched_29 : decode cX1_matched 29 = .ok (.iaload, 1) := by decide +kernel
theorem dX1_matched_30 : decode cX1_matched 30 = .ok (.iload_n 2, 1) := by decide +kernel
theorem dX1_matched_31 : decode cX1_matched 31 = .ok (.if_icmp .ne 13, 3) := by decide +kernel
theorem dX1_matched_34 : decode cX1_matched 34 = .ok (.aload_n 0, 1) := by decide +kernel
theorem dX1_matched_35 : decode cX1_matched 35 = .ok (.getfield 29, 3) := by decide +kernel
theorem dX1_matched_38 : decode cX1_matched 38 = .ok (.iload 4, 2) := by decide +kernel
theorem dX1_matched_40 : decode cX1_matched 40 = .ok (.iaload, 1) := by decide +kernel
theorem dX1_matched_41 : decode cX1_matched 41 = .ok (.goto 4, 3) := by decide +kernel
theorem dX1_matched_44 : decode cX1_matched 44 = .ok (.iconst 0, 1) := by decide +kernel
theorem dX1_matched_45 : decode cX1_matched 45 = .ok (.iadd, 1) := by decide +kernel
theorem dX1_matched_46 : decode cX1_matched 46 = .ok (.istore_n 3, 1) := by decide +kernel
theorem dX1_matched_47 : decode cX1_matched 47 = .ok (.iinc 4 1, 3) := by decide +kernel
theorem dX1_matched_50 : decode cX1_matched 50 = .ok (.goto (-35), 3) := by decide +kernel
theorem dX1_matched_53 : decode cX1_matched 53 = .ok (.iload_n 1, 1) := by decide +kernel
theorem dX1_matched_54 : decode cX1_matched 54 = .ok (.iload_n 3, 1) := by decide +kernel
theorem dX1_matched_55 : decode cX1_matched 55 = .ok (.invokestatic 83, 3) := by decide +kernel
theorem dX1_matched_58 : decode cX1_matched 58 = .ok (.iadd, 1) := by decide +kernel
theorem dX1_matched_59 : decode cX1_matched 59 = .ok (.istore_n 1, 1) := by decide +kernel
theorem dX1_matched_60 : decode cX1_matched 60 = .ok (.iinc 2 1, 3) := by decide +kernel
theorem dX1_matched_63 : decode cX1_matched 63 = .ok (.goto (-59), 3) := by decide +kernel
theorem dX1_matched_66 : decode cX1_matched 66 = .ok (.iload_n 1, 1) := by decide +kernel
theorem dX1_matched_67 : decode cX1_matched 67 = .ok (.iload_n 1, 1) := by decide +kernel
theorem dX1_matched_68 : decode cX1_matched 68 = .ok (.imul, 1) := by decide +kernel
theorem dX1_matched_69 : decode cX1_matched 69 = .ok (.aload_n 0, 1) := by decide +kernel
theorem dX1_matched_70 : decode cX1_matched 70 = .ok (.getfield 22, 3) := by decide +kernel
theorem dX1_matched_73 : decode cX1_matched 73 = .ok (.aload_n 0, 1) := by decide +kernel
theorem dX1_matched_74 : decode cX1_matched 74 = .ok (.getfield 63, 3) := by decide +kernel
theorem dX1_matched_77 : decode cX1_matched 77 = .ok (.iaload, 1) := by decide +kernel
theorem dX1_matched_78 : decode cX1_matched 78 = .ok (.isub, 1) := by decide +kernel
theorem dX1_matched_79 : decode cX1_matched 79 = .ok (.istore_n 2, 1) := by decide +kernel
theorem dX1_matched_80 : decode cX1_matched 80 = .ok (.iload_n 2, 1) := by decide +kernel
theorem dX1_matched_81 : decode cX1_matched 81 = .ok (.ifCond .ge 7, 3) := by decide +kernel
theorem dX1_matched_84 : decode cX1_matched 84 = .ok (.iconst 0, 1) := by decide +kernel
theorem dX1_matched_85 : decode cX1_matched 85 = .ok (.goto 19, 3) := by decide +kernel
theorem dX1_matched_88 : decode cX1_matched 88 = .ok (.iload_n 2, 1) := by decide +kernel
theorem dX1_matched_89 : decode cX1_matched 89 = .ok (.aload_n 0, 1) := by decide +kernel
theorem dX1_matched_90 : decode cX1_matched 90 = .ok (.getfield 56, 3) := by decide +kernel
theorem dX1_matched_93 : decode cX1_matched 93 = .ok (.if_icmp .le 10, 3) := by decide +kernel
theorem dX1_matched_96 : decode cX1_matched 96 = .ok (.aload_n 0, 1) := by decide +kernel
theorem dX1_matched_97 : decode cX1_matched 97 = .ok (.getfield 56, 3) := by decide +kernel
theorem dX1_matched_100 : decode cX1_matched 100 = .ok (.goto 4, 3) := by decide +kernel
theorem dX1_matched_103 : decode cX1_matched 103 = .ok (.iload_n 2, 1) := by decide +kernel
theorem dX1_matched_104 : decode cX1_matched 104 = .ok (.ireturn, 1) := by decide +kernel
set_option maxRecDepth 20000 in
theorem ggX1_matchNow_X1_canGoOut : GoodIn wsX1_matchNow wsX1_canGoOut := goodIn_r _ [5, 6, 7, 8, 9, 10, 4, 11, 12, 13, 14, 15, 16, 17, 37, 38, 39, 40, 41, 42, 43, 44, 45, 46, 47, 48] (by decide +kernel) (by decide +kernel)
set_option maxRecDepth 20000 in
theorem gX1_matchNow_X1_canGoOut : GoodIn wsX1_matchNow (wsV RX1 77 RX1 yX1_canGoOut wsX1_canGoOut) := goodIn_app (goodIn_of _ (by decide +kernel)) ggX1_matchNow_X1_canGoOut
set_option maxRecDepth 20000 in
theorem ggX1_matchNow_X1_goes : GoodIn wsX1_matchNow wsX1_goes := goodIn_r _ [21, 22, 37, 38, 39, 40, 41, 42, 43, 44, 45, 46, 47, 48] (by decide +kernel) (by decide +kernel)
set_option maxRecDepth 20000 in
theorem gX1_matchNow_X1_goes : GoodIn wsX1_matchNow (wsV RX1 45 RX1 yX1_goes wsX1_goes) := goodIn_app (goodIn_of _ (by decide +kernel)) ggX1_matchNow_X1_goes
set_option maxRecDepth 20000 in
theorem ggX1_matchNow_X1_laysShares : GoodIn wsX1_matchNow wsX1_laysShares := goodIn_r _ [26, 6, 7, 27, 17, 13, 14, 15, 4, 16, 37, 38, 39, 40, 41, 42, 43, 44, 45, 46, 47, 48] (by decide +kernel) (by decide +kernel)
set_option maxRecDepth 20000 in
theorem gX1_matchNow_X1_laysShares : GoodIn wsX1_matchNow (wsV RX1 80 RX1 yX1_laysShares wsX1_laysShares) := goodIn_app (goodIn_of _ (by decide +kernel)) ggX1_matchNow_X1_laysShares
set_option maxRecDepth 20000 in
theorem ggX1_matchNow_X1_matched : GoodIn wsX1_matchNow wsX1_matched := goodIn_r _ [31, 32, 27, 6, 7, 33, 34, 35, 4, 36, 37, 38, 39, 40, 41, 42, 43, 44, 45, 46, 47, 48] (by decide +kernel) (by decide +kernel)
set_option maxRecDepth 20000 in
theorem gX1_matchNow_X1_matched : GoodIn wsX1_matchNow (wsV RX1 86 RX1 yX1_matched wsX1_matched) := goodIn_app (goodIn_of _ (by decide +kernel)) ggX1_matchNow_X1_matched
theorem dX1_matchNow_0 : decode cX1_matchNow 0 = .ok (.aload_n 0, 1) := by decide +kernel
theorem dX1_matchNow_1 : decode cX1_matchNow 1 = .ok (.aload_n 0, 1) := by decide +kernel
theorem dX1_matchNow_2 : decode cX1_matchNow 2 = .ok (.invokevirtual 77, 3) := by decide +kernel
theorem dX1_matchNow_5 : decode cX1_matchNow 5 = .ok (.ifCond .eq 7, 3) := by decide +kernel
theorem dX1_matchNow_8 : decode cX1_matchNow 8 = .ok (.iconst 0, 1) := by decide +kernel
theorem dX1_matchNow_9 : decode cX1_matchNow 9 = .ok (.goto 4, 3) := by decide +kernel
theorem dX1_matchNow_12 : decode cX1_matchNow 12 = .ok (.iconst 1, 1) := by decide +kernel
theorem dX1_matchNow_13 : decode cX1_matchNow 13 = .ok (.invokevirtual 45, 3) := by decide +kernel
theorem dX1_matchNow_16 : decode cX1_matchNow 16 = .ok (.ifCond .ne 5, 3) := by decide +kernel
theorem dX1_matchNow_19 : decode cX1_matchNow 19 = .ok (.iconst 0, 1) := by decide +kernel
theorem dX1_matchNow_20 : decode cX1_matchNow 20 = .ok (.ireturn, 1) := by decide +kernel
theorem dX1_matchNow_21 : decode cX1_matchNow 21 = .ok (.aload_n 0, 1) := by decide +kernel
theorem dX1_matchNow_22 : decode cX1_matchNow 22 = .ok (.invokevirtual 80, 3) := by decide +kernel
theorem dX1_matchNow_25 : decode cX1_matchNow 25 = .ok (.aload_n 0, 1) := by decide +kernel
theorem dX1_matchNow_26 : decode cX1_matchNow 26 = .ok (.invokevirtual 86, 3) := by decide +kernel
theorem dX1_matchNow_29 : decode cX1_matchNow 29 = .ok (.ireturn, 1) := by decide +kernel
set_option maxRecDepth 20000 in
theorem ggX1_match_X1_matchNow : GoodIn wsX1_match wsX1_matchNow := goodIn_r _ [5, 6, 7, 8, 4, 9, 10, 11, 12, 13, 14, 15, 16, 17, 18, 19, 20, 21, 22, 23, 24, 25, 26, 27, 28, 29, 30, 31, 32, 33, 34, 35, 36, 37, 38, 39, 40, 41, 42, 43, 44, 45, 46, 47, 48, 49, 50, 51, 52] (by decide +kernel) (by decide +kernel)
set_option maxRecDepth 20000 in
theorem gX1_match_X1_matchNow : GoodIn wsX1_match (wsV RX1 89 RX1 yX1_matchNow wsX1_matchNow) := goodIn_app (goodIn_of _ (by decide +kernel)) ggX1_match_X1_matchNow
theorem dX1_match_0 : decode cX1_match 0 = .ok (.aload_n 0, 1) := by decide +kernel
theorem dX1_match_1 : decode cX1_match 1 = .ok (.invokevirtual 89, 3) := by decide +kernel
theorem dX1_match_4 : decode cX1_match 4 = .ok (.ireturn, 1) := by decide +kernel
set_option maxRecDepth 20000 in
theorem ggX1_matchByPairs_X1_matchNow : GoodIn wsX1_matchByPairs wsX1_matchNow := goodIn_r _ [5, 6, 7, 8, 4, 9, 10, 11, 12, 13, 14, 15, 16, 17, 18, 19, 20, 21, 22, 23, 24, 25, 26, 27, 28, 29, 30, 31, 32, 33, 34, 35, 36, 37, 38, 39, 40, 41, 42, 43, 44, 45, 46, 47, 48, 49, 50, 51, 52] (by decide +kernel) (by decide +kernel)
set_option maxRecDepth 20000 in
theorem gX1_matchByPairs_X1_matchNow : GoodIn wsX1_matchByPairs (wsV RX1 89 RX1 yX1_matchNow wsX1_matchNow) := goodIn_app (goodIn_of _ (by decide +kernel)) ggX1_matchByPairs_X1_matchNow
theorem dX1_matchByPairs_0 : decode cX1_matchByPairs 0 = .ok (.aload_n 0, 1) := by decide +kernel
theorem dX1_matchByPairs_1 : decode cX1_matchByPairs 1 = .ok (.invokevirtual 89, 3) := by decide +kernel
theorem dX1_matchByPairs_4 : decode cX1_matchByPairs 4 = .ok (.ireturn, 1) := by decide +kernel
set_option maxRecDepth 20000 in
theorem ggX1_release_X1_canGoOut : GoodIn wsX1_release wsX1_canGoOut := goodIn_r _ [13, 3, 2, 14, 15, 16, 12, 17, 18, 19, 20, 21, 22, 4, 49, 50, 51, 52, 53, 54, 55, 56, 57, 58, 59, 60] (by decide +kernel) (by decide +kernel)
set_option maxRecDepth 20000 in
theorem gX1_release_X1_canGoOut : GoodIn wsX1_release (wsV RX1 77 RX1 yX1_canGoOut wsX1_canGoOut) := goodIn_app (goodIn_of _ (by decide +kernel)) ggX1_release_X1_canGoOut
set_option maxRecDepth 20000 in
theorem ggX1_release_X1_weightOf : GoodIn wsX1_release wsX1_weightOf := goodIn_r _ [26, 6, 4, 27, 28, 29, 12, 30, 31, 49, 50, 51, 52, 53, 54, 55, 56, 57, 58, 59, 60] (by decide +kernel) (by decide +kernel)
set_option maxRecDepth 20000 in
theorem gX1_release_X1_weightOf : GoodIn wsX1_release (wsV RX1 74 RX1 yX1_weightOf wsX1_weightOf) := goodIn_app (goodIn_of _ (by decide +kernel)) ggX1_release_X1_weightOf
set_option maxRecDepth 20000 in
theorem ggX1_release_X1_all : GoodIn wsX1_release wsX1_all := goodIn_r _ [22, 4, 49, 50, 51, 52, 53, 54, 55, 56, 57, 58, 59, 60] (by decide +kernel) (by decide +kernel)
set_option maxRecDepth 20000 in
theorem gX1_release_X1_all : GoodIn wsX1_release (wsV RX1 52 RX1 yX1_all wsX1_all) := goodIn_app (goodIn_of _ (by decide +kernel)) ggX1_release_X1_all
set_option maxRecDepth 20000 in
theorem ggX1_release_X1_goes : GoodIn wsX1_release wsX1_goes := goodIn_r _ [35, 36, 49, 50, 51, 52, 53, 54, 55, 56, 57, 58, 59, 60] (by decide +kernel) (by decide +kernel)
set_option maxRecDepth 20000 in
theorem gX1_release_X1_goes : GoodIn wsX1_release (wsV RX1 45 RX1 yX1_goes wsX1_goes) := goodIn_app (goodIn_of _ (by decide +kernel)) ggX1_release_X1_goes
set_option maxRecDepth 20000 in
theorem ggX1_release_X1_laysShares : GoodIn wsX1_release wsX1_laysShares := goodIn_r _ [40, 3, 2, 5, 4, 19, 20, 21, 12, 22, 49, 50, 51, 52, 53, 54, 55, 56, 57, 58, 59, 60] (by decide +kernel) (by decide +kernel)
set_option maxRecDepth 20000 in
theorem gX1_release_X1_laysShares : GoodIn wsX1_release (wsV RX1 80 RX1 yX1_laysShares wsX1_laysShares) := goodIn_app (goodIn_of _ (by decide +kernel)) ggX1_release_X1_laysShares
set_option maxRecDepth 20000 in
theorem ggX1_release_X1_matched : GoodIn wsX1_release wsX1_matched := goodIn_r _ [44, 45, 5, 3, 2, 7, 46, 47, 12, 48, 49, 50, 51, 52, 53, 54, 55, 56, 57, 58, 59, 60] (by decide +kernel) (by decide +kernel)
set_option maxRecDepth 20000 in
theorem gX1_release_X1_matched : GoodIn wsX1_release (wsV RX1 86 RX1 yX1_matched wsX1_matched) := goodIn_app (goodIn_of _ (by decide +kernel)) ggX1_release_X1_matched
theorem dX1_release_0 : decode cX1_release 0 = .ok (.aload_n 0, 1) := by decide +kernel
theorem dX1_release_1 : decode cX1_release 1 = .ok (.invokevirtual 77, 3) := by decide +kernel
theorem dX1_release_4 : decode cX1_release 4 = .ok (.ifCond .eq 33, 3) := by decide +kernel
theorem dX1_release_7 : decode cX1_release 7 = .ok (.aload_n 0, 1) := by decide +kernel
theorem dX1_release_8 : decode cX1_release 8 = .ok (.getfield 25, 3) := by decide +kernel
theorem dX1_release_11 : decode cX1_release 11 = .ok (.aload_n 0, 1) := by decide +kernel
theorem dX1_release_12 : decode cX1_release 12 = .ok (.getfield 63, 3) := by decide +kernel
theorem dX1_release_15 : decode cX1_release 15 = .ok (.baload, 1) := by decide +kernel
theorem dX1_release_16 : decode cX1_release 16 = .ok (.ifCond .eq 21, 3) := by decide +kernel
theorem dX1_release_19 : decode cX1_release 19 = .ok (.iconst 2, 1) := by decide +kernel
theorem dX1_release_20 : decode cX1_release 20 = .ok (.aload_n 0, 1) := by decide +kernel
theorem dX1_release_21 : decode cX1_release 21 = .ok (.iconst 1, 1) := by decide +kernel
theorem dX1_release_22 : decode cX1_release 22 = .ok (.invokevirtual 74, 3) := by decide +kernel
theorem dX1_release_25 : decode cX1_release 25 = .ok (.imul, 1) := by decide +kernel
theorem dX1_release_26 : decode cX1_release 26 = .ok (.aload_n 0, 1) := by decide +kernel
theorem dX1_release_27 : decode cX1_release 27 = .ok (.invokevirtual 52, 3) := by decide +kernel
theorem dX1_release_30 : decode cX1_release 30 = .ok (.if_icmp .le 7, 3) := by decide +kernel
theorem dX1_release_33 : decode cX1_release 33 = .ok (.iconst 1, 1) := by decide +kernel
theorem dX1_release_34 : decode cX1_release 34 = .ok (.goto 4, 3) := by decide +kernel
theorem dX1_release_37 : decode cX1_release 37 = .ok (.iconst 0, 1) := by decide +kernel
theorem dX1_release_38 : decode cX1_release 38 = .ok (.istore_n 1, 1) := by decide +kernel
theorem dX1_release_39 : decode cX1_release 39 = .ok (.aload_n 0, 1) := by decide +kernel
theorem dX1_release_40 : decode cX1_release 40 = .ok (.iload_n 1, 1) := by decide +kernel
theorem dX1_release_41 : decode cX1_release 41 = .ok (.ifCond .eq 7, 3) := by decide +kernel
theorem dX1_release_44 : decode cX1_release 44 = .ok (.iconst 0, 1) := by decide +kernel
theorem dX1_release_45 : decode cX1_release 45 = .ok (.goto 4, 3) := by decide +kernel
theorem dX1_release_48 : decode cX1_release 48 = .ok (.iconst 1, 1) := by decide +kernel
theorem dX1_release_49 : decode cX1_release 49 = .ok (.invokevirtual 45, 3) := by decide +kernel
theorem dX1_release_52 : decode cX1_release 52 = .ok (.ifCond .ne 5, 3) := by decide +kernel
theorem dX1_release_55 : decode cX1_release 55 = .ok (.iconst 0, 1) := by decide +kernel
theorem dX1_release_56 : decode cX1_release 56 = .ok (.ireturn, 1) := by decide +kernel
theorem dX1_release_57 : decode cX1_release 57 = .ok (.aload_n 0, 1) := by decide +kernel
theorem dX1_release_58 : decode cX1_release 58 = .ok (.invokevirtual 80, 3) := by decide +kernel
theorem dX1_release_61 : decode cX1_release 61 = .ok (.aload_n 0, 1) := by decide +kernel
theorem dX1_release_62 : decode cX1_release 62 = .ok (.invokevirtual 86, 3) := by decide +kernel
theorem dX1_release_65 : decode cX1_release 65 = .ok (.istore_n 2, 1) := by decide +kernel
theorem dX1_release_66 : decode cX1_release 66 = .ok (.aload_n 0, 1) := by decide +kernel
theorem dX1_release_67 : decode cX1_release 67 = .ok (.getfield 22, 3) := by decide +kernel
theorem dX1_release_70 : decode cX1_release 70 = .ok (.aload_n 0, 1) := by decide +kernel
theorem dX1_release_71 : decode cX1_release 71 = .ok (.getfield 63, 3) := by decide +kernel
theorem dX1_release_74 : decode cX1_release 74 = .ok (.iaload, 1) := by decide +kernel
theorem dX1_release_75 : decode cX1_release 75 = .ok (.iload_n 2, 1) := by decide +kernel
theorem dX1_release_76 : decode cX1_release 76 = .ok (.iadd, 1) := by decide +kernel
theorem dX1_release_77 : decode cX1_release 77 = .ok (.istore_n 3, 1) := by decide +kernel
theorem dX1_release_78 : decode cX1_release 78 = .ok (.iconst 0, 1) := by decide +kernel
theorem dX1_release_79 : decode cX1_release 79 = .ok (.istore 4, 2) := by decide +kernel
theorem dX1_release_81 : decode cX1_release 81 = .ok (.iload 4, 2) := by decide +kernel
theorem dX1_release_83 : decode cX1_release 83 = .ok (.bipush 8, 2) := by decide +kernel
theorem dX1_release_85 : decode cX1_release 85 = .ok (.if_icmp .ge 34, 3) := by decide +kernel
theorem dX1_release_88 : decode cX1_release 88 = .ok (.aload_n 0, 1) := by decide +kernel
theorem dX1_release_89 : decode cX1_release 89 = .ok (.getfield 7, 3) := by decide +kernel
theorem dX1_release_92 : decode cX1_release 92 = .ok (.iload 4, 2) := by decide +kernel
theorem dX1_release_94 : decode cX1_release 94 = .ok (.dup2, 1) := by decide +kernel
theorem dX1_release_95 : decode cX1_release 95 = .ok (.iaload, 1) := by decide +kernel
theorem dX1_release_96 : decode cX1_release 96 = .ok (.aload_n 0, 1) := by decide +kernel
theorem dX1_release_97 : decode cX1_release 97 = .ok (.getfield 29, 3) := by decide +kernel
theorem dX1_release_100 : decode cX1_release 100 = .ok (.iload 4, 2) := by decide +kernel
theorem dX1_release_102 : decode cX1_release 102 = .ok (.iaload, 1) := by decide +kernel
theorem dX1_release_103 : decode cX1_release 103 = .ok (.isub, 1) := by decide +kernel
theorem dX1_release_104 : decode cX1_release 104 = .ok (.iastore, 1) := by decide +kernel
theorem dX1_release_105 : decode cX1_release 105 = .ok (.aload_n 0, 1) := by decide +kernel
theorem dX1_release_106 : decode cX1_release 106 = .ok (.getfield 19, 3) := by decide +kernel
theorem dX1_release_109 : decode cX1_release 109 = .ok (.iload 4, 2) := by decide +kernel
theorem dX1_release_111 : decode cX1_release 111 = .ok (.iconst 0, 1) := by decide +kernel
theorem dX1_release_112 : decode cX1_release 112 = .ok (.iastore, 1) := by decide +kernel
theorem dX1_release_113 : decode cX1_release 113 = .ok (.iinc 4 1, 3) := by decide +kernel
theorem dX1_release_116 : decode cX1_release 116 = .ok (.goto (-35), 3) := by decide +kernel
theorem dX1_release_119 : decode cX1_release 119 = .ok (.aload_n 0, 1) := by decide +kernel
theorem dX1_release_120 : decode cX1_release 120 = .ok (.dup, 1) := by decide +kernel
theorem dX1_release_121 : decode cX1_release 121 = .ok (.getfield 56, 3) := by decide +kernel
theorem dX1_release_124 : decode cX1_release 124 = .ok (.iload_n 2, 1) := by decide +kernel
theorem dX1_release_125 : decode cX1_release 125 = .ok (.isub, 1) := by decide +kernel
theorem dX1_release_126 : decode cX1_release 126 = .ok (.putfield 56, 3) := by decide +kernel
theorem dX1_release_129 : decode cX1_release 129 = .ok (.aload_n 0, 1) := by decide +kernel
theorem dX1_release_130 : decode cX1_release 130 = .ok (.dup, 1) := by decide +kernel
theorem dX1_release_131 : decode cX1_release 131 = .ok (.getfield 92, 3) := by decide +kernel
theorem dX1_release_134 : decode cX1_release 134 = .ok (.iload_n 3, 1) := by decide +kernel
theorem dX1_release_135 : decode cX1_release 135 = .ok (.iadd, 1) := by decide +kernel
theorem dX1_release_136 : decode cX1_release 136 = .ok (.putfield 92, 3) := by decide +kernel
theorem dX1_release_139 : decode cX1_release 139 = .ok (.aload_n 0, 1) := by decide +kernel
theorem dX1_release_140 : decode cX1_release 140 = .ok (.dup, 1) := by decide +kernel
theorem dX1_release_141 : decode cX1_release 141 = .ok (.getfield 63, 3) := by decide +kernel
theorem dX1_release_144 : decode cX1_release 144 = .ok (.iconst 1, 1) := by decide +kernel
theorem dX1_release_145 : decode cX1_release 145 = .ok (.iadd, 1) := by decide +kernel
theorem dX1_release_146 : decode cX1_release 146 = .ok (.putfield 63, 3) := by decide +kernel
theorem dX1_release_149 : decode cX1_release 149 = .ok (.iload_n 3, 1) := by decide +kernel
theorem dX1_release_150 : decode cX1_release 150 = .ok (.ireturn, 1) := by decide +kernel
theorem dX1_out_0 : decode cX1_out 0 = .ok (.aload_n 0, 1) := by decide +kernel
theorem dX1_out_1 : decode cX1_out 1 = .ok (.iconst 0, 1) := by decide +kernel
theorem dX1_out_2 : decode cX1_out 2 = .ok (.putfield 32, 3) := by decide +kernel
theorem dX1_out_5 : decode cX1_out 5 = .ok (.aload_n 0, 1) := by decide +kernel
theorem dX1_out_6 : decode cX1_out 6 = .ok (.getfield 92, 3) := by decide +kernel
theorem dX1_out_9 : decode cX1_out 9 = .ok (.ireturn, 1) := by decide +kernel
theorem dJ9_max_7cf53_0 : decode cJ9_max_7cf53 0 = .ok (.iload_n 0, 1) := by decide +kernel
theorem dJ9_max_7cf53_1 : decode cJ9_max_7cf53 1 = .ok (.iload_n 1, 1) := by decide +kernel
theorem dJ9_max_7cf53_2 : decode cJ9_max_7cf53 2 = .ok (.if_icmp .lt 7, 3) := by decide +kernel
theorem dJ9_max_7cf53_5 : decode cJ9_max_7cf53 5 = .ok (.iload_n 0, 1) := by decide +kernel
theorem dJ9_max_7cf53_6 : decode cJ9_max_7cf53 6 = .ok (.goto 4, 3) := by decide +kernel
theorem dJ9_max_7cf53_9 : decode cJ9_max_7cf53 9 = .ok (.iload_n 1, 1) := by decide +kernel
theorem dJ9_max_7cf53_10 : decode cJ9_max_7cf53 10 = .ok (.ireturn, 1) := by decide +kernel
theorem dJ9_min_7cf53_0 : decode cJ9_min_7cf53 0 = .ok (.iload_n 0, 1) := by decide +kernel
theorem dJ9_min_7cf53_1 : decode cJ9_min_7cf53 1 = .ok (.iload_n 1, 1) := by decide +kernel
theorem dJ9_min_7cf53_2 : decode cJ9_min_7cf53 2 = .ok (.if_icmp .gt 7, 3) := by decide +kernel
theorem dJ9_min_7cf53_5 : decode cJ9_min_7cf53 5 = .ok (.iload_n 0, 1) := by decide +kernel
theorem dJ9_min_7cf53_6 : decode cJ9_min_7cf53 6 = .ok (.goto 4, 3) := by decide +kernel
theorem dJ9_min_7cf53_9 : decode cJ9_min_7cf53 9 = .ok (.iload_n 1, 1) := by decide +kernel
theorem dJ9_min_7cf53_10 : decode cJ9_min_7cf53 10 = .ok (.ireturn, 1) := by decide +kernel
