theorem dX1_profile_7 : decode cX1_profile 7 = .ok (.if_icmp .ge 7, 3) := by decide +kernel
theorem dX1_profile_10 : decode cX1_profile 10 = .ok (.iconst 1, 1) := by decide +kernel
theorem dX1_profile_11 : decode cX1_profile 11 = .ok (.goto 4, 3) := by decide +kernel
theorem dX1_profile_14 : decode cX1_profile 14 = .ok (.iconst 0, 1) := by decide +kernel
theorem dX1_profile_15 : decode cX1_profile 15 = .ok (.invokevirtual 82, 3) := by decide +kernel
theorem dX1_profile_18 : decode cX1_profile 18 = .ok (.ifCond .ne 5, 3) := by decide +kernel
theorem dX1_profile_21 : decode cX1_profile 21 = .ok (.iconst 0, 1) := by decide +kernel
theorem dX1_profile_22 : decode cX1_profile 22 = .ok (.ireturn, 1) := by decide +kernel
theorem dX1_profile_23 : decode cX1_profile 23 = .ok (.iconst 0, 1) := by decide +kernel
theorem dX1_profile_24 : decode cX1_profile 24 = .ok (.istore_n 1, 1) := by decide +kernel
theorem dX1_profile_25 : decode cX1_profile 25 = .ok (.iload_n 1, 1) := by decide +kernel
theorem dX1_profile_26 : decode cX1_profile 26 = .ok (.iconst 3, 1) := by decide +kernel
theorem dX1_profile_27 : decode cX1_profile 27 = .ok (.if_icmp .ge 60, 3) := by decide +kernel
theorem dX1_profile_30 : decode cX1_profile 30 = .ok (.iconst 0, 1) := by decide +kernel
theorem dX1_profile_31 : decode cX1_profile 31 = .ok (.istore_n 2, 1) := by decide +kernel
theorem dX1_profile_32 : decode cX1_profile 32 = .ok (.iload_n 2, 1) := by decide +kernel
theorem dX1_profile_33 : decode cX1_profile 33 = .ok (.iconst 5, 1) := by decide +kernel
theorem dX1_profile_34 : decode cX1_profile 34 = .ok (.if_icmp .ge 31, 3) := by decide +kernel
theorem dX1_profile_37 : decode cX1_profile 37 = .ok (.aload_n 0, 1) := by decide +kernel
theorem dX1_profile_38 : decode cX1_profile 38 = .ok (.getfield 7, 3) := by decide +kernel
theorem dX1_profile_41 : decode cX1_profile 41 = .ok (.bipush 15, 2) := by decide +kernel
theorem dX1_profile_43 : decode cX1_profile 43 = .ok (.aload_n 0, 1) := by decide +kernel
theorem dX1_profile_44 : decode cX1_profile 44 = .ok (.getfield 58, 3) := by decide +kernel
theorem dX1_profile_47 : decode cX1_profile 47 = .ok (.imul, 1) := by decide +kernel
theorem dX1_profile_48 : decode cX1_profile 48 = .ok (.iconst 5, 1) := by decide +kernel
theorem dX1_profile_49 : decode cX1_profile 49 = .ok (.iload_n 1, 1) := by decide +kernel
theorem dX1_profile_50 : decode cX1_profile 50 = .ok (.imul, 1) := by decide +kernel
theorem dX1_profile_51 : decode cX1_profile 51 = .ok (.iadd, 1) := by decide +kernel
theorem dX1_profile_52 : decode cX1_profile 52 = .ok (.iload_n 2, 1) := by decide +kernel
theorem dX1_profile_53 : decode cX1_profile 53 = .ok (.iadd, 1) := by decide +kernel
theorem dX1_profile_54 : decode cX1_profile 54 = .ok (.iload_n 2, 1) := by decide +kernel
theorem dX1_profile_55 : decode cX1_profile 55 = .ok (.invokestatic 64, 3) := by decide +kernel
theorem dX1_profile_58 : decode cX1_profile 58 = .ok (.iastore, 1) := by decide +kernel
theorem dX1_profile_59 : decode cX1_profile 59 = .ok (.iinc 2 1, 3) := by decide +kernel
theorem dX1_profile_62 : decode cX1_profile 62 = .ok (.goto (-30), 3) := by decide +kernel
theorem dX1_profile_65 : decode cX1_profile 65 = .ok (.aload_n 0, 1) := by decide +kernel
theorem dX1_profile_66 : decode cX1_profile 66 = .ok (.getfield 16, 3) := by decide +kernel
theorem dX1_profile_69 : decode cX1_profile 69 = .ok (.iconst 3, 1) := by decide +kernel
theorem dX1_profile_70 : decode cX1_profile 70 = .ok (.aload_n 0, 1) := by decide +kernel
theorem dX1_profile_71 : decode cX1_profile 71 = .ok (.getfield 58, 3) := by decide +kernel
theorem dX1_profile_74 : decode cX1_profile 74 = .ok (.imul, 1) := by decide +kernel
theorem dX1_profile_75 : decode cX1_profile 75 = .ok (.iload_n 1, 1) := by decide +kernel
theorem dX1_profile_76 : decode cX1_profile 76 = .ok (.iadd, 1) := by decide +kernel
theorem dX1_profile_77 : decode cX1_profile 77 = .ok (.sipush 255, 3) := by decide +kernel
theorem dX1_profile_80 : decode cX1_profile 80 = .ok (.iastore, 1) := by decide +kernel
theorem dX1_profile_81 : decode cX1_profile 81 = .ok (.iinc 1 1, 3) := by decide +kernel
theorem dX1_profile_84 : decode cX1_profile 84 = .ok (.goto (-59), 3) := by decide +kernel
theorem dX1_profile_87 : decode cX1_profile 87 = .ok (.aload_n 0, 1) := by decide +kernel
theorem dX1_profile_88 : decode cX1_profile 88 = .ok (.dup, 1) := by decide +kernel
theorem dX1_profile_89 : decode cX1_profile 89 = .ok (.getfield 58, 3) := by decide +kernel
theorem dX1_profile_92 : decode cX1_profile 92 = .ok (.iconst 1, 1) := by decide +kernel
theorem dX1_profile_93 : decode cX1_profile 93 = .ok (.iadd, 1) := by decide +kernel
theorem dX1_profile_94 : decode cX1_profile 94 = .ok (.putfield 58, 3) := by decide +kernel
theorem dX1_profile_97 : decode cX1_profile 97 = .ok (.aload_n 0, 1) := by decide +kernel
theorem dX1_profile_98 : decode cX1_profile 98 = .ok (.getfield 58, 3) := by decide +kernel
theorem dX1_profile_101 : decode cX1_profile 101 = .ok (.iconst 1, 1) := by decide +kernel
theorem dX1_profile_102 : decode cX1_profile 102 = .ok (.isub, 1) := by decide +kernel
theorem dX1_profile_103 : decode cX1_profile 103 = .ok (.ireturn, 1) := by decide +kernel
set_option maxRecDepth 20000 in
theorem ggX1_bend_X1_isProfile : GoodIn wsX1_bend wsX1_isProfile := goodIn_r _ [6, 7, 8, 9, 5, 10, 30, 31, 32, 33, 34, 35, 36, 37, 38, 39, 40, 41, 42, 43, 44, 45] (by decide +kernel) (by decide +kernel)
set_option maxRecDepth 20000 in
theorem gX1_bend_X1_isProfile : GoodIn wsX1_bend (wsV RX1 86 RX1 yX1_isProfile wsX1_isProfile) := goodIn_app (goodIn_of _ (by decide +kernel)) ggX1_bend_X1_isProfile
set_option maxRecDepth 20000 in
theorem ggX1_bend_X1_isThird : GoodIn wsX1_bend wsX1_isThird := goodIn_r _ [13, 8, 9, 5, 10] (by decide +kernel) (by decide +kernel)
set_option maxRecDepth 20000 in
theorem gX1_bend_X1_isThird : GoodIn wsX1_bend (va_wsS RX1 90 yX1_isThird wsX1_isThird) := goodIn_app (goodIn_of _ (by decide +kernel)) ggX1_bend_X1_isThird
set_option maxRecDepth 20000 in
theorem ggX1_bend_X1_isIn : GoodIn wsX1_bend wsX1_isIn := goodIn_r _ [10] (by decide +kernel) (by decide +kernel)
set_option maxRecDepth 20000 in
theorem gX1_bend_X1_isIn : GoodIn wsX1_bend (va_wsS RX1 54 yX1_isIn wsX1_isIn) := goodIn_app (goodIn_of _ (by decide +kernel)) ggX1_bend_X1_isIn
set_option maxRecDepth 20000 in
theorem ggX1_bend_X1_isByte : GoodIn wsX1_bend wsX1_isByte := goodIn_r _ [16, 8, 9, 5, 10] (by decide +kernel) (by decide +kernel)
set_option maxRecDepth 20000 in
theorem gX1_bend_X1_isByte : GoodIn wsX1_bend (va_wsS RX1 93 yX1_isByte wsX1_isByte) := goodIn_app (goodIn_of _ (by decide +kernel)) ggX1_bend_X1_isByte
set_option maxRecDepth 20000 in
theorem ggX1_bend_X1_isHeld : GoodIn wsX1_bend wsX1_isHeld := goodIn_r _ [20, 21, 22, 23, 24, 30, 31, 32, 33, 34, 35, 36, 37, 38, 39, 40, 41, 42, 43, 44, 45] (by decide +kernel) (by decide +kernel)
set_option maxRecDepth 20000 in
theorem gX1_bend_X1_isHeld : GoodIn wsX1_bend (wsV RX1 96 RX1 yX1_isHeld wsX1_isHeld) := goodIn_app (goodIn_of _ (by decide +kernel)) ggX1_bend_X1_isHeld
set_option maxRecDepth 20000 in
theorem ggX1_bend_X1_mayAll : GoodIn wsX1_bend wsX1_mayAll := goodIn_r _ [28, 29, 30, 31, 32, 33, 34, 35, 36, 37, 38, 39, 40, 41, 42, 43, 44, 45] (by decide +kernel) (by decide +kernel)
set_option maxRecDepth 20000 in
theorem gX1_bend_X1_mayAll : GoodIn wsX1_bend (wsV RX1 99 RX1 yX1_mayAll wsX1_mayAll) := goodIn_app (goodIn_of _ (by decide +kernel)) ggX1_bend_X1_mayAll
theorem dX1_bend_0 : decode cX1_bend 0 = .ok (.aload_n 0, 1) := by decide +kernel
theorem dX1_bend_1 : decode cX1_bend 1 = .ok (.iload_n 1, 1) := by decide +kernel
theorem dX1_bend_2 : decode cX1_bend 2 = .ok (.invokevirtual 86, 3) := by decide +kernel
theorem dX1_bend_5 : decode cX1_bend 5 = .ok (.ifCond .eq 23, 3) := by decide +kernel
theorem dX1_bend_8 : decode cX1_bend 8 = .ok (.iload_n 2, 1) := by decide +kernel
theorem dX1_bend_9 : decode cX1_bend 9 = .ok (.invokestatic 90, 3) := by decide +kernel
theorem dX1_bend_12 : decode cX1_bend 12 = .ok (.ifCond .eq 16, 3) := by decide +kernel
theorem dX1_bend_15 : decode cX1_bend 15 = .ok (.iload_n 3, 1) := by decide +kernel
theorem dX1_bend_16 : decode cX1_bend 16 = .ok (.iconst 0, 1) := by decide +kernel
theorem dX1_bend_17 : decode cX1_bend 17 = .ok (.iconst 4, 1) := by decide +kernel
theorem dX1_bend_18 : decode cX1_bend 18 = .ok (.invokestatic 54, 3) := by decide +kernel
theorem dX1_bend_21 : decode cX1_bend 21 = .ok (.ifCond .eq 7, 3) := by decide +kernel
theorem dX1_bend_24 : decode cX1_bend 24 = .ok (.iconst 1, 1) := by decide +kernel
theorem dX1_bend_25 : decode cX1_bend 25 = .ok (.goto 4, 3) := by decide +kernel
theorem dX1_bend_28 : decode cX1_bend 28 = .ok (.iconst 0, 1) := by decide +kernel
theorem dX1_bend_29 : decode cX1_bend 29 = .ok (.istore 5, 2) := by decide +kernel
theorem dX1_bend_31 : decode cX1_bend 31 = .ok (.aload_n 0, 1) := by decide +kernel
theorem dX1_bend_32 : decode cX1_bend 32 = .ok (.iload 5, 2) := by decide +kernel
theorem dX1_bend_34 : decode cX1_bend 34 = .ok (.iload 4, 2) := by decide +kernel
theorem dX1_bend_36 : decode cX1_bend 36 = .ok (.invokestatic 93, 3) := by decide +kernel
theorem dX1_bend_39 : decode cX1_bend 39 = .ok (.iload 5, 2) := by decide +kernel
theorem dX1_bend_41 : decode cX1_bend 41 = .ok (.ifCond .eq 15, 3) := by decide +kernel
theorem dX1_bend_44 : decode cX1_bend 44 = .ok (.aload_n 0, 1) := by decide +kernel
theorem dX1_bend_45 : decode cX1_bend 45 = .ok (.iload_n 1, 1) := by decide +kernel
theorem dX1_bend_46 : decode cX1_bend 46 = .ok (.invokevirtual 96, 3) := by decide +kernel
theorem dX1_bend_49 : decode cX1_bend 49 = .ok (.ifCond .ne 7, 3) := by decide +kernel
theorem dX1_bend_52 : decode cX1_bend 52 = .ok (.iconst 1, 1) := by decide +kernel
theorem dX1_bend_53 : decode cX1_bend 53 = .ok (.goto 4, 3) := by decide +kernel
theorem dX1_bend_56 : decode cX1_bend 56 = .ok (.iconst 0, 1) := by decide +kernel
theorem dX1_bend_57 : decode cX1_bend 57 = .ok (.invokevirtual 99, 3) := by decide +kernel
theorem dX1_bend_60 : decode cX1_bend 60 = .ok (.ifCond .ne 5, 3) := by decide +kernel
theorem dX1_bend_63 : decode cX1_bend 63 = .ok (.iconst 0, 1) := by decide +kernel
theorem dX1_bend_64 : decode cX1_bend 64 = .ok (.ireturn, 1) := by decide +kernel
theorem dX1_bend_65 : decode cX1_bend 65 = .ok (.aload_n 0, 1) := by decide +kernel
theorem dX1_bend_66 : decode cX1_bend 66 = .ok (.getfield 7, 3) := by decide +kernel
theorem dX1_bend_69 : decode cX1_bend 69 = .ok (.bipush 15, 2) := by decide +kernel
theorem dX1_bend_71 : decode cX1_bend 71 = .ok (.iload_n 1, 1) := by decide +kernel
theorem dX1_bend_72 : decode cX1_bend 72 = .ok (.imul, 1) := by decide +kernel
theorem dX1_bend_73 : decode cX1_bend 73 = .ok (.iconst 5, 1) := by decide +kernel
theorem dX1_bend_74 : decode cX1_bend 74 = .ok (.iload_n 2, 1) := by decide +kernel
theorem dX1_bend_75 : decode cX1_bend 75 = .ok (.imul, 1) := by decide +kernel
theorem dX1_bend_76 : decode cX1_bend 76 = .ok (.iadd, 1) := by decide +kernel
theorem dX1_bend_77 : decode cX1_bend 77 = .ok (.iload_n 3, 1) := by decide +kernel
theorem dX1_bend_78 : decode cX1_bend 78 = .ok (.iadd, 1) := by decide +kernel
theorem dX1_bend_79 : decode cX1_bend 79 = .ok (.iaload, 1) := by decide +kernel
theorem dX1_bend_80 : decode cX1_bend 80 = .ok (.istore 6, 2) := by decide +kernel
theorem dX1_bend_82 : decode cX1_bend 82 = .ok (.aload_n 0, 1) := by decide +kernel
theorem dX1_bend_83 : decode cX1_bend 83 = .ok (.getfield 7, 3) := by decide +kernel
theorem dX1_bend_86 : decode cX1_bend 86 = .ok (.bipush 15, 2) := by decide +kernel
theorem dX1_bend_88 : decode cX1_bend 88 = .ok (.iload_n 1, 1) := by decide +kernel
theorem dX1_bend_89 : decode cX1_bend 89 = .ok (.imul, 1) := by decide +kernel
theorem dX1_bend_90 : decode cX1_bend 90 = .ok (.iconst 5, 1) := by decide +kernel
theorem dX1_bend_91 : decode cX1_bend 91 = .ok (.iload_n 2, 1) := by decide +kernel
theorem dX1_bend_92 : decode cX1_bend 92 = .ok (.imul, 1) := by decide +kernel
theorem dX1_bend_93 : decode cX1_bend 93 = .ok (.iadd, 1) := by decide +kernel
theorem dX1_bend_94 : decode cX1_bend 94 = .ok (.iload_n 3, 1) := by decide +kernel
theorem dX1_bend_95 : decode cX1_bend 95 = .ok (.iadd, 1) := by decide +kernel
theorem dX1_bend_96 : decode cX1_bend 96 = .ok (.iload 4, 2) := by decide +kernel
theorem dX1_bend_98 : decode cX1_bend 98 = .ok (.iastore, 1) := by decide +kernel
theorem dX1_bend_99 : decode cX1_bend 99 = .ok (.iload 6, 2) := by decide +kernel
theorem dX1_bend_101 : decode cX1_bend 101 = .ok (.ireturn, 1) := by decide +kernel
set_option maxRecDepth 20000 in
theorem ggX1_reach_X1_isProfile : GoodIn wsX1_reach wsX1_isProfile := goodIn_r _ [7, 8, 9, 10, 6, 11, 31, 32, 33, 34, 35, 36, 37, 38, 39, 40, 41, 42, 43, 44, 45, 46] (by decide +kernel) (by decide +kernel)
set_option maxRecDepth 20000 in
theorem gX1_reach_X1_isProfile : GoodIn wsX1_reach (wsV RX1 86 RX1 yX1_isProfile wsX1_isProfile) := goodIn_app (goodIn_of _ (by decide +kernel)) ggX1_reach_X1_isProfile
set_option maxRecDepth 20000 in
theorem ggX1_reach_X1_isThird : GoodIn wsX1_reach wsX1_isThird := goodIn_r _ [14, 9, 10, 6, 11] (by decide +kernel) (by decide +kernel)
set_option maxRecDepth 20000 in
theorem gX1_reach_X1_isThird : GoodIn wsX1_reach (va_wsS RX1 90 yX1_isThird wsX1_isThird) := goodIn_app (goodIn_of _ (by decide +kernel)) ggX1_reach_X1_isThird
set_option maxRecDepth 20000 in
theorem ggX1_reach_X1_isByte : GoodIn wsX1_reach wsX1_isByte := goodIn_r _ [17, 9, 10, 6, 11] (by decide +kernel) (by decide +kernel)
set_option maxRecDepth 20000 in
theorem gX1_reach_X1_isByte : GoodIn wsX1_reach (va_wsS RX1 93 yX1_isByte wsX1_isByte) := goodIn_app (goodIn_of _ (by decide +kernel)) ggX1_reach_X1_isByte
set_option maxRecDepth 20000 in
theorem ggX1_reach_X1_isIn : GoodIn wsX1_reach wsX1_isIn := goodIn_r _ [11] (by decide +kernel) (by decide +kernel)
set_option maxRecDepth 20000 in
theorem gX1_reach_X1_isIn : GoodIn wsX1_reach (va_wsS RX1 54 yX1_isIn wsX1_isIn) := goodIn_app (goodIn_of _ (by decide +kernel)) ggX1_reach_X1_isIn
set_option maxRecDepth 20000 in
theorem ggX1_reach_X1_isHeld : GoodIn wsX1_reach wsX1_isHeld := goodIn_r _ [21, 22, 23, 24, 25, 31, 32, 33, 34, 35, 36, 37, 38, 39, 40, 41, 42, 43, 44, 45, 46] (by decide +kernel) (by decide +kernel)
set_option maxRecDepth 20000 in
theorem gX1_reach_X1_isHeld : GoodIn wsX1_reach (wsV RX1 96 RX1 yX1_isHeld wsX1_isHeld) := goodIn_app (goodIn_of _ (by decide +kernel)) ggX1_reach_X1_isHeld
set_option maxRecDepth 20000 in
theorem ggX1_reach_X1_mayAll : GoodIn wsX1_reach wsX1_mayAll := goodIn_r _ [29, 30, 31, 32, 33, 34, 35, 36, 37, 38, 39, 40, 41, 42, 43, 44, 45, 46] (by decide +kernel) (by decide +kernel)
set_option maxRecDepth 20000 in
theorem gX1_reach_X1_mayAll : GoodIn wsX1_reach (wsV RX1 99 RX1 yX1_mayAll wsX1_mayAll) := goodIn_app (goodIn_of _ (by decide +kernel)) ggX1_reach_X1_mayAll
theorem dX1_reach_0 : decode cX1_reach 0 = .ok (.aload_n 0, 1) := by decide +kernel
theorem dX1_reach_1 : decode cX1_reach 1 = .ok (.iload_n 1, 1) := by decide +kernel
theorem dX1_reach_2 : decode cX1_reach 2 = .ok (.invokevirtual 86, 3) := by decide +kernel
theorem dX1_reach_5 : decode cX1_reach 5 = .ok (.ifCond .eq 14, 3) := by decide +kernel
theorem dX1_reach_8 : decode cX1_reach 8 = .ok (.iload_n 2, 1) := by decide +kernel
theorem dX1_reach_9 : decode cX1_reach 9 = .ok (.invokestatic 90, 3) := by decide +kernel
theorem dX1_reach_12 : decode cX1_reach 12 = .ok (.ifCond .eq 7, 3) := by decide +kernel
theorem dX1_reach_15 : decode cX1_reach 15 = .ok (.iconst 1, 1) := by decide +kernel
theorem dX1_reach_16 : decode cX1_reach 16 = .ok (.goto 4, 3) := by decide +kernel
theorem dX1_reach_19 : decode cX1_reach 19 = .ok (.iconst 0, 1) := by decide +kernel
theorem dX1_reach_20 : decode cX1_reach 20 = .ok (.istore 5, 2) := by decide +kernel
theorem dX1_reach_22 : decode cX1_reach 22 = .ok (.aload_n 0, 1) := by decide +kernel
theorem dX1_reach_23 : decode cX1_reach 23 = .ok (.iload 5, 2) := by decide +kernel
theorem dX1_reach_25 : decode cX1_reach 25 = .ok (.iload_n 3, 1) := by decide +kernel
theorem dX1_reach_26 : decode cX1_reach 26 = .ok (.invokestatic 93, 3) := by decide +kernel
theorem dX1_reach_29 : decode cX1_reach 29 = .ok (.ifCond .eq 19, 3) := by decide +kernel
theorem dX1_reach_32 : decode cX1_reach 32 = .ok (.iload 4, 2) := by decide +kernel
theorem dX1_reach_34 : decode cX1_reach 34 = .ok (.iload_n 3, 1) := by decide +kernel
theorem dX1_reach_35 : decode cX1_reach 35 = .ok (.sipush 255, 3) := by decide +kernel
theorem dX1_reach_38 : decode cX1_reach 38 = .ok (.invokestatic 54, 3) := by decide +kernel
theorem dX1_reach_41 : decode cX1_reach 41 = .ok (.ifCond .eq 7, 3) := by decide +kernel
theorem dX1_reach_44 : decode cX1_reach 44 = .ok (.iconst 1, 1) := by decide +kernel
theorem dX1_reach_45 : decode cX1_reach 45 = .ok (.goto 4, 3) := by decide +kernel
theorem dX1_reach_48 : decode cX1_reach 48 = .ok (.iconst 0, 1) := by decide +kernel
theorem dX1_reach_49 : decode cX1_reach 49 = .ok (.iload 5, 2) := by decide +kernel
theorem dX1_reach_51 : decode cX1_reach 51 = .ok (.ifCond .eq 15, 3) := by decide +kernel
theorem dX1_reach_54 : decode cX1_reach 54 = .ok (.aload_n 0, 1) := by decide +kernel
theorem dX1_reach_55 : decode cX1_reach 55 = .ok (.iload_n 1, 1) := by decide +kernel
theorem dX1_reach_56 : decode cX1_reach 56 = .ok (.invokevirtual 96, 3) := by decide +kernel
theorem dX1_reach_59 : decode cX1_reach 59 = .ok (.ifCond .ne 7, 3) := by decide +kernel
theorem dX1_reach_62 : decode cX1_reach 62 = .ok (.iconst 1, 1) := by decide +kernel
theorem dX1_reach_63 : decode cX1_reach 63 = .ok (.goto 4, 3) := by decide +kernel
theorem dX1_reach_66 : decode cX1_reach 66 = .ok (.iconst 0, 1) := by decide +kernel
theorem dX1_reach_67 : decode cX1_reach 67 = .ok (.invokevirtual 99, 3) := by decide +kernel
theorem dX1_reach_70 : decode cX1_reach 70 = .ok (.ifCond .ne 5, 3) := by decide +kernel
theorem dX1_reach_73 : decode cX1_reach 73 = .ok (.iconst 0, 1) := by decide +kernel
theorem dX1_reach_74 : decode cX1_reach 74 = .ok (.ireturn, 1) := by decide +kernel
theorem dX1_reach_75 : decode cX1_reach 75 = .ok (.aload_n 0, 1) := by decide +kernel
theorem dX1_reach_76 : decode cX1_reach 76 = .ok (.getfield 16, 3) := by decide +kernel
theorem dX1_reach_79 : decode cX1_reach 79 = .ok (.iconst 3, 1) := by decide +kernel
theorem dX1_reach_80 : decode cX1_reach 80 = .ok (.iload_n 1, 1) := by decide +kernel
theorem dX1_reach_81 : decode cX1_reach 81 = .ok (.imul, 1) := by decide +kernel
theorem dX1_reach_82 : decode cX1_reach 82 = .ok (.iload_n 2, 1) := by decide +kernel
theorem dX1_reach_83 : decode cX1_reach 83 = .ok (.iadd, 1) := by decide +kernel
theorem dX1_reach_84 : decode cX1_reach 84 = .ok (.iaload, 1) := by decide +kernel
theorem dX1_reach_85 : decode cX1_reach 85 = .ok (.aload_n 0, 1) := by decide +kernel
theorem dX1_reach_86 : decode cX1_reach 86 = .ok (.getfield 13, 3) := by decide +kernel
theorem dX1_reach_89 : decode cX1_reach 89 = .ok (.iconst 3, 1) := by decide +kernel
theorem dX1_reach_90 : decode cX1_reach 90 = .ok (.iload_n 1, 1) := by decide +kernel
theorem dX1_reach_91 : decode cX1_reach 91 = .ok (.imul, 1) := by decide +kernel
theorem dX1_reach_92 : decode cX1_reach 92 = .ok (.iload_n 2, 1) := by decide +kernel
theorem dX1_reach_93 : decode cX1_reach 93 = .ok (.iadd, 1) := by decide +kernel
theorem dX1_reach_94 : decode cX1_reach 94 = .ok (.iaload, 1) := by decide +kernel
theorem dX1_reach_95 : decode cX1_reach 95 = .ok (.isub, 1) := by decide +kernel
theorem dX1_reach_96 : decode cX1_reach 96 = .ok (.iconst 1, 1) := by decide +kernel
theorem dX1_reach_97 : decode cX1_reach 97 = .ok (.iadd, 1) := by decide +kernel
theorem dX1_reach_98 : decode cX1_reach 98 = .ok (.istore 6, 2) := by decide +kernel
theorem dX1_reach_100 : decode cX1_reach 100 = .ok (.aload_n 0, 1) := by decide +kernel
theorem dX1_reach_101 : decode cX1_reach 101 = .ok (.getfield 13, 3) := by decide +kernel
theorem dX1_reach_104 : decode cX1_reach 104 = .ok (.iconst 3, 1) := by decide +kernel
theorem dX1_reach_105 : decode cX1_reach 105 = .ok (.iload_n 1, 1) := by decide +kernel
theorem dX1_reach_106 : decode cX1_reach 106 = .ok (.imul, 1) := by decide +kernel
theorem dX1_reach_107 : decode cX1_reach 107 = .ok (.iload_n 2, 1) := by decide +kernel
theorem dX1_reach_108 : decode cX1_reach 108 = .ok (.iadd, 1) := by decide +kernel
theorem dX1_reach_109 : decode cX1_reach 109 = .ok (.iload_n 3, 1) := by decide +kernel
theorem dX1_reach_110 : decode cX1_reach 110 = .ok (.iastore, 1) := by decide +kernel
theorem dX1_reach_111 : decode cX1_reach 111 = .ok (.aload_n 0, 1) := by decide +kernel
theorem dX1_reach_112 : decode cX1_reach 112 = .ok (.getfield 16, 3) := by decide +kernel
theorem dX1_reach_115 : decode cX1_reach 115 = .ok (.iconst 3, 1) := by decide +kernel
theorem dX1_reach_116 : decode cX1_reach 116 = .ok (.iload_n 1, 1) := by decide +kernel
theorem dX1_reach_117 : decode cX1_reach 117 = .ok (.imul, 1) := by decide +kernel
theorem dX1_reach_118 : decode cX1_reach 118 = .ok (.iload_n 2, 1) := by decide +kernel
theorem dX1_reach_119 : decode cX1_reach 119 = .ok (.iadd, 1) := by decide +kernel
theorem dX1_reach_120 : decode cX1_reach 120 = .ok (.iload 4, 2) := by decide +kernel
theorem dX1_reach_122 : decode cX1_reach 122 = .ok (.iastore, 1) := by decide +kernel
theorem dX1_reach_123 : decode cX1_reach 123 = .ok (.iload 6, 2) := by decide +kernel
theorem dX1_reach_125 : decode cX1_reach 125 = .ok (.ireturn, 1) := by decide +kernel
set_option maxRecDepth 20000 in
theorem ggX1_way_X1_isProfile : GoodIn wsX1_way wsX1_isProfile := goodIn_r _ [6, 7, 8, 9, 5, 10, 24, 25, 26, 27, 28, 29, 30, 31, 32, 33, 34, 35, 36, 37, 38, 39] (by decide +kernel) (by decide +kernel)
set_option maxRecDepth 20000 in
theorem gX1_way_X1_isProfile : GoodIn wsX1_way (wsV RX1 86 RX1 yX1_isProfile wsX1_isProfile) := goodIn_app (goodIn_of _ (by decide +kernel)) ggX1_way_X1_isProfile
set_option maxRecDepth 20000 in
theorem ggX1_way_X1_isIn : GoodIn wsX1_way wsX1_isIn := goodIn_r _ [10] (by decide +kernel) (by decide +kernel)
set_option maxRecDepth 20000 in
theorem gX1_way_X1_isIn : GoodIn wsX1_way (va_wsS RX1 54 yX1_isIn wsX1_isIn) := goodIn_app (goodIn_of _ (by decide +kernel)) ggX1_way_X1_isIn
set_option maxRecDepth 20000 in
theorem ggX1_way_X1_isHeld : GoodIn wsX1_way wsX1_isHeld := goodIn_r _ [14, 15, 16, 17, 18, 24, 25, 26, 27, 28, 29, 30, 31, 32, 33, 34, 35, 36, 37, 38, 39] (by decide +kernel) (by decide +kernel)
set_option maxRecDepth 20000 in
theorem gX1_way_X1_isHeld : GoodIn wsX1_way (wsV RX1 96 RX1 yX1_isHeld wsX1_isHeld) := goodIn_app (goodIn_of _ (by decide +kernel)) ggX1_way_X1_isHeld
set_option maxRecDepth 20000 in
theorem ggX1_way_X1_mayAll : GoodIn wsX1_way wsX1_mayAll := goodIn_r _ [22, 23, 24, 25, 26, 27, 28, 29, 30, 31, 32, 33, 34, 35, 36, 37, 38, 39] (by decide +kernel) (by decide +kernel)
set_option maxRecDepth 20000 in
theorem gX1_way_X1_mayAll : GoodIn wsX1_way (wsV RX1 99 RX1 yX1_mayAll wsX1_mayAll) := goodIn_app (goodIn_of _ (by decide +kernel)) ggX1_way_X1_mayAll
theorem dX1_way_0 : decode cX1_way 0 = .ok (.aload_n 0, 1) := by decide +kernel
theorem dX1_way_1 : decode cX1_way 1 = .ok (.iload_n 1, 1) := by decide +kernel
theorem dX1_way_2 : decode cX1_way 2 = .ok (.invokevirtual 86, 3) := by decide +kernel
theorem dX1_way_5 : decode cX1_way 5 = .ok (.istore_n 3, 1) := by decide +kernel
theorem dX1_way_6 : decode cX1_way 6 = .ok (.aload_n 0, 1) := by decide +kernel
theorem dX1_way_7 : decode cX1_way 7 = .ok (.iload_n 3, 1) := by decide +kernel
theorem dX1_way_8 : decode cX1_way 8 = .ok (.iload_n 2, 1) := by decide +kernel
theorem dX1_way_9 : decode cX1_way 9 = .ok (.iconst 0, 1) := by decide +kernel
theorem dX1_way_10 : decode cX1_way 10 = .ok (.iconst 2, 1) := by decide +kernel
theorem dX1_way_11 : decode cX1_way 11 = .ok (.invokestatic 54, 3) := by decide +kernel
theorem dX1_way_14 : decode cX1_way 14 = .ok (.iload_n 3, 1) := by decide +kernel
theorem dX1_way_15 : decode cX1_way 15 = .ok (.ifCond .eq 15, 3) := by decide +kernel
theorem dX1_way_18 : decode cX1_way 18 = .ok (.aload_n 0, 1) := by decide +kernel
theorem dX1_way_19 : decode cX1_way 19 = .ok (.iload_n 1, 1) := by decide +kernel
theorem dX1_way_20 : decode cX1_way 20 = .ok (.invokevirtual 96, 3) := by decide +kernel
theorem dX1_way_23 : decode cX1_way 23 = .ok (.ifCond .ne 7, 3) := by decide +kernel
theorem dX1_way_26 : decode cX1_way 26 = .ok (.iconst 1, 1) := by decide +kernel
theorem dX1_way_27 : decode cX1_way 27 = .ok (.goto 4, 3) := by decide +kernel
theorem dX1_way_30 : decode cX1_way 30 = .ok (.iconst 0, 1) := by decide +kernel
theorem dX1_way_31 : decode cX1_way 31 = .ok (.invokevirtual 99, 3) := by decide +kernel
theorem dX1_way_34 : decode cX1_way 34 = .ok (.ifCond .ne 5, 3) := by decide +kernel
theorem dX1_way_37 : decode cX1_way 37 = .ok (.iconst 0, 1) := by decide +kernel
theorem dX1_way_38 : decode cX1_way 38 = .ok (.ireturn, 1) := by decide +kernel
theorem dX1_way_39 : decode cX1_way 39 = .ok (.aload_n 0, 1) := by decide +kernel
theorem dX1_way_40 : decode cX1_way 40 = .ok (.getfield 19, 3) := by decide +kernel
theorem dX1_way_43 : decode cX1_way 43 = .ok (.iload_n 1, 1) := by decide +kernel
theorem dX1_way_44 : decode cX1_way 44 = .ok (.iaload, 1) := by decide +kernel
theorem dX1_way_45 : decode cX1_way 45 = .ok (.istore 4, 2) := by decide +kernel
theorem dX1_way_47 : decode cX1_way 47 = .ok (.aload_n 0, 1) := by decide +kernel
theorem dX1_way_48 : decode cX1_way 48 = .ok (.getfield 19, 3) := by decide +kernel
theorem dX1_way_51 : decode cX1_way 51 = .ok (.iload_n 1, 1) := by decide +kernel
theorem dX1_way_52 : decode cX1_way 52 = .ok (.iload_n 2, 1) := by decide +kernel
theorem dX1_way_53 : decode cX1_way 53 = .ok (.iastore, 1) := by decide +kernel
theorem dX1_way_54 : decode cX1_way 54 = .ok (.iload 4, 2) := by decide +kernel
theorem dX1_way_56 : decode cX1_way 56 = .ok (.ireturn, 1) := by decide +kernel
set_option maxRecDepth 20000 in
theorem ggX1_curve_X1_isProfile : GoodIn wsX1_curve wsX1_isProfile := goodIn_r _ [5, 6, 7, 8, 4, 9, 37, 38, 39, 40, 41, 42, 43, 44, 45, 46, 47, 48, 49, 50, 51, 52] (by decide +kernel) (by decide +kernel)
set_option maxRecDepth 20000 in
theorem gX1_curve_X1_isProfile : GoodIn wsX1_curve (wsV RX1 86 RX1 yX1_isProfile wsX1_isProfile) := goodIn_app (goodIn_of _ (by decide +kernel)) ggX1_curve_X1_isProfile
set_option maxRecDepth 20000 in
theorem ggX1_curve_X1_isThird : GoodIn wsX1_curve wsX1_isThird := goodIn_r _ [12, 7, 8, 4, 9] (by decide +kernel) (by decide +kernel)
set_option maxRecDepth 20000 in
theorem gX1_curve_X1_isThird : GoodIn wsX1_curve (va_wsS RX1 90 yX1_isThird wsX1_isThird) := goodIn_app (goodIn_of _ (by decide +kernel)) ggX1_curve_X1_isThird
set_option maxRecDepth 20000 in
theorem ggX1_curve_X1_isByte : GoodIn wsX1_curve wsX1_isByte := goodIn_r _ [15, 7, 8, 4, 9] (by decide +kernel) (by decide +kernel)
set_option maxRecDepth 20000 in
theorem gX1_curve_X1_isByte : GoodIn wsX1_curve (va_wsS RX1 93 yX1_isByte wsX1_isByte) := goodIn_app (goodIn_of _ (by decide +kernel)) ggX1_curve_X1_isByte
set_option maxRecDepth 20000 in
theorem ggX1_curve_X1_mayBoth : GoodIn wsX1_curve wsX1_mayBoth := goodIn_r _ [19, 20, 37, 38, 39, 40, 41, 42, 43, 44, 45, 46, 47, 48, 49, 50, 51, 52] (by decide +kernel) (by decide +kernel)
set_option maxRecDepth 20000 in
theorem gX1_curve_X1_mayBoth : GoodIn wsX1_curve (wsV RX1 103 RX1 yX1_mayBoth wsX1_mayBoth) := goodIn_app (goodIn_of _ (by decide +kernel)) ggX1_curve_X1_mayBoth
set_option maxRecDepth 20000 in
theorem ggX1_curve_X1_curveOf : GoodIn wsX1_curve wsX1_curveOf := goodIn_r _ [24, 25, 26, 27, 28, 29, 4, 30, 31, 32, 33, 34, 35, 36, 37, 38, 39, 40, 41, 42, 43, 44, 45, 46, 47, 48, 49, 50, 51, 52] (by decide +kernel) (by decide +kernel)
set_option maxRecDepth 20000 in
theorem gX1_curve_X1_curveOf : GoodIn wsX1_curve (wsV RX1 75 RX1 yX1_curveOf wsX1_curveOf) := goodIn_app (goodIn_of _ (by decide +kernel)) ggX1_curve_X1_curveOf
theorem dX1_curve_0 : decode cX1_curve 0 = .ok (.aload_n 0, 1) := by decide +kernel
theorem dX1_curve_1 : decode cX1_curve 1 = .ok (.aload_n 0, 1) := by decide +kernel
theorem dX1_curve_2 : decode cX1_curve 2 = .ok (.iload_n 1, 1) := by decide +kernel
theorem dX1_curve_3 : decode cX1_curve 3 = .ok (.invokevirtual 86, 3) := by decide +kernel
theorem dX1_curve_6 : decode cX1_curve 6 = .ok (.ifCond .eq 14, 3) := by decide +kernel
theorem dX1_curve_9 : decode cX1_curve 9 = .ok (.iload_n 2, 1) := by decide +kernel
theorem dX1_curve_10 : decode cX1_curve 10 = .ok (.invokestatic 90, 3) := by decide +kernel
theorem dX1_curve_13 : decode cX1_curve 13 = .ok (.ifCond .eq 7, 3) := by decide +kernel
theorem dX1_curve_16 : decode cX1_curve 16 = .ok (.iconst 1, 1) := by decide +kernel
theorem dX1_curve_17 : decode cX1_curve 17 = .ok (.goto 4, 3) := by decide +kernel
theorem dX1_curve_20 : decode cX1_curve 20 = .ok (.iconst 0, 1) := by decide +kernel
theorem dX1_curve_21 : decode cX1_curve 21 = .ok (.iload_n 3, 1) := by decide +kernel
theorem dX1_curve_22 : decode cX1_curve 22 = .ok (.invokestatic 93, 3) := by decide +kernel
theorem dX1_curve_25 : decode cX1_curve 25 = .ok (.invokevirtual 103, 3) := by decide +kernel
theorem dX1_curve_28 : decode cX1_curve 28 = .ok (.ifCond .eq 13, 3) := by decide +kernel
theorem dX1_curve_31 : decode cX1_curve 31 = .ok (.aload_n 0, 1) := by decide +kernel
theorem dX1_curve_32 : decode cX1_curve 32 = .ok (.iload_n 1, 1) := by decide +kernel
theorem dX1_curve_33 : decode cX1_curve 33 = .ok (.iload_n 2, 1) := by decide +kernel
theorem dX1_curve_34 : decode cX1_curve 34 = .ok (.iload_n 3, 1) := by decide +kernel
theorem dX1_curve_35 : decode cX1_curve 35 = .ok (.invokevirtual 75, 3) := by decide +kernel
theorem dX1_curve_38 : decode cX1_curve 38 = .ok (.goto 4, 3) := by decide +kernel
theorem dX1_curve_41 : decode cX1_curve 41 = .ok (.iconst 0, 1) := by decide +kernel
theorem dX1_curve_42 : decode cX1_curve 42 = .ok (.ireturn, 1) := by decide +kernel
set_option maxRecDepth 20000 in
theorem ggX1_taken_X1_isProfile : GoodIn wsX1_taken wsX1_isProfile := goodIn_r _ [5, 6, 7, 8, 4, 9, 44, 45, 46, 47, 48, 49, 50, 51, 52, 53, 54, 55, 56, 57, 58, 59] (by decide +kernel) (by decide +kernel)
set_option maxRecDepth 20000 in
theorem gX1_taken_X1_isProfile : GoodIn wsX1_taken (wsV RX1 86 RX1 yX1_isProfile wsX1_isProfile) := goodIn_app (goodIn_of _ (by decide +kernel)) ggX1_taken_X1_isProfile
set_option maxRecDepth 20000 in
theorem ggX1_taken_X1_isThird : GoodIn wsX1_taken wsX1_isThird := goodIn_r _ [12, 7, 8, 4, 9] (by decide +kernel) (by decide +kernel)
set_option maxRecDepth 20000 in
theorem gX1_taken_X1_isThird : GoodIn wsX1_taken (va_wsS RX1 90 yX1_isThird wsX1_isThird) := goodIn_app (goodIn_of _ (by decide +kernel)) ggX1_taken_X1_isThird
set_option maxRecDepth 20000 in
theorem ggX1_taken_X1_isByte : GoodIn wsX1_taken wsX1_isByte := goodIn_r _ [15, 7, 8, 4, 9] (by decide +kernel) (by decide +kernel)
set_option maxRecDepth 20000 in
theorem gX1_taken_X1_isByte : GoodIn wsX1_taken (va_wsS RX1 93 yX1_isByte wsX1_isByte) := goodIn_app (goodIn_of _ (by decide +kernel)) ggX1_taken_X1_isByte
set_option maxRecDepth 20000 in
theorem ggX1_taken_X1_mayBoth : GoodIn wsX1_taken wsX1_mayBoth := goodIn_r _ [19, 20, 44, 45, 46, 47, 48, 49, 50, 51, 52, 53, 54, 55, 56, 57, 58, 59] (by decide +kernel) (by decide +kernel)
set_option maxRecDepth 20000 in
theorem gX1_taken_X1_mayBoth : GoodIn wsX1_taken (wsV RX1 103 RX1 yX1_mayBoth wsX1_mayBoth) := goodIn_app (goodIn_of _ (by decide +kernel)) ggX1_taken_X1_mayBoth
set_option maxRecDepth 20000 in
theorem ggX1_taken_X1_takenBy : GoodIn wsX1_taken wsX1_takenBy := goodIn_r _ [24, 25, 26, 27, 28, 29, 30, 4, 31, 32, 33, 34, 35, 36, 37, 38, 39, 40, 41, 42, 43, 44, 45, 46, 47, 48, 49, 50, 51, 52, 53, 54, 55, 56, 57, 58, 59] (by decide +kernel) (by decide +kernel)
set_option maxRecDepth 20000 in
theorem gX1_taken_X1_takenBy : GoodIn wsX1_taken (wsV RX1 79 RX1 yX1_takenBy wsX1_takenBy) := goodIn_app (goodIn_of _ (by decide +kernel)) ggX1_taken_X1_takenBy
theorem dX1_taken_0 : decode cX1_taken 0 = .ok (.aload_n 0, 1) := by decide +kernel
theorem dX1_taken_1 : decode cX1_taken 1 = .ok (.aload_n 0, 1) := by decide +kernel
theorem dX1_taken_2 : decode cX1_taken 2 = .ok (.iload_n 1, 1) := by decide +kernel
theorem dX1_taken_3 : decode cX1_taken 3 = .ok (.invokevirtual 86, 3) := by decide +kernel
theorem dX1_taken_6 : decode cX1_taken 6 = .ok (.ifCond .eq 14, 3) := by decide +kernel
theorem dX1_taken_9 : decode cX1_taken 9 = .ok (.iload_n 2, 1) := by decide +kernel
theorem dX1_taken_10 : decode cX1_taken 10 = .ok (.invokestatic 90, 3) := by decide +kernel
theorem dX1_taken_13 : decode cX1_taken 13 = .ok (.ifCond .eq 7, 3) := by decide +kernel
theorem dX1_taken_16 : decode cX1_taken 16 = .ok (.iconst 1, 1) := by decide +kernel
theorem dX1_taken_17 : decode cX1_taken 17 = .ok (.goto 4, 3) := by decide +kernel
theorem dX1_taken_20 : decode cX1_taken 20 = .ok (.iconst 0, 1) := by decide +kernel
theorem dX1_taken_21 : decode cX1_taken 21 = .ok (.iload_n 3, 1) := by decide +kernel
theorem dX1_taken_22 : decode cX1_taken 22 = .ok (.invokestatic 93, 3) := by decide +kernel
theorem dX1_taken_25 : decode cX1_taken 25 = .ok (.invokevirtual 103, 3) := by decide +kernel
theorem dX1_taken_28 : decode cX1_taken 28 = .ok (.ifCond .eq 13, 3) := by decide +kernel
theorem dX1_taken_31 : decode cX1_taken 31 = .ok (.aload_n 0, 1) := by decide +kernel
theorem dX1_taken_32 : decode cX1_taken 32 = .ok (.iload_n 1, 1) := by decide +kernel
theorem dX1_taken_33 : decode cX1_taken 33 = .ok (.iload_n 2, 1) := by decide +kernel
theorem dX1_taken_34 : decode cX1_taken 34 = .ok (.iload_n 3, 1) := by decide +kernel
theorem dX1_taken_35 : decode cX1_taken 35 = .ok (.invokevirtual 79, 3) := by decide +kernel
theorem dX1_taken_38 : decode cX1_taken 38 = .ok (.goto 4, 3) := by decide +kernel
theorem dX1_taken_41 : decode cX1_taken 41 = .ok (.iconst 0, 1) := by decide +kernel
theorem dX1_taken_42 : decode cX1_taken 42 = .ok (.ireturn, 1) := by decide +kernel
set_option maxRecDepth 20000 in
theorem ggX1_chain_X1_may : GoodIn wsX1_chain wsX1_may := goodIn_r _ [6, 7, 8, 9, 10, 11, 12, 13, 14, 15, 16, 17, 18, 19, 20, 21, 22, 23] (by decide +kernel) (by decide +kernel)
set_option maxRecDepth 20000 in
theorem gX1_chain_X1_may : GoodIn wsX1_chain (wsV RX1 82 RX1 yX1_may wsX1_may) := goodIn_app (goodIn_of _ (by decide +kernel)) ggX1_chain_X1_may
theorem dX1_chain_0 : decode cX1_chain 0 = .ok (.aload_n 0, 1) := by decide +kernel
theorem dX1_chain_1 : decode cX1_chain 1 = .ok (.aload_n 0, 1) := by decide +kernel
theorem dX1_chain_2 : decode cX1_chain 2 = .ok (.getfield 61, 3) := by decide +kernel
theorem dX1_chain_5 : decode cX1_chain 5 = .ok (.bipush 6, 2) := by decide +kernel
theorem dX1_chain_7 : decode cX1_chain 7 = .ok (.if_icmp .ge 7, 3) := by decide +kernel
theorem dX1_chain_10 : decode cX1_chain 10 = .ok (.iconst 1, 1) := by decide +kernel
theorem dX1_chain_11 : decode cX1_chain 11 = .ok (.goto 4, 3) := by decide +kernel
theorem dX1_chain_14 : decode cX1_chain 14 = .ok (.iconst 0, 1) := by decide +kernel
theorem dX1_chain_15 : decode cX1_chain 15 = .ok (.invokevirtual 82, 3) := by decide +kernel
theorem dX1_chain_18 : decode cX1_chain 18 = .ok (.ifCond .ne 5, 3) := by decide +kernel
theorem dX1_chain_21 : decode cX1_chain 21 = .ok (.iconst 0, 1) := by decide +kernel
theorem dX1_chain_22 : decode cX1_chain 22 = .ok (.ireturn, 1) := by decide +kernel
theorem dX1_chain_23 : decode cX1_chain 23 = .ok (.aload_n 0, 1) := by decide +kernel
theorem dX1_chain_24 : decode cX1_chain 24 = .ok (.dup, 1) := by decide +kernel
theorem dX1_chain_25 : decode cX1_chain 25 = .ok (.getfield 61, 3) := by decide +kernel
theorem dX1_chain_28 : decode cX1_chain 28 = .ok (.iconst 1, 1) := by decide +kernel
theorem dX1_chain_29 : decode cX1_chain 29 = .ok (.iadd, 1) := by decide +kernel
theorem dX1_chain_30 : decode cX1_chain 30 = .ok (.putfield 61, 3) := by decide +kernel
theorem dX1_chain_33 : decode cX1_chain 33 = .ok (.aload_n 0, 1) := by decide +kernel
theorem dX1_chain_34 : decode cX1_chain 34 = .ok (.getfield 61, 3) := by decide +kernel
theorem dX1_chain_37 : decode cX1_chain 37 = .ok (.iconst 1, 1) := by decide +kernel
theorem dX1_chain_38 : decode cX1_chain 38 = .ok (.isub, 1) := by decide +kernel
theorem dX1_chain_39 : decode cX1_chain 39 = .ok (.ireturn, 1) := by decide +kernel
set_option maxRecDepth 20000 in
theorem ggX1_add_X1_isChain : GoodIn wsX1_add wsX1_isChain := goodIn_r _ [8, 9, 10, 11, 7, 12, 23, 24, 25, 26, 27, 28, 29, 30, 31, 32, 33, 34, 35, 36, 37, 38] (by decide +kernel) (by decide +kernel)
set_option maxRecDepth 20000 in
theorem gX1_add_X1_isChain : GoodIn wsX1_add (wsV RX1 107 RX1 yX1_isChain wsX1_isChain) := goodIn_app (goodIn_of _ (by decide +kernel)) ggX1_add_X1_isChain
set_option maxRecDepth 20000 in
theorem ggX1_add_X1_isProfile : GoodIn wsX1_add wsX1_isProfile := goodIn_r _ [16, 17, 10, 11, 7, 12, 23, 24, 25, 26, 27, 28, 29, 30, 31, 32, 33, 34, 35, 36, 37, 38] (by decide +kernel) (by decide +kernel)
set_option maxRecDepth 20000 in
theorem gX1_add_X1_isProfile : GoodIn wsX1_add (wsV RX1 86 RX1 yX1_isProfile wsX1_isProfile) := goodIn_app (goodIn_of _ (by decide +kernel)) ggX1_add_X1_isProfile
set_option maxRecDepth 20000 in
theorem ggX1_add_X1_mayBoth : GoodIn wsX1_add wsX1_mayBoth := goodIn_r _ [21, 22, 23, 24, 25, 26, 27, 28, 29, 30, 31, 32, 33, 34, 35, 36, 37, 38] (by decide +kernel) (by decide +kernel)
set_option maxRecDepth 20000 in
theorem gX1_add_X1_mayBoth : GoodIn wsX1_add (wsV RX1 103 RX1 yX1_mayBoth wsX1_mayBoth) := goodIn_app (goodIn_of _ (by decide +kernel)) ggX1_add_X1_mayBoth
theorem dX1_add_0 : decode cX1_add 0 = .ok (.aload_n 0, 1) := by decide +kernel
theorem dX1_add_1 : decode cX1_add 1 = .ok (.iload_n 1, 1) := by decide +kernel
theorem dX1_add_2 : decode cX1_add 2 = .ok (.invokevirtual 107, 3) := by decide +kernel
theorem dX1_add_5 : decode cX1_add 5 = .ok (.ifCond .eq 15, 3) := by decide +kernel
theorem dX1_add_8 : decode cX1_add 8 = .ok (.aload_n 0, 1) := by decide +kernel
theorem dX1_add_9 : decode cX1_add 9 = .ok (.iload_n 2, 1) := by decide +kernel
theorem dX1_add_10 : decode cX1_add 10 = .ok (.invokevirtual 86, 3) := by decide +kernel
theorem dX1_add_13 : decode cX1_add 13 = .ok (.ifCond .eq 7, 3) := by decide +kernel
theorem dX1_add_16 : decode cX1_add 16 = .ok (.iconst 1, 1) := by decide +kernel
theorem dX1_add_17 : decode cX1_add 17 = .ok (.goto 4, 3) := by decide +kernel
theorem dX1_add_20 : decode cX1_add 20 = .ok (.iconst 0, 1) := by decide +kernel
theorem dX1_add_21 : decode cX1_add 21 = .ok (.istore_n 3, 1) := by decide +kernel
theorem dX1_add_22 : decode cX1_add 22 = .ok (.aload_n 0, 1) := by decide +kernel
theorem dX1_add_23 : decode cX1_add 23 = .ok (.iload_n 3, 1) := by decide +kernel
theorem dX1_add_24 : decode cX1_add 24 = .ok (.iload_n 3, 1) := by decide +kernel
theorem dX1_add_25 : decode cX1_add 25 = .ok (.ifCond .eq 27, 3) := by decide +kernel
theorem dX1_add_28 : decode cX1_add 28 = .ok (.aload_n 0, 1) := by decide +kernel
theorem dX1_add_29 : decode cX1_add 29 = .ok (.getfield 32, 3) := by decide +kernel
theorem dX1_add_32 : decode cX1_add 32 = .ok (.iload_n 1, 1) := by decide +kernel
theorem dX1_add_33 : decode cX1_add 33 = .ok (.baload, 1) := by decide +kernel
theorem dX1_add_34 : decode cX1_add 34 = .ok (.ifCond .ne 18, 3) := by decide +kernel
theorem dX1_add_37 : decode cX1_add 37 = .ok (.aload_n 0, 1) := by decide +kernel
theorem dX1_add_38 : decode cX1_add 38 = .ok (.getfield 22, 3) := by decide +kernel
theorem dX1_add_41 : decode cX1_add 41 = .ok (.iload_n 1, 1) := by decide +kernel
theorem dX1_add_42 : decode cX1_add 42 = .ok (.iaload, 1) := by decide +kernel
theorem dX1_add_43 : decode cX1_add 43 = .ok (.bipush 6, 2) := by decide +kernel
theorem dX1_add_45 : decode cX1_add 45 = .ok (.if_icmp .ge 7, 3) := by decide +kernel
theorem dX1_add_48 : decode cX1_add 48 = .ok (.iconst 1, 1) := by decide +kernel
theorem dX1_add_49 : decode cX1_add 49 = .ok (.goto 4, 3) := by decide +kernel
theorem dX1_add_52 : decode cX1_add 52 = .ok (.iconst 0, 1) := by decide +kernel
theorem dX1_add_53 : decode cX1_add 53 = .ok (.invokevirtual 103, 3) := by decide +kernel
theorem dX1_add_56 : decode cX1_add 56 = .ok (.ifCond .ne 5, 3) := by decide +kernel
theorem dX1_add_59 : decode cX1_add 59 = .ok (.iconst 0, 1) := by decide +kernel
theorem dX1_add_60 : decode cX1_add 60 = .ok (.ireturn, 1) := by decide +kernel
theorem dX1_add_61 : decode cX1_add 61 = .ok (.aload_n 0, 1) := by decide +kernel
theorem dX1_add_62 : decode cX1_add 62 = .ok (.getfield 25, 3) := by decide +kernel
theorem dX1_add_65 : decode cX1_add 65 = .ok (.bipush 6, 2) := by decide +kernel
theorem dX1_add_67 : decode cX1_add 67 = .ok (.iload_n 1, 1) := by decide +kernel
theorem dX1_add_68 : decode cX1_add 68 = .ok (.imul, 1) := by decide +kernel
theorem dX1_add_69 : decode cX1_add 69 = .ok (.aload_n 0, 1) := by decide +kernel
theorem dX1_add_70 : decode cX1_add 70 = .ok (.getfield 22, 3) := by decide +kernel
theorem dX1_add_73 : decode cX1_add 73 = .ok (.iload_n 1, 1) := by decide +kernel
theorem dX1_add_74 : decode cX1_add 74 = .ok (.iaload, 1) := by decide +kernel
theorem dX1_add_75 : decode cX1_add 75 = .ok (.iadd, 1) := by decide +kernel
theorem dX1_add_76 : decode cX1_add 76 = .ok (.iload_n 2, 1) := by decide +kernel
theorem dX1_add_77 : decode cX1_add 77 = .ok (.iastore, 1) := by decide +kernel
theorem dX1_add_78 : decode cX1_add 78 = .ok (.aload_n 0, 1) := by decide +kernel
theorem dX1_add_79 : decode cX1_add 79 = .ok (.getfield 22, 3) := by decide +kernel
theorem dX1_add_82 : decode cX1_add 82 = .ok (.iload_n 1, 1) := by decide +kernel
theorem dX1_add_83 : decode cX1_add 83 = .ok (.dup2, 1) := by decide +kernel
theorem dX1_add_84 : decode cX1_add 84 = .ok (.iaload, 1) := by decide +kernel
theorem dX1_add_85 : decode cX1_add 85 = .ok (.iconst 1, 1) := by decide +kernel
theorem dX1_add_86 : decode cX1_add 86 = .ok (.iadd, 1) := by decide +kernel
theorem dX1_add_87 : decode cX1_add 87 = .ok (.iastore, 1) := by decide +kernel
theorem dX1_add_88 : decode cX1_add 88 = .ok (.aload_n 0, 1) := by decide +kernel
theorem dX1_add_89 : decode cX1_add 89 = .ok (.getfield 22, 3) := by decide +kernel
theorem dX1_add_92 : decode cX1_add 92 = .ok (.iload_n 1, 1) := by decide +kernel
theorem dX1_add_93 : decode cX1_add 93 = .ok (.iaload, 1) := by decide +kernel
theorem dX1_add_94 : decode cX1_add 94 = .ok (.ireturn, 1) := by decide +kernel
set_option maxRecDepth 20000 in
theorem ggX1_drop_X1_isChain : GoodIn wsX1_drop wsX1_isChain := goodIn_r _ [8, 9, 10, 11, 7, 12, 18, 19, 20, 21, 22, 23, 24, 25, 26, 27, 28, 29, 30, 31, 32, 33] (by decide +kernel) (by decide +kernel)
