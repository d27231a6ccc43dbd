theorem dX1_init_0 : decode cX1_init 0 = .ok (.aload_n 0, 1) := by decide +kernel
theorem dX1_init_1 : decode cX1_init 1 = .ok (.invokespecial 1, 3) := by decide +kernel
theorem dX1_init_4 : decode cX1_init 4 = .ok (.aload_n 0, 1) := by decide +kernel
theorem dX1_init_5 : decode cX1_init 5 = .ok (.bipush 120, 2) := by decide +kernel
theorem dX1_init_7 : decode cX1_init 7 = .ok (.newarray .int, 2) := by decide +kernel
theorem dX1_init_9 : decode cX1_init 9 = .ok (.putfield 7, 3) := by decide +kernel
theorem dX1_init_12 : decode cX1_init 12 = .ok (.aload_n 0, 1) := by decide +kernel
theorem dX1_init_13 : decode cX1_init 13 = .ok (.bipush 24, 2) := by decide +kernel
theorem dX1_init_15 : decode cX1_init 15 = .ok (.newarray .int, 2) := by decide +kernel
theorem dX1_init_17 : decode cX1_init 17 = .ok (.putfield 13, 3) := by decide +kernel
theorem dX1_init_20 : decode cX1_init 20 = .ok (.aload_n 0, 1) := by decide +kernel
theorem dX1_init_21 : decode cX1_init 21 = .ok (.bipush 24, 2) := by decide +kernel
theorem dX1_init_23 : decode cX1_init 23 = .ok (.newarray .int, 2) := by decide +kernel
theorem dX1_init_25 : decode cX1_init 25 = .ok (.putfield 16, 3) := by decide +kernel
theorem dX1_init_28 : decode cX1_init 28 = .ok (.aload_n 0, 1) := by decide +kernel
theorem dX1_init_29 : decode cX1_init 29 = .ok (.bipush 8, 2) := by decide +kernel
theorem dX1_init_31 : decode cX1_init 31 = .ok (.newarray .int, 2) := by decide +kernel
theorem dX1_init_33 : decode cX1_init 33 = .ok (.putfield 19, 3) := by decide +kernel
theorem dX1_init_36 : decode cX1_init 36 = .ok (.aload_n 0, 1) := by decide +kernel
theorem dX1_init_37 : decode cX1_init 37 = .ok (.bipush 6, 2) := by decide +kernel
theorem dX1_init_39 : decode cX1_init 39 = .ok (.newarray .int, 2) := by decide +kernel
theorem dX1_init_41 : decode cX1_init 41 = .ok (.putfield 22, 3) := by decide +kernel
theorem dX1_init_44 : decode cX1_init 44 = .ok (.aload_n 0, 1) := by decide +kernel
theorem dX1_init_45 : decode cX1_init 45 = .ok (.bipush 36, 2) := by decide +kernel
theorem dX1_init_47 : decode cX1_init 47 = .ok (.newarray .int, 2) := by decide +kernel
theorem dX1_init_49 : decode cX1_init 49 = .ok (.putfield 25, 3) := by decide +kernel
theorem dX1_init_52 : decode cX1_init 52 = .ok (.aload_n 0, 1) := by decide +kernel
theorem dX1_init_53 : decode cX1_init 53 = .ok (.bipush 6, 2) := by decide +kernel
theorem dX1_init_55 : decode cX1_init 55 = .ok (.newarray .boolean, 2) := by decide +kernel
theorem dX1_init_57 : decode cX1_init 57 = .ok (.putfield 28, 3) := by decide +kernel
theorem dX1_init_60 : decode cX1_init 60 = .ok (.aload_n 0, 1) := by decide +kernel
theorem dX1_init_61 : decode cX1_init 61 = .ok (.bipush 6, 2) := by decide +kernel
theorem dX1_init_63 : decode cX1_init 63 = .ok (.newarray .boolean, 2) := by decide +kernel
theorem dX1_init_65 : decode cX1_init 65 = .ok (.putfield 32, 3) := by decide +kernel
theorem dX1_init_68 : decode cX1_init 68 = .ok (.aload_n 0, 1) := by decide +kernel
theorem dX1_init_69 : decode cX1_init 69 = .ok (.bipush 90, 2) := by decide +kernel
theorem dX1_init_71 : decode cX1_init 71 = .ok (.newarray .int, 2) := by decide +kernel
theorem dX1_init_73 : decode cX1_init 73 = .ok (.putfield 35, 3) := by decide +kernel
theorem dX1_init_76 : decode cX1_init 76 = .ok (.aload_n 0, 1) := by decide +kernel
theorem dX1_init_77 : decode cX1_init 77 = .ok (.bipush 18, 2) := by decide +kernel
theorem dX1_init_79 : decode cX1_init 79 = .ok (.newarray .int, 2) := by decide +kernel
theorem dX1_init_81 : decode cX1_init 81 = .ok (.putfield 38, 3) := by decide +kernel
theorem dX1_init_84 : decode cX1_init 84 = .ok (.aload_n 0, 1) := by decide +kernel
theorem dX1_init_85 : decode cX1_init 85 = .ok (.bipush 18, 2) := by decide +kernel
theorem dX1_init_87 : decode cX1_init 87 = .ok (.newarray .int, 2) := by decide +kernel
theorem dX1_init_89 : decode cX1_init 89 = .ok (.putfield 41, 3) := by decide +kernel
theorem dX1_init_92 : decode cX1_init 92 = .ok (.aload_n 0, 1) := by decide +kernel
theorem dX1_init_93 : decode cX1_init 93 = .ok (.bipush 9, 2) := by decide +kernel
theorem dX1_init_95 : decode cX1_init 95 = .ok (.newarray .int, 2) := by decide +kernel
theorem dX1_init_97 : decode cX1_init 97 = .ok (.putfield 44, 3) := by decide +kernel
theorem dX1_init_100 : decode cX1_init 100 = .ok (.aload_n 0, 1) := by decide +kernel
theorem dX1_init_101 : decode cX1_init 101 = .ok (.iconst 5, 1) := by decide +kernel
theorem dX1_init_102 : decode cX1_init 102 = .ok (.newarray .int, 2) := by decide +kernel
theorem dX1_init_104 : decode cX1_init 104 = .ok (.putfield 47, 3) := by decide +kernel
theorem dX1_init_107 : decode cX1_init 107 = .ok (.return_, 1) := by decide +kernel
theorem dX1_thrown_0 : decode cX1_thrown 0 = .ok (.aload_n 0, 1) := by decide +kernel
theorem dX1_thrown_1 : decode cX1_thrown 1 = .ok (.getfield 50, 3) := by decide +kernel
theorem dX1_thrown_4 : decode cX1_thrown 4 = .ok (.ireturn, 1) := by decide +kernel
theorem dX1_may_0 : decode cX1_may 0 = .ok (.aload_n 0, 1) := by decide +kernel
theorem dX1_may_1 : decode cX1_may 1 = .ok (.iload_n 1, 1) := by decide +kernel
theorem dX1_may_2 : decode cX1_may 2 = .ok (.ifCond .eq 7, 3) := by decide +kernel
theorem dX1_may_5 : decode cX1_may 5 = .ok (.iconst 0, 1) := by decide +kernel
theorem dX1_may_6 : decode cX1_may 6 = .ok (.goto 4, 3) := by decide +kernel
theorem dX1_may_9 : decode cX1_may 9 = .ok (.iconst 1, 1) := by decide +kernel
theorem dX1_may_10 : decode cX1_may 10 = .ok (.putfield 50, 3) := by decide +kernel
theorem dX1_may_13 : decode cX1_may 13 = .ok (.iload_n 1, 1) := by decide +kernel
theorem dX1_may_14 : decode cX1_may 14 = .ok (.ireturn, 1) := by decide +kernel
theorem dX1_mayBoth_0 : decode cX1_mayBoth 0 = .ok (.aload_n 0, 1) := by decide +kernel
theorem dX1_mayBoth_1 : decode cX1_mayBoth 1 = .ok (.iload_n 1, 1) := by decide +kernel
theorem dX1_mayBoth_2 : decode cX1_mayBoth 2 = .ok (.ifCond .ne 7, 3) := by decide +kernel
theorem dX1_mayBoth_5 : decode cX1_mayBoth 5 = .ok (.iconst 1, 1) := by decide +kernel
theorem dX1_mayBoth_6 : decode cX1_mayBoth 6 = .ok (.goto 12, 3) := by decide +kernel
theorem dX1_mayBoth_9 : decode cX1_mayBoth 9 = .ok (.iload_n 2, 1) := by decide +kernel
theorem dX1_mayBoth_10 : decode cX1_mayBoth 10 = .ok (.ifCond .ne 7, 3) := by decide +kernel
theorem dX1_mayBoth_13 : decode cX1_mayBoth 13 = .ok (.iconst 2, 1) := by decide +kernel
theorem dX1_mayBoth_14 : decode cX1_mayBoth 14 = .ok (.goto 4, 3) := by decide +kernel
theorem dX1_mayBoth_17 : decode cX1_mayBoth 17 = .ok (.iconst 0, 1) := by decide +kernel
theorem dX1_mayBoth_18 : decode cX1_mayBoth 18 = .ok (.putfield 50, 3) := by decide +kernel
theorem dX1_mayBoth_21 : decode cX1_mayBoth 21 = .ok (.aload_n 0, 1) := by decide +kernel
theorem dX1_mayBoth_22 : decode cX1_mayBoth 22 = .ok (.getfield 50, 3) := by decide +kernel
theorem dX1_mayBoth_25 : decode cX1_mayBoth 25 = .ok (.ifCond .ne 7, 3) := by decide +kernel
theorem dX1_mayBoth_28 : decode cX1_mayBoth 28 = .ok (.iconst 1, 1) := by decide +kernel
theorem dX1_mayBoth_29 : decode cX1_mayBoth 29 = .ok (.goto 4, 3) := by decide +kernel
theorem dX1_mayBoth_32 : decode cX1_mayBoth 32 = .ok (.iconst 0, 1) := by decide +kernel
theorem dX1_mayBoth_33 : decode cX1_mayBoth 33 = .ok (.ireturn, 1) := by decide +kernel
theorem dX1_mayAll_0 : decode cX1_mayAll 0 = .ok (.aload_n 0, 1) := by decide +kernel
theorem dX1_mayAll_1 : decode cX1_mayAll 1 = .ok (.iload_n 1, 1) := by decide +kernel
theorem dX1_mayAll_2 : decode cX1_mayAll 2 = .ok (.ifCond .ne 7, 3) := by decide +kernel
theorem dX1_mayAll_5 : decode cX1_mayAll 5 = .ok (.iconst 1, 1) := by decide +kernel
theorem dX1_mayAll_6 : decode cX1_mayAll 6 = .ok (.goto 20, 3) := by decide +kernel
theorem dX1_mayAll_9 : decode cX1_mayAll 9 = .ok (.iload_n 2, 1) := by decide +kernel
theorem dX1_mayAll_10 : decode cX1_mayAll 10 = .ok (.ifCond .ne 7, 3) := by decide +kernel
theorem dX1_mayAll_13 : decode cX1_mayAll 13 = .ok (.iconst 2, 1) := by decide +kernel
theorem dX1_mayAll_14 : decode cX1_mayAll 14 = .ok (.goto 12, 3) := by decide +kernel
theorem dX1_mayAll_17 : decode cX1_mayAll 17 = .ok (.iload_n 3, 1) := by decide +kernel
theorem dX1_mayAll_18 : decode cX1_mayAll 18 = .ok (.ifCond .ne 7, 3) := by decide +kernel
theorem dX1_mayAll_21 : decode cX1_mayAll 21 = .ok (.iconst 3, 1) := by decide +kernel
theorem dX1_mayAll_22 : decode cX1_mayAll 22 = .ok (.goto 4, 3) := by decide +kernel
theorem dX1_mayAll_25 : decode cX1_mayAll 25 = .ok (.iconst 0, 1) := by decide +kernel
theorem dX1_mayAll_26 : decode cX1_mayAll 26 = .ok (.putfield 50, 3) := by decide +kernel
theorem dX1_mayAll_29 : decode cX1_mayAll 29 = .ok (.aload_n 0, 1) := by decide +kernel
theorem dX1_mayAll_30 : decode cX1_mayAll 30 = .ok (.getfield 50, 3) := by decide +kernel
theorem dX1_mayAll_33 : decode cX1_mayAll 33 = .ok (.ifCond .ne 7, 3) := by decide +kernel
theorem dX1_mayAll_36 : decode cX1_mayAll 36 = .ok (.iconst 1, 1) := by decide +kernel
theorem dX1_mayAll_37 : decode cX1_mayAll 37 = .ok (.goto 4, 3) := by decide +kernel
theorem dX1_mayAll_40 : decode cX1_mayAll 40 = .ok (.iconst 0, 1) := by decide +kernel
theorem dX1_mayAll_41 : decode cX1_mayAll 41 = .ok (.ireturn, 1) := by decide +kernel
theorem dX1_isIn_0 : decode cX1_isIn 0 = .ok (.iload_n 0, 1) := by decide +kernel
theorem dX1_isIn_1 : decode cX1_isIn 1 = .ok (.iload_n 1, 1) := by decide +kernel
theorem dX1_isIn_2 : decode cX1_isIn 2 = .ok (.if_icmp .lt 12, 3) := by decide +kernel
theorem dX1_isIn_5 : decode cX1_isIn 5 = .ok (.iload_n 0, 1) := by decide +kernel
theorem dX1_isIn_6 : decode cX1_isIn 6 = .ok (.iload_n 2, 1) := by decide +kernel
theorem dX1_isIn_7 : decode cX1_isIn 7 = .ok (.if_icmp .gt 7, 3) := by decide +kernel
theorem dX1_isIn_10 : decode cX1_isIn 10 = .ok (.iconst 1, 1) := by decide +kernel
theorem dX1_isIn_11 : decode cX1_isIn 11 = .ok (.goto 4, 3) := by decide +kernel
theorem dX1_isIn_14 : decode cX1_isIn 14 = .ok (.iconst 0, 1) := by decide +kernel
theorem dX1_isIn_15 : decode cX1_isIn 15 = .ok (.ireturn, 1) := by decide +kernel
set_option maxRecDepth 20000 in
theorem ggX1_isByte_X1_isIn : GoodIn wsX1_isByte wsX1_isIn := goodIn_r _ [4] (by decide +kernel) (by decide +kernel)
set_option maxRecDepth 20000 in
theorem gX1_isByte_X1_isIn : GoodIn wsX1_isByte (va_wsS RX1 54 yX1_isIn wsX1_isIn) := goodIn_app (goodIn_of _ (by decide +kernel)) ggX1_isByte_X1_isIn
theorem dX1_isByte_0 : decode cX1_isByte 0 = .ok (.iload_n 0, 1) := by decide +kernel
theorem dX1_isByte_1 : decode cX1_isByte 1 = .ok (.iconst 0, 1) := by decide +kernel
theorem dX1_isByte_2 : decode cX1_isByte 2 = .ok (.sipush 255, 3) := by decide +kernel
theorem dX1_isByte_5 : decode cX1_isByte 5 = .ok (.invokestatic 54, 3) := by decide +kernel
theorem dX1_isByte_8 : decode cX1_isByte 8 = .ok (.ireturn, 1) := by decide +kernel
set_option maxRecDepth 20000 in
theorem ggX1_isThird_X1_isIn : GoodIn wsX1_isThird wsX1_isIn := goodIn_r _ [4] (by decide +kernel) (by decide +kernel)
set_option maxRecDepth 20000 in
theorem gX1_isThird_X1_isIn : GoodIn wsX1_isThird (va_wsS RX1 54 yX1_isIn wsX1_isIn) := goodIn_app (goodIn_of _ (by decide +kernel)) ggX1_isThird_X1_isIn
theorem dX1_isThird_0 : decode cX1_isThird 0 = .ok (.iload_n 0, 1) := by decide +kernel
theorem dX1_isThird_1 : decode cX1_isThird 1 = .ok (.iconst 0, 1) := by decide +kernel
theorem dX1_isThird_2 : decode cX1_isThird 2 = .ok (.iconst 2, 1) := by decide +kernel
theorem dX1_isThird_3 : decode cX1_isThird 3 = .ok (.invokestatic 54, 3) := by decide +kernel
theorem dX1_isThird_6 : decode cX1_isThird 6 = .ok (.ireturn, 1) := by decide +kernel
set_option maxRecDepth 20000 in
theorem ggX1_isProfile_X1_isIn : GoodIn wsX1_isProfile wsX1_isIn := goodIn_r _ [5] (by decide +kernel) (by decide +kernel)
set_option maxRecDepth 20000 in
theorem gX1_isProfile_X1_isIn : GoodIn wsX1_isProfile (va_wsS RX1 54 yX1_isIn wsX1_isIn) := goodIn_app (goodIn_of _ (by decide +kernel)) ggX1_isProfile_X1_isIn
theorem dX1_isProfile_0 : decode cX1_isProfile 0 = .ok (.iload_n 1, 1) := by decide +kernel
theorem dX1_isProfile_1 : decode cX1_isProfile 1 = .ok (.iconst 0, 1) := by decide +kernel
theorem dX1_isProfile_2 : decode cX1_isProfile 2 = .ok (.aload_n 0, 1) := by decide +kernel
theorem dX1_isProfile_3 : decode cX1_isProfile 3 = .ok (.getfield 58, 3) := by decide +kernel
theorem dX1_isProfile_6 : decode cX1_isProfile 6 = .ok (.iconst 1, 1) := by decide +kernel
theorem dX1_isProfile_7 : decode cX1_isProfile 7 = .ok (.isub, 1) := by decide +kernel
theorem dX1_isProfile_8 : decode cX1_isProfile 8 = .ok (.invokestatic 54, 3) := by decide +kernel
theorem dX1_isProfile_11 : decode cX1_isProfile 11 = .ok (.ireturn, 1) := by decide +kernel
set_option maxRecDepth 20000 in
theorem ggX1_isChain_X1_isIn : GoodIn wsX1_isChain wsX1_isIn := goodIn_r _ [5] (by decide +kernel) (by decide +kernel)
set_option maxRecDepth 20000 in
theorem gX1_isChain_X1_isIn : GoodIn wsX1_isChain (va_wsS RX1 54 yX1_isIn wsX1_isIn) := goodIn_app (goodIn_of _ (by decide +kernel)) ggX1_isChain_X1_isIn
theorem dX1_isChain_0 : decode cX1_isChain 0 = .ok (.iload_n 1, 1) := by decide +kernel
theorem dX1_isChain_1 : decode cX1_isChain 1 = .ok (.iconst 0, 1) := by decide +kernel
theorem dX1_isChain_2 : decode cX1_isChain 2 = .ok (.aload_n 0, 1) := by decide +kernel
theorem dX1_isChain_3 : decode cX1_isChain 3 = .ok (.getfield 61, 3) := by decide +kernel
theorem dX1_isChain_6 : decode cX1_isChain 6 = .ok (.iconst 1, 1) := by decide +kernel
theorem dX1_isChain_7 : decode cX1_isChain 7 = .ok (.isub, 1) := by decide +kernel
theorem dX1_isChain_8 : decode cX1_isChain 8 = .ok (.invokestatic 54, 3) := by decide +kernel
theorem dX1_isChain_11 : decode cX1_isChain 11 = .ok (.ireturn, 1) := by decide +kernel
theorem dX1_placeAt_0 : decode cX1_placeAt 0 = .ok (.iload_n 0, 1) := by decide +kernel
theorem dX1_placeAt_1 : decode cX1_placeAt 1 = .ok (.iconst 4, 1) := by decide +kernel
theorem dX1_placeAt_2 : decode cX1_placeAt 2 = .ok (.if_icmp .ne 9, 3) := by decide +kernel
theorem dX1_placeAt_5 : decode cX1_placeAt 5 = .ok (.sipush 255, 3) := by decide +kernel
theorem dX1_placeAt_8 : decode cX1_placeAt 8 = .ok (.goto 7, 3) := by decide +kernel
theorem dX1_placeAt_11 : decode cX1_placeAt 11 = .ok (.bipush 64, 2) := by decide +kernel
theorem dX1_placeAt_13 : decode cX1_placeAt 13 = .ok (.iload_n 0, 1) := by decide +kernel
theorem dX1_placeAt_14 : decode cX1_placeAt 14 = .ok (.imul, 1) := by decide +kernel
theorem dX1_placeAt_15 : decode cX1_placeAt 15 = .ok (.ireturn, 1) := by decide +kernel
theorem dX1_quotient_0 : decode cX1_quotient 0 = .ok (.iload_n 0, 1) := by decide +kernel
theorem dX1_quotient_1 : decode cX1_quotient 1 = .ok (.iload_n 1, 1) := by decide +kernel
theorem dX1_quotient_2 : decode cX1_quotient 2 = .ok (.idiv, 1) := by decide +kernel
theorem dX1_quotient_3 : decode cX1_quotient 3 = .ok (.istore_n 2, 1) := by decide +kernel
theorem dX1_quotient_4 : decode cX1_quotient 4 = .ok (.iload_n 2, 1) := by decide +kernel
theorem dX1_quotient_5 : decode cX1_quotient 5 = .ok (.iload_n 1, 1) := by decide +kernel
theorem dX1_quotient_6 : decode cX1_quotient 6 = .ok (.imul, 1) := by decide +kernel
theorem dX1_quotient_7 : decode cX1_quotient 7 = .ok (.iload_n 0, 1) := by decide +kernel
theorem dX1_quotient_8 : decode cX1_quotient 8 = .ok (.if_icmp .le 9, 3) := by decide +kernel
theorem dX1_quotient_11 : decode cX1_quotient 11 = .ok (.iload_n 2, 1) := by decide +kernel
theorem dX1_quotient_12 : decode cX1_quotient 12 = .ok (.iconst 1, 1) := by decide +kernel
theorem dX1_quotient_13 : decode cX1_quotient 13 = .ok (.isub, 1) := by decide +kernel
theorem dX1_quotient_14 : decode cX1_quotient 14 = .ok (.goto 4, 3) := by decide +kernel
theorem dX1_quotient_17 : decode cX1_quotient 17 = .ok (.iload_n 2, 1) := by decide +kernel
theorem dX1_quotient_18 : decode cX1_quotient 18 = .ok (.ireturn, 1) := by decide +kernel
set_option maxRecDepth 20000 in
theorem ggX1_between_X1_placeAt : GoodIn wsX1_between wsX1_placeAt := goodIn_r _ [5] (by decide +kernel) (by decide +kernel)
set_option maxRecDepth 20000 in
theorem gX1_between_X1_placeAt : GoodIn wsX1_between (va_wsS RX1 64 yX1_placeAt wsX1_placeAt) := goodIn_app (goodIn_of _ (by decide +kernel)) ggX1_between_X1_placeAt
set_option maxRecDepth 20000 in
theorem ggX1_between_X1_quotient : GoodIn wsX1_between wsX1_quotient := goodIn_r _ [8] (by decide +kernel) (by decide +kernel)
set_option maxRecDepth 20000 in
theorem gX1_between_X1_quotient : GoodIn wsX1_between (va_wsS RX1 68 yX1_quotient wsX1_quotient) := goodIn_app (goodIn_of _ (by decide +kernel)) ggX1_between_X1_quotient
theorem dX1_between_0 : decode cX1_between 0 = .ok (.iconst 0, 1) := by decide +kernel
theorem dX1_between_1 : decode cX1_between 1 = .ok (.istore_n 2, 1) := by decide +kernel
theorem dX1_between_2 : decode cX1_between 2 = .ok (.iload_n 2, 1) := by decide +kernel
theorem dX1_between_3 : decode cX1_between 3 = .ok (.iconst 4, 1) := by decide +kernel
theorem dX1_between_4 : decode cX1_between 4 = .ok (.if_icmp .ge 19, 3) := by decide +kernel
theorem dX1_between_7 : decode cX1_between 7 = .ok (.iload_n 2, 1) := by decide +kernel
theorem dX1_between_8 : decode cX1_between 8 = .ok (.iconst 1, 1) := by decide +kernel
theorem dX1_between_9 : decode cX1_between 9 = .ok (.iadd, 1) := by decide +kernel
theorem dX1_between_10 : decode cX1_between 10 = .ok (.invokestatic 64, 3) := by decide +kernel
theorem dX1_between_13 : decode cX1_between 13 = .ok (.iload_n 1, 1) := by decide +kernel
theorem dX1_between_14 : decode cX1_between 14 = .ok (.if_icmp .gt 9, 3) := by decide +kernel
theorem dX1_between_17 : decode cX1_between 17 = .ok (.iinc 2 1, 3) := by decide +kernel
theorem dX1_between_20 : decode cX1_between 20 = .ok (.goto (-18), 3) := by decide +kernel
theorem dX1_between_23 : decode cX1_between 23 = .ok (.iload_n 2, 1) := by decide +kernel
theorem dX1_between_24 : decode cX1_between 24 = .ok (.invokestatic 64, 3) := by decide +kernel
theorem dX1_between_27 : decode cX1_between 27 = .ok (.iload_n 1, 1) := by decide +kernel
theorem dX1_between_28 : decode cX1_between 28 = .ok (.if_icmp .ne 10, 3) := by decide +kernel
theorem dX1_between_31 : decode cX1_between 31 = .ok (.aload_n 0, 1) := by decide +kernel
theorem dX1_between_32 : decode cX1_between 32 = .ok (.getfield 47, 3) := by decide +kernel
theorem dX1_between_35 : decode cX1_between 35 = .ok (.iload_n 2, 1) := by decide +kernel
theorem dX1_between_36 : decode cX1_between 36 = .ok (.iaload, 1) := by decide +kernel
theorem dX1_between_37 : decode cX1_between 37 = .ok (.ireturn, 1) := by decide +kernel
theorem dX1_between_38 : decode cX1_between 38 = .ok (.aload_n 0, 1) := by decide +kernel
theorem dX1_between_39 : decode cX1_between 39 = .ok (.getfield 47, 3) := by decide +kernel
theorem dX1_between_42 : decode cX1_between 42 = .ok (.iload_n 2, 1) := by decide +kernel
theorem dX1_between_43 : decode cX1_between 43 = .ok (.iaload, 1) := by decide +kernel
theorem dX1_between_44 : decode cX1_between 44 = .ok (.aload_n 0, 1) := by decide +kernel
theorem dX1_between_45 : decode cX1_between 45 = .ok (.getfield 47, 3) := by decide +kernel
theorem dX1_between_48 : decode cX1_between 48 = .ok (.iload_n 2, 1) := by decide +kernel
theorem dX1_between_49 : decode cX1_between 49 = .ok (.iconst 1, 1) := by decide +kernel
theorem dX1_between_50 : decode cX1_between 50 = .ok (.iadd, 1) := by decide +kernel
theorem dX1_between_51 : decode cX1_between 51 = .ok (.iaload, 1) := by decide +kernel
theorem dX1_between_52 : decode cX1_between 52 = .ok (.aload_n 0, 1) := by decide +kernel
theorem dX1_between_53 : decode cX1_between 53 = .ok (.getfield 47, 3) := by decide +kernel
theorem dX1_between_56 : decode cX1_between 56 = .ok (.iload_n 2, 1) := by decide +kernel
theorem dX1_between_57 : decode cX1_between 57 = .ok (.iaload, 1) := by decide +kernel
theorem dX1_between_58 : decode cX1_between 58 = .ok (.isub, 1) := by decide +kernel
theorem dX1_between_59 : decode cX1_between 59 = .ok (.iload_n 1, 1) := by decide +kernel
theorem dX1_between_60 : decode cX1_between 60 = .ok (.iload_n 2, 1) := by decide +kernel
theorem dX1_between_61 : decode cX1_between 61 = .ok (.invokestatic 64, 3) := by decide +kernel
theorem dX1_between_64 : decode cX1_between 64 = .ok (.isub, 1) := by decide +kernel
theorem dX1_between_65 : decode cX1_between 65 = .ok (.imul, 1) := by decide +kernel
theorem dX1_between_66 : decode cX1_between 66 = .ok (.iload_n 2, 1) := by decide +kernel
theorem dX1_between_67 : decode cX1_between 67 = .ok (.iconst 1, 1) := by decide +kernel
theorem dX1_between_68 : decode cX1_between 68 = .ok (.iadd, 1) := by decide +kernel
theorem dX1_between_69 : decode cX1_between 69 = .ok (.invokestatic 64, 3) := by decide +kernel
theorem dX1_between_72 : decode cX1_between 72 = .ok (.iload_n 2, 1) := by decide +kernel
theorem dX1_between_73 : decode cX1_between 73 = .ok (.invokestatic 64, 3) := by decide +kernel
theorem dX1_between_76 : decode cX1_between 76 = .ok (.isub, 1) := by decide +kernel
theorem dX1_between_77 : decode cX1_between 77 = .ok (.invokestatic 68, 3) := by decide +kernel
theorem dX1_between_80 : decode cX1_between 80 = .ok (.iadd, 1) := by decide +kernel
theorem dX1_between_81 : decode cX1_between 81 = .ok (.ireturn, 1) := by decide +kernel
set_option maxRecDepth 20000 in
theorem ggX1_curveOf_X1_between : GoodIn wsX1_curveOf wsX1_between := goodIn_r _ [7, 1, 8, 9, 6, 10, 11, 12, 13, 14, 15, 16, 17, 18, 19, 20, 21, 22, 23, 24, 25, 26, 27, 28, 29] (by decide +kernel) (by decide +kernel)
set_option maxRecDepth 20000 in
theorem gX1_curveOf_X1_between : GoodIn wsX1_curveOf (wsV RX1 72 RX1 yX1_between wsX1_between) := goodIn_app (goodIn_of _ (by decide +kernel)) ggX1_curveOf_X1_between
theorem dX1_curveOf_0 : decode cX1_curveOf 0 = .ok (.iconst 0, 1) := by decide +kernel
theorem dX1_curveOf_1 : decode cX1_curveOf 1 = .ok (.istore 4, 2) := by decide +kernel
theorem dX1_curveOf_3 : decode cX1_curveOf 3 = .ok (.iload 4, 2) := by decide +kernel
theorem dX1_curveOf_5 : decode cX1_curveOf 5 = .ok (.iconst 5, 1) := by decide +kernel
theorem dX1_curveOf_6 : decode cX1_curveOf 6 = .ok (.if_icmp .ge 32, 3) := by decide +kernel
theorem dX1_curveOf_9 : decode cX1_curveOf 9 = .ok (.aload_n 0, 1) := by decide +kernel
theorem dX1_curveOf_10 : decode cX1_curveOf 10 = .ok (.getfield 47, 3) := by decide +kernel
theorem dX1_curveOf_13 : decode cX1_curveOf 13 = .ok (.iload 4, 2) := by decide +kernel
theorem dX1_curveOf_15 : decode cX1_curveOf 15 = .ok (.aload_n 0, 1) := by decide +kernel
theorem dX1_curveOf_16 : decode cX1_curveOf 16 = .ok (.getfield 7, 3) := by decide +kernel
theorem dX1_curveOf_19 : decode cX1_curveOf 19 = .ok (.bipush 15, 2) := by decide +kernel
theorem dX1_curveOf_21 : decode cX1_curveOf 21 = .ok (.iload_n 1, 1) := by decide +kernel
theorem dX1_curveOf_22 : decode cX1_curveOf 22 = .ok (.imul, 1) := by decide +kernel
theorem dX1_curveOf_23 : decode cX1_curveOf 23 = .ok (.iconst 5, 1) := by decide +kernel
theorem dX1_curveOf_24 : decode cX1_curveOf 24 = .ok (.iload_n 2, 1) := by decide +kernel
theorem dX1_curveOf_25 : decode cX1_curveOf 25 = .ok (.imul, 1) := by decide +kernel
theorem dX1_curveOf_26 : decode cX1_curveOf 26 = .ok (.iadd, 1) := by decide +kernel
theorem dX1_curveOf_27 : decode cX1_curveOf 27 = .ok (.iload 4, 2) := by decide +kernel
theorem dX1_curveOf_29 : decode cX1_curveOf 29 = .ok (.iadd, 1) := by decide +kernel
theorem dX1_curveOf_30 : decode cX1_curveOf 30 = .ok (.iaload, 1) := by decide +kernel
theorem dX1_curveOf_31 : decode cX1_curveOf 31 = .ok (.iastore, 1) := by decide +kernel
theorem dX1_curveOf_32 : decode cX1_curveOf 32 = .ok (.iinc 4 1, 3) := by decide +kernel
theorem dX1_curveOf_35 : decode cX1_curveOf 35 = .ok (.goto (-32), 3) := by decide +kernel
theorem dX1_curveOf_38 : decode cX1_curveOf 38 = .ok (.aload_n 0, 1) := by decide +kernel
theorem dX1_curveOf_39 : decode cX1_curveOf 39 = .ok (.iload_n 3, 1) := by decide +kernel
theorem dX1_curveOf_40 : decode cX1_curveOf 40 = .ok (.invokevirtual 72, 3) := by decide +kernel
theorem dX1_curveOf_43 : decode cX1_curveOf 43 = .ok (.ireturn, 1) := by decide +kernel
set_option maxRecDepth 20000 in
theorem ggX1_takenBy_X1_curveOf : GoodIn wsX1_takenBy wsX1_curveOf := goodIn_r _ [8, 9, 10, 11, 12, 13, 7, 14, 15, 16, 17, 18, 19, 20, 21, 22, 23, 24, 25, 26, 27, 28, 29, 30, 31, 32, 33, 34, 35, 36] (by decide +kernel) (by decide +kernel)
set_option maxRecDepth 20000 in
theorem gX1_takenBy_X1_curveOf : GoodIn wsX1_takenBy (wsV RX1 75 RX1 yX1_curveOf wsX1_curveOf) := goodIn_app (goodIn_of _ (by decide +kernel)) ggX1_takenBy_X1_curveOf
theorem dX1_takenBy_0 : decode cX1_takenBy 0 = .ok (.aload_n 0, 1) := by decide +kernel
theorem dX1_takenBy_1 : decode cX1_takenBy 1 = .ok (.getfield 13, 3) := by decide +kernel
theorem dX1_takenBy_4 : decode cX1_takenBy 4 = .ok (.iconst 3, 1) := by decide +kernel
theorem dX1_takenBy_5 : decode cX1_takenBy 5 = .ok (.iload_n 1, 1) := by decide +kernel
theorem dX1_takenBy_6 : decode cX1_takenBy 6 = .ok (.imul, 1) := by decide +kernel
theorem dX1_takenBy_7 : decode cX1_takenBy 7 = .ok (.iload_n 2, 1) := by decide +kernel
theorem dX1_takenBy_8 : decode cX1_takenBy 8 = .ok (.iadd, 1) := by decide +kernel
theorem dX1_takenBy_9 : decode cX1_takenBy 9 = .ok (.iaload, 1) := by decide +kernel
theorem dX1_takenBy_10 : decode cX1_takenBy 10 = .ok (.istore 4, 2) := by decide +kernel
theorem dX1_takenBy_12 : decode cX1_takenBy 12 = .ok (.aload_n 0, 1) := by decide +kernel
theorem dX1_takenBy_13 : decode cX1_takenBy 13 = .ok (.getfield 16, 3) := by decide +kernel
theorem dX1_takenBy_16 : decode cX1_takenBy 16 = .ok (.iconst 3, 1) := by decide +kernel
theorem dX1_takenBy_17 : decode cX1_takenBy 17 = .ok (.iload_n 1, 1) := by decide +kernel
theorem dX1_takenBy_18 : decode cX1_takenBy 18 = .ok (.imul, 1) := by decide +kernel
theorem dX1_takenBy_19 : decode cX1_takenBy 19 = .ok (.iload_n 2, 1) := by decide +kernel
theorem dX1_takenBy_20 : decode cX1_takenBy 20 = .ok (.iadd, 1) := by decide +kernel
theorem dX1_takenBy_21 : decode cX1_takenBy 21 = .ok (.iaload, 1) := by decide +kernel
theorem dX1_takenBy_22 : decode cX1_takenBy 22 = .ok (.istore 5, 2) := by decide +kernel
theorem dX1_takenBy_24 : decode cX1_takenBy 24 = .ok (.aload_n 0, 1) := by decide +kernel
theorem dX1_takenBy_25 : decode cX1_takenBy 25 = .ok (.iload_n 1, 1) := by decide +kernel
theorem dX1_takenBy_26 : decode cX1_takenBy 26 = .ok (.iload_n 2, 1) := by decide +kernel
theorem dX1_takenBy_27 : decode cX1_takenBy 27 = .ok (.iload_n 3, 1) := by decide +kernel
theorem dX1_takenBy_28 : decode cX1_takenBy 28 = .ok (.invokevirtual 75, 3) := by decide +kernel
theorem dX1_takenBy_31 : decode cX1_takenBy 31 = .ok (.istore 6, 2) := by decide +kernel
theorem dX1_takenBy_33 : decode cX1_takenBy 33 = .ok (.aload_n 0, 1) := by decide +kernel
theorem dX1_takenBy_34 : decode cX1_takenBy 34 = .ok (.getfield 19, 3) := by decide +kernel
theorem dX1_takenBy_37 : decode cX1_takenBy 37 = .ok (.iload_n 1, 1) := by decide +kernel
theorem dX1_takenBy_38 : decode cX1_takenBy 38 = .ok (.iaload, 1) := by decide +kernel
theorem dX1_takenBy_39 : decode cX1_takenBy 39 = .ok (.iconst 1, 1) := by decide +kernel
theorem dX1_takenBy_40 : decode cX1_takenBy 40 = .ok (.if_icmp .ne 19, 3) := by decide +kernel
theorem dX1_takenBy_43 : decode cX1_takenBy 43 = .ok (.iload 4, 2) := by decide +kernel
theorem dX1_takenBy_45 : decode cX1_takenBy 45 = .ok (.iload 6, 2) := by decide +kernel
theorem dX1_takenBy_47 : decode cX1_takenBy 47 = .ok (.iload 5, 2) := by decide +kernel
theorem dX1_takenBy_49 : decode cX1_takenBy 49 = .ok (.iload 4, 2) := by decide +kernel
theorem dX1_takenBy_51 : decode cX1_takenBy 51 = .ok (.isub, 1) := by decide +kernel
theorem dX1_takenBy_52 : decode cX1_takenBy 52 = .ok (.imul, 1) := by decide +kernel
theorem dX1_takenBy_53 : decode cX1_takenBy 53 = .ok (.sipush 255, 3) := by decide +kernel
theorem dX1_takenBy_56 : decode cX1_takenBy 56 = .ok (.idiv, 1) := by decide +kernel
theorem dX1_takenBy_57 : decode cX1_takenBy 57 = .ok (.iadd, 1) := by decide +kernel
theorem dX1_takenBy_58 : decode cX1_takenBy 58 = .ok (.ireturn, 1) := by decide +kernel
theorem dX1_takenBy_59 : decode cX1_takenBy 59 = .ok (.aload_n 0, 1) := by decide +kernel
theorem dX1_takenBy_60 : decode cX1_takenBy 60 = .ok (.getfield 19, 3) := by decide +kernel
theorem dX1_takenBy_63 : decode cX1_takenBy 63 = .ok (.iload_n 1, 1) := by decide +kernel
theorem dX1_takenBy_64 : decode cX1_takenBy 64 = .ok (.iaload, 1) := by decide +kernel
theorem dX1_takenBy_65 : decode cX1_takenBy 65 = .ok (.iconst 2, 1) := by decide +kernel
theorem dX1_takenBy_66 : decode cX1_takenBy 66 = .ok (.if_icmp .ne 41, 3) := by decide +kernel
theorem dX1_takenBy_69 : decode cX1_takenBy 69 = .ok (.iload 6, 2) := by decide +kernel
theorem dX1_takenBy_71 : decode cX1_takenBy 71 = .ok (.iload 5, 2) := by decide +kernel
theorem dX1_takenBy_73 : decode cX1_takenBy 73 = .ok (.if_icmp .le 13, 3) := by decide +kernel
theorem dX1_takenBy_76 : decode cX1_takenBy 76 = .ok (.iconst 2, 1) := by decide +kernel
theorem dX1_takenBy_77 : decode cX1_takenBy 77 = .ok (.iload 5, 2) := by decide +kernel
theorem dX1_takenBy_79 : decode cX1_takenBy 79 = .ok (.imul, 1) := by decide +kernel
theorem dX1_takenBy_80 : decode cX1_takenBy 80 = .ok (.iload 6, 2) := by decide +kernel
theorem dX1_takenBy_82 : decode cX1_takenBy 82 = .ok (.isub, 1) := by decide +kernel
theorem dX1_takenBy_83 : decode cX1_takenBy 83 = .ok (.goto 22, 3) := by decide +kernel
theorem dX1_takenBy_86 : decode cX1_takenBy 86 = .ok (.iload 6, 2) := by decide +kernel
theorem dX1_takenBy_88 : decode cX1_takenBy 88 = .ok (.iload 4, 2) := by decide +kernel
theorem dX1_takenBy_90 : decode cX1_takenBy 90 = .ok (.if_icmp .ge 13, 3) := by decide +kernel
theorem dX1_takenBy_93 : decode cX1_takenBy 93 = .ok (.iconst 2, 1) := by decide +kernel
theorem dX1_takenBy_94 : decode cX1_takenBy 94 = .ok (.iload 4, 2) := by decide +kernel
theorem dX1_takenBy_96 : decode cX1_takenBy 96 = .ok (.imul, 1) := by decide +kernel
theorem dX1_takenBy_97 : decode cX1_takenBy 97 = .ok (.iload 6, 2) := by decide +kernel
theorem dX1_takenBy_99 : decode cX1_takenBy 99 = .ok (.isub, 1) := by decide +kernel
theorem dX1_takenBy_100 : decode cX1_takenBy 100 = .ok (.goto 5, 3) := by decide +kernel
theorem dX1_takenBy_103 : decode cX1_takenBy 103 = .ok (.iload 6, 2) := by decide +kernel
theorem dX1_takenBy_105 : decode cX1_takenBy 105 = .ok (.istore 6, 2) := by decide +kernel
theorem dX1_takenBy_107 : decode cX1_takenBy 107 = .ok (.iload 6, 2) := by decide +kernel
theorem dX1_takenBy_109 : decode cX1_takenBy 109 = .ok (.iload 4, 2) := by decide +kernel
theorem dX1_takenBy_111 : decode cX1_takenBy 111 = .ok (.if_icmp .ge 8, 3) := by decide +kernel
theorem dX1_takenBy_114 : decode cX1_takenBy 114 = .ok (.iload 4, 2) := by decide +kernel
theorem dX1_takenBy_116 : decode cX1_takenBy 116 = .ok (.goto 17, 3) := by decide +kernel
theorem dX1_takenBy_119 : decode cX1_takenBy 119 = .ok (.iload 6, 2) := by decide +kernel
theorem dX1_takenBy_121 : decode cX1_takenBy 121 = .ok (.iload 5, 2) := by decide +kernel
theorem dX1_takenBy_123 : decode cX1_takenBy 123 = .ok (.if_icmp .le 8, 3) := by decide +kernel
theorem dX1_takenBy_126 : decode cX1_takenBy 126 = .ok (.iload 5, 2) := by decide +kernel
theorem dX1_takenBy_128 : decode cX1_takenBy 128 = .ok (.goto 5, 3) := by decide +kernel
theorem dX1_takenBy_131 : decode cX1_takenBy 131 = .ok (.iload 6, 2) := by decide +kernel
theorem dX1_takenBy_133 : decode cX1_takenBy 133 = .ok (.ireturn, 1) := by decide +kernel
set_option maxRecDepth 20000 in
theorem ggX1_throughOf_X1_takenBy : GoodIn wsX1_throughOf wsX1_takenBy := goodIn_r _ [7, 8, 9, 10, 11, 12, 13, 6, 14, 15, 16, 17, 18, 19, 20, 21, 22, 23, 24, 25, 26, 27, 28, 29, 30, 31, 32, 33, 34, 35, 36, 37, 38, 39, 40, 41, 42] (by decide +kernel) (by decide +kernel)
set_option maxRecDepth 20000 in
theorem gX1_throughOf_X1_takenBy : GoodIn wsX1_throughOf (wsV RX1 79 RX1 yX1_takenBy wsX1_takenBy) := goodIn_app (goodIn_of _ (by decide +kernel)) ggX1_throughOf_X1_takenBy
theorem dX1_throughOf_0 : decode cX1_throughOf 0 = .ok (.iload_n 3, 1) := by decide +kernel
theorem dX1_throughOf_1 : decode cX1_throughOf 1 = .ok (.istore 4, 2) := by decide +kernel
theorem dX1_throughOf_3 : decode cX1_throughOf 3 = .ok (.iconst 0, 1) := by decide +kernel
theorem dX1_throughOf_4 : decode cX1_throughOf 4 = .ok (.istore 5, 2) := by decide +kernel
theorem dX1_throughOf_6 : decode cX1_throughOf 6 = .ok (.iload 5, 2) := by decide +kernel
theorem dX1_throughOf_8 : decode cX1_throughOf 8 = .ok (.aload_n 0, 1) := by decide +kernel
theorem dX1_throughOf_9 : decode cX1_throughOf 9 = .ok (.getfield 22, 3) := by decide +kernel
theorem dX1_throughOf_12 : decode cX1_throughOf 12 = .ok (.iload_n 1, 1) := by decide +kernel
theorem dX1_throughOf_13 : decode cX1_throughOf 13 = .ok (.iaload, 1) := by decide +kernel
theorem dX1_throughOf_14 : decode cX1_throughOf 14 = .ok (.if_icmp .ge 30, 3) := by decide +kernel
theorem dX1_throughOf_17 : decode cX1_throughOf 17 = .ok (.aload_n 0, 1) := by decide +kernel
theorem dX1_throughOf_18 : decode cX1_throughOf 18 = .ok (.aload_n 0, 1) := by decide +kernel
theorem dX1_throughOf_19 : decode cX1_throughOf 19 = .ok (.getfield 25, 3) := by decide +kernel
theorem dX1_throughOf_22 : decode cX1_throughOf 22 = .ok (.bipush 6, 2) := by decide +kernel
theorem dX1_throughOf_24 : decode cX1_throughOf 24 = .ok (.iload_n 1, 1) := by decide +kernel
theorem dX1_throughOf_25 : decode cX1_throughOf 25 = .ok (.imul, 1) := by decide +kernel
theorem dX1_throughOf_26 : decode cX1_throughOf 26 = .ok (.iload 5, 2) := by decide +kernel
theorem dX1_throughOf_28 : decode cX1_throughOf 28 = .ok (.iadd, 1) := by decide +kernel
theorem dX1_throughOf_29 : decode cX1_throughOf 29 = .ok (.iaload, 1) := by decide +kernel
theorem dX1_throughOf_30 : decode cX1_throughOf 30 = .ok (.iload_n 2, 1) := by decide +kernel
theorem dX1_throughOf_31 : decode cX1_throughOf 31 = .ok (.iload 4, 2) := by decide +kernel
theorem dX1_throughOf_33 : decode cX1_throughOf 33 = .ok (.invokevirtual 79, 3) := by decide +kernel
theorem dX1_throughOf_36 : decode cX1_throughOf 36 = .ok (.istore 4, 2) := by decide +kernel
theorem dX1_throughOf_38 : decode cX1_throughOf 38 = .ok (.iinc 5 1, 3) := by decide +kernel
theorem dX1_throughOf_41 : decode cX1_throughOf 41 = .ok (.goto (-35), 3) := by decide +kernel
theorem dX1_throughOf_44 : decode cX1_throughOf 44 = .ok (.iload 4, 2) := by decide +kernel
theorem dX1_throughOf_46 : decode cX1_throughOf 46 = .ok (.ireturn, 1) := by decide +kernel
theorem dX1_isHeld_0 : decode cX1_isHeld 0 = .ok (.iconst 0, 1) := by decide +kernel
theorem dX1_isHeld_1 : decode cX1_isHeld 1 = .ok (.istore_n 2, 1) := by decide +kernel
theorem dX1_isHeld_2 : decode cX1_isHeld 2 = .ok (.iconst 0, 1) := by decide +kernel
theorem dX1_isHeld_3 : decode cX1_isHeld 3 = .ok (.istore_n 3, 1) := by decide +kernel
theorem dX1_isHeld_4 : decode cX1_isHeld 4 = .ok (.iload_n 3, 1) := by decide +kernel
theorem dX1_isHeld_5 : decode cX1_isHeld 5 = .ok (.aload_n 0, 1) := by decide +kernel
theorem dX1_isHeld_6 : decode cX1_isHeld 6 = .ok (.getfield 61, 3) := by decide +kernel
theorem dX1_isHeld_9 : decode cX1_isHeld 9 = .ok (.if_icmp .ge 64, 3) := by decide +kernel
theorem dX1_isHeld_12 : decode cX1_isHeld 12 = .ok (.iconst 0, 1) := by decide +kernel
theorem dX1_isHeld_13 : decode cX1_isHeld 13 = .ok (.istore 4, 2) := by decide +kernel
theorem dX1_isHeld_15 : decode cX1_isHeld 15 = .ok (.iload 4, 2) := by decide +kernel
theorem dX1_isHeld_17 : decode cX1_isHeld 17 = .ok (.aload_n 0, 1) := by decide +kernel
theorem dX1_isHeld_18 : decode cX1_isHeld 18 = .ok (.getfield 22, 3) := by decide +kernel
theorem dX1_isHeld_21 : decode cX1_isHeld 21 = .ok (.iload_n 3, 1) := by decide +kernel
theorem dX1_isHeld_22 : decode cX1_isHeld 22 = .ok (.iaload, 1) := by decide +kernel
theorem dX1_isHeld_23 : decode cX1_isHeld 23 = .ok (.if_icmp .ge 44, 3) := by decide +kernel
theorem dX1_isHeld_26 : decode cX1_isHeld 26 = .ok (.iload_n 2, 1) := by decide +kernel
theorem dX1_isHeld_27 : decode cX1_isHeld 27 = .ok (.ifCond .ne 28, 3) := by decide +kernel
theorem dX1_isHeld_30 : decode cX1_isHeld 30 = .ok (.aload_n 0, 1) := by decide +kernel
theorem dX1_isHeld_31 : decode cX1_isHeld 31 = .ok (.getfield 32, 3) := by decide +kernel
theorem dX1_isHeld_34 : decode cX1_isHeld 34 = .ok (.iload_n 3, 1) := by decide +kernel
theorem dX1_isHeld_35 : decode cX1_isHeld 35 = .ok (.baload, 1) := by decide +kernel
theorem dX1_isHeld_36 : decode cX1_isHeld 36 = .ok (.ifCond .eq 23, 3) := by decide +kernel
theorem dX1_isHeld_39 : decode cX1_isHeld 39 = .ok (.aload_n 0, 1) := by decide +kernel
theorem dX1_isHeld_40 : decode cX1_isHeld 40 = .ok (.getfield 25, 3) := by decide +kernel
theorem dX1_isHeld_43 : decode cX1_isHeld 43 = .ok (.bipush 6, 2) := by decide +kernel
theorem dX1_isHeld_45 : decode cX1_isHeld 45 = .ok (.iload_n 3, 1) := by decide +kernel
theorem dX1_isHeld_46 : decode cX1_isHeld 46 = .ok (.imul, 1) := by decide +kernel
theorem dX1_isHeld_47 : decode cX1_isHeld 47 = .ok (.iload 4, 2) := by decide +kernel
theorem dX1_isHeld_49 : decode cX1_isHeld 49 = .ok (.iadd, 1) := by decide +kernel
theorem dX1_isHeld_50 : decode cX1_isHeld 50 = .ok (.iaload, 1) := by decide +kernel
theorem dX1_isHeld_51 : decode cX1_isHeld 51 = .ok (.iload_n 1, 1) := by decide +kernel
theorem dX1_isHeld_52 : decode cX1_isHeld 52 = .ok (.if_icmp .ne 7, 3) := by decide +kernel
theorem dX1_isHeld_55 : decode cX1_isHeld 55 = .ok (.iconst 1, 1) := by decide +kernel
theorem dX1_isHeld_56 : decode cX1_isHeld 56 = .ok (.goto 4, 3) := by decide +kernel
theorem dX1_isHeld_59 : decode cX1_isHeld 59 = .ok (.iconst 0, 1) := by decide +kernel
theorem dX1_isHeld_60 : decode cX1_isHeld 60 = .ok (.istore_n 2, 1) := by decide +kernel
theorem dX1_isHeld_61 : decode cX1_isHeld 61 = .ok (.iinc 4 1, 3) := by decide +kernel
theorem dX1_isHeld_64 : decode cX1_isHeld 64 = .ok (.goto (-49), 3) := by decide +kernel
theorem dX1_isHeld_67 : decode cX1_isHeld 67 = .ok (.iinc 3 1, 3) := by decide +kernel
theorem dX1_isHeld_70 : decode cX1_isHeld 70 = .ok (.goto (-66), 3) := by decide +kernel
theorem dX1_isHeld_73 : decode cX1_isHeld 73 = .ok (.iload_n 2, 1) := by decide +kernel
theorem dX1_isHeld_74 : decode cX1_isHeld 74 = .ok (.ireturn, 1) := by decide +kernel
set_option maxRecDepth 20000 in
theorem ggX1_profile_X1_may : GoodIn wsX1_profile wsX1_may := goodIn_r _ [8, 9, 13, 14, 15, 16, 17, 18, 19, 20, 21, 22, 23, 24, 25, 26, 27, 28] (by decide +kernel) (by decide +kernel)
set_option maxRecDepth 20000 in
theorem gX1_profile_X1_may : GoodIn wsX1_profile (wsV RX1 82 RX1 yX1_may wsX1_may) := goodIn_app (goodIn_of _ (by decide +kernel)) ggX1_profile_X1_may
set_option maxRecDepth 20000 in
theorem ggX1_profile_X1_placeAt : GoodIn wsX1_profile wsX1_placeAt := goodIn_r _ [12] (by decide +kernel) (by decide +kernel)
set_option maxRecDepth 20000 in
theorem gX1_profile_X1_placeAt : GoodIn wsX1_profile (va_wsS RX1 64 yX1_placeAt wsX1_placeAt) := goodIn_app (goodIn_of _ (by decide +kernel)) ggX1_profile_X1_placeAt
theorem dX1_profile_0 : decode cX1_profile 0 = .ok (.aload_n 0, 1) := by decide +kernel
theorem dX1_profile_1 : decode cX1_profile 1 = .ok (.aload_n 0, 1) := by decide +kernel
theorem dX1_profile_2 : decode cX1_profile 2 = .ok (.getfield 58, 3) := by decide +kernel
theorem dX1_profile_5 : decode cX1_profile 5 = .ok (.bipush 8, 2) := by decide +kernel
