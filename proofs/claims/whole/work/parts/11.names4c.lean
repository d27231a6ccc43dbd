set_option maxRecDepth 20000 in
theorem gX1_drop_X1_isChain : GoodIn wsX1_drop (wsV RX1 107 RX1 yX1_isChain wsX1_isChain) := goodIn_app (goodIn_of _ (by decide +kernel)) ggX1_drop_X1_isChain
set_option maxRecDepth 20000 in
theorem ggX1_drop_X1_mayBoth : GoodIn wsX1_drop wsX1_mayBoth := goodIn_r _ [16, 17, 18, 19, 20, 21, 22, 23, 24, 25, 26, 27, 28, 29, 30, 31, 32, 33] (by decide +kernel) (by decide +kernel)
set_option maxRecDepth 20000 in
theorem gX1_drop_X1_mayBoth : GoodIn wsX1_drop (wsV RX1 103 RX1 yX1_mayBoth wsX1_mayBoth) := goodIn_app (goodIn_of _ (by decide +kernel)) ggX1_drop_X1_mayBoth
theorem dX1_drop_0 : decode cX1_drop 0 = .ok (.aload_n 0, 1) := by decide +kernel
theorem dX1_drop_1 : decode cX1_drop 1 = .ok (.iload_n 1, 1) := by decide +kernel
theorem dX1_drop_2 : decode cX1_drop 2 = .ok (.invokevirtual 107, 3) := by decide +kernel
theorem dX1_drop_5 : decode cX1_drop 5 = .ok (.istore_n 2, 1) := by decide +kernel
theorem dX1_drop_6 : decode cX1_drop 6 = .ok (.aload_n 0, 1) := by decide +kernel
theorem dX1_drop_7 : decode cX1_drop 7 = .ok (.iload_n 2, 1) := by decide +kernel
theorem dX1_drop_8 : decode cX1_drop 8 = .ok (.iload_n 2, 1) := by decide +kernel
theorem dX1_drop_9 : decode cX1_drop 9 = .ok (.ifCond .eq 25, 3) := by decide +kernel
theorem dX1_drop_12 : decode cX1_drop 12 = .ok (.aload_n 0, 1) := by decide +kernel
theorem dX1_drop_13 : decode cX1_drop 13 = .ok (.getfield 32, 3) := by decide +kernel
theorem dX1_drop_16 : decode cX1_drop 16 = .ok (.iload_n 1, 1) := by decide +kernel
theorem dX1_drop_17 : decode cX1_drop 17 = .ok (.baload, 1) := by decide +kernel
theorem dX1_drop_18 : decode cX1_drop 18 = .ok (.ifCond .ne 16, 3) := by decide +kernel
theorem dX1_drop_21 : decode cX1_drop 21 = .ok (.aload_n 0, 1) := by decide +kernel
theorem dX1_drop_22 : decode cX1_drop 22 = .ok (.getfield 22, 3) := by decide +kernel
theorem dX1_drop_25 : decode cX1_drop 25 = .ok (.iload_n 1, 1) := by decide +kernel
theorem dX1_drop_26 : decode cX1_drop 26 = .ok (.iaload, 1) := by decide +kernel
theorem dX1_drop_27 : decode cX1_drop 27 = .ok (.ifCond .le 7, 3) := by decide +kernel
theorem dX1_drop_30 : decode cX1_drop 30 = .ok (.iconst 1, 1) := by decide +kernel
theorem dX1_drop_31 : decode cX1_drop 31 = .ok (.goto 4, 3) := by decide +kernel
theorem dX1_drop_34 : decode cX1_drop 34 = .ok (.iconst 0, 1) := by decide +kernel
theorem dX1_drop_35 : decode cX1_drop 35 = .ok (.invokevirtual 103, 3) := by decide +kernel
theorem dX1_drop_38 : decode cX1_drop 38 = .ok (.ifCond .ne 5, 3) := by decide +kernel
theorem dX1_drop_41 : decode cX1_drop 41 = .ok (.iconst 0, 1) := by decide +kernel
theorem dX1_drop_42 : decode cX1_drop 42 = .ok (.ireturn, 1) := by decide +kernel
theorem dX1_drop_43 : decode cX1_drop 43 = .ok (.aload_n 0, 1) := by decide +kernel
theorem dX1_drop_44 : decode cX1_drop 44 = .ok (.getfield 22, 3) := by decide +kernel
theorem dX1_drop_47 : decode cX1_drop 47 = .ok (.iload_n 1, 1) := by decide +kernel
theorem dX1_drop_48 : decode cX1_drop 48 = .ok (.dup2, 1) := by decide +kernel
theorem dX1_drop_49 : decode cX1_drop 49 = .ok (.iaload, 1) := by decide +kernel
theorem dX1_drop_50 : decode cX1_drop 50 = .ok (.iconst 1, 1) := by decide +kernel
theorem dX1_drop_51 : decode cX1_drop 51 = .ok (.isub, 1) := by decide +kernel
theorem dX1_drop_52 : decode cX1_drop 52 = .ok (.iastore, 1) := by decide +kernel
theorem dX1_drop_53 : decode cX1_drop 53 = .ok (.aload_n 0, 1) := by decide +kernel
theorem dX1_drop_54 : decode cX1_drop 54 = .ok (.getfield 25, 3) := by decide +kernel
theorem dX1_drop_57 : decode cX1_drop 57 = .ok (.bipush 6, 2) := by decide +kernel
theorem dX1_drop_59 : decode cX1_drop 59 = .ok (.iload_n 1, 1) := by decide +kernel
theorem dX1_drop_60 : decode cX1_drop 60 = .ok (.imul, 1) := by decide +kernel
theorem dX1_drop_61 : decode cX1_drop 61 = .ok (.aload_n 0, 1) := by decide +kernel
theorem dX1_drop_62 : decode cX1_drop 62 = .ok (.getfield 22, 3) := by decide +kernel
theorem dX1_drop_65 : decode cX1_drop 65 = .ok (.iload_n 1, 1) := by decide +kernel
theorem dX1_drop_66 : decode cX1_drop 66 = .ok (.iaload, 1) := by decide +kernel
theorem dX1_drop_67 : decode cX1_drop 67 = .ok (.iadd, 1) := by decide +kernel
theorem dX1_drop_68 : decode cX1_drop 68 = .ok (.iaload, 1) := by decide +kernel
theorem dX1_drop_69 : decode cX1_drop 69 = .ok (.ireturn, 1) := by decide +kernel
set_option maxRecDepth 20000 in
theorem ggX1_through_X1_isChain : GoodIn wsX1_through wsX1_isChain := goodIn_r _ [5, 6, 7, 8, 4, 9, 50, 51, 52, 53, 54, 55, 56, 57, 58, 59, 60, 61, 62, 63, 64, 65] (by decide +kernel) (by decide +kernel)
set_option maxRecDepth 20000 in
theorem gX1_through_X1_isChain : GoodIn wsX1_through (wsV RX1 107 RX1 yX1_isChain wsX1_isChain) := goodIn_app (goodIn_of _ (by decide +kernel)) ggX1_through_X1_isChain
set_option maxRecDepth 20000 in
theorem ggX1_through_X1_isThird : GoodIn wsX1_through wsX1_isThird := goodIn_r _ [12, 7, 8, 4, 9] (by decide +kernel) (by decide +kernel)
set_option maxRecDepth 20000 in
theorem gX1_through_X1_isThird : GoodIn wsX1_through (va_wsS RX1 90 yX1_isThird wsX1_isThird) := goodIn_app (goodIn_of _ (by decide +kernel)) ggX1_through_X1_isThird
set_option maxRecDepth 20000 in
theorem ggX1_through_X1_isByte : GoodIn wsX1_through wsX1_isByte := goodIn_r _ [15, 7, 8, 4, 9] (by decide +kernel) (by decide +kernel)
set_option maxRecDepth 20000 in
theorem gX1_through_X1_isByte : GoodIn wsX1_through (va_wsS RX1 93 yX1_isByte wsX1_isByte) := goodIn_app (goodIn_of _ (by decide +kernel)) ggX1_through_X1_isByte
set_option maxRecDepth 20000 in
theorem ggX1_through_X1_mayBoth : GoodIn wsX1_through wsX1_mayBoth := goodIn_r _ [19, 20, 50, 51, 52, 53, 54, 55, 56, 57, 58, 59, 60, 61, 62, 63, 64, 65] (by decide +kernel) (by decide +kernel)
set_option maxRecDepth 20000 in
theorem gX1_through_X1_mayBoth : GoodIn wsX1_through (wsV RX1 103 RX1 yX1_mayBoth wsX1_mayBoth) := goodIn_app (goodIn_of _ (by decide +kernel)) ggX1_through_X1_mayBoth
set_option maxRecDepth 20000 in
theorem ggX1_through_X1_throughOf : GoodIn wsX1_through wsX1_throughOf := goodIn_r _ [24, 25, 26, 27, 28, 29, 4, 30, 31, 32, 33, 34, 35, 36, 37, 38, 39, 40, 41, 42, 43, 44, 45, 46, 47, 48, 49, 50, 51, 52, 53, 54, 55, 56, 57, 58, 59, 60, 61, 62, 63, 64, 65] (by decide +kernel) (by decide +kernel)
set_option maxRecDepth 20000 in
theorem gX1_through_X1_throughOf : GoodIn wsX1_through (wsV RX1 110 RX1 yX1_throughOf wsX1_throughOf) := goodIn_app (goodIn_of _ (by decide +kernel)) ggX1_through_X1_throughOf
theorem dX1_through_0 : decode cX1_through 0 = .ok (.aload_n 0, 1) := by decide +kernel
theorem dX1_through_1 : decode cX1_through 1 = .ok (.aload_n 0, 1) := by decide +kernel
theorem dX1_through_2 : decode cX1_through 2 = .ok (.iload_n 1, 1) := by decide +kernel
theorem dX1_through_3 : decode cX1_through 3 = .ok (.invokevirtual 107, 3) := by decide +kernel
theorem dX1_through_6 : decode cX1_through 6 = .ok (.ifCond .eq 14, 3) := by decide +kernel
theorem dX1_through_9 : decode cX1_through 9 = .ok (.iload_n 2, 1) := by decide +kernel
theorem dX1_through_10 : decode cX1_through 10 = .ok (.invokestatic 90, 3) := by decide +kernel
theorem dX1_through_13 : decode cX1_through 13 = .ok (.ifCond .eq 7, 3) := by decide +kernel
theorem dX1_through_16 : decode cX1_through 16 = .ok (.iconst 1, 1) := by decide +kernel
theorem dX1_through_17 : decode cX1_through 17 = .ok (.goto 4, 3) := by decide +kernel
theorem dX1_through_20 : decode cX1_through 20 = .ok (.iconst 0, 1) := by decide +kernel
theorem dX1_through_21 : decode cX1_through 21 = .ok (.iload_n 3, 1) := by decide +kernel
theorem dX1_through_22 : decode cX1_through 22 = .ok (.invokestatic 93, 3) := by decide +kernel
theorem dX1_through_25 : decode cX1_through 25 = .ok (.invokevirtual 103, 3) := by decide +kernel
theorem dX1_through_28 : decode cX1_through 28 = .ok (.ifCond .eq 13, 3) := by decide +kernel
theorem dX1_through_31 : decode cX1_through 31 = .ok (.aload_n 0, 1) := by decide +kernel
theorem dX1_through_32 : decode cX1_through 32 = .ok (.iload_n 1, 1) := by decide +kernel
theorem dX1_through_33 : decode cX1_through 33 = .ok (.iload_n 2, 1) := by decide +kernel
theorem dX1_through_34 : decode cX1_through 34 = .ok (.iload_n 3, 1) := by decide +kernel
theorem dX1_through_35 : decode cX1_through 35 = .ok (.invokevirtual 110, 3) := by decide +kernel
theorem dX1_through_38 : decode cX1_through 38 = .ok (.goto 4, 3) := by decide +kernel
theorem dX1_through_41 : decode cX1_through 41 = .ok (.iconst 0, 1) := by decide +kernel
theorem dX1_through_42 : decode cX1_through 42 = .ok (.ireturn, 1) := by decide +kernel
theorem dX1_apart_0 : decode cX1_apart 0 = .ok (.iload_n 0, 1) := by decide +kernel
theorem dX1_apart_1 : decode cX1_apart 1 = .ok (.iload_n 1, 1) := by decide +kernel
theorem dX1_apart_2 : decode cX1_apart 2 = .ok (.if_icmp .le 9, 3) := by decide +kernel
theorem dX1_apart_5 : decode cX1_apart 5 = .ok (.iload_n 0, 1) := by decide +kernel
theorem dX1_apart_6 : decode cX1_apart 6 = .ok (.iload_n 1, 1) := by decide +kernel
theorem dX1_apart_7 : decode cX1_apart 7 = .ok (.isub, 1) := by decide +kernel
theorem dX1_apart_8 : decode cX1_apart 8 = .ok (.goto 6, 3) := by decide +kernel
theorem dX1_apart_11 : decode cX1_apart 11 = .ok (.iload_n 1, 1) := by decide +kernel
theorem dX1_apart_12 : decode cX1_apart 12 = .ok (.iload_n 0, 1) := by decide +kernel
theorem dX1_apart_13 : decode cX1_apart 13 = .ok (.isub, 1) := by decide +kernel
theorem dX1_apart_14 : decode cX1_apart 14 = .ok (.ireturn, 1) := by decide +kernel
set_option maxRecDepth 20000 in
theorem ggX1_gapOf_X1_throughOf : GoodIn wsX1_gapOf wsX1_throughOf := goodIn_r _ [5, 6, 7, 8, 9, 10, 4, 11, 12, 13, 14, 15, 16, 17, 18, 19, 20, 21, 22, 23, 24, 25, 26, 27, 28, 29, 30, 34, 35, 36, 37, 38, 39, 40, 41, 42, 43, 44, 45, 46, 47, 48, 49] (by decide +kernel) (by decide +kernel)
set_option maxRecDepth 20000 in
theorem gX1_gapOf_X1_throughOf : GoodIn wsX1_gapOf (wsV RX1 110 RX1 yX1_throughOf wsX1_throughOf) := goodIn_app (goodIn_of _ (by decide +kernel)) ggX1_gapOf_X1_throughOf
set_option maxRecDepth 20000 in
theorem ggX1_gapOf_X1_placeAt : GoodIn wsX1_gapOf wsX1_placeAt := goodIn_r _ [27] (by decide +kernel) (by decide +kernel)
set_option maxRecDepth 20000 in
theorem gX1_gapOf_X1_placeAt : GoodIn wsX1_gapOf (va_wsS RX1 64 yX1_placeAt wsX1_placeAt) := goodIn_app (goodIn_of _ (by decide +kernel)) ggX1_gapOf_X1_placeAt
set_option maxRecDepth 20000 in
theorem ggX1_gapOf_X1_quotient : GoodIn wsX1_gapOf wsX1_quotient := goodIn_r _ [30] (by decide +kernel) (by decide +kernel)
set_option maxRecDepth 20000 in
theorem gX1_gapOf_X1_quotient : GoodIn wsX1_gapOf (va_wsS RX1 68 yX1_quotient wsX1_quotient) := goodIn_app (goodIn_of _ (by decide +kernel)) ggX1_gapOf_X1_quotient
set_option maxRecDepth 20000 in
theorem ggX1_gapOf_X1_apart : GoodIn wsX1_gapOf wsX1_apart := goodIn_r _ [33] (by decide +kernel) (by decide +kernel)
set_option maxRecDepth 20000 in
theorem gX1_gapOf_X1_apart : GoodIn wsX1_gapOf (va_wsS RX1 113 yX1_apart wsX1_apart) := goodIn_app (goodIn_of _ (by decide +kernel)) ggX1_gapOf_X1_apart
theorem dX1_gapOf_0 : decode cX1_gapOf 0 = .ok (.iconst 0, 1) := by decide +kernel
theorem dX1_gapOf_1 : decode cX1_gapOf 1 = .ok (.istore_n 2, 1) := by decide +kernel
theorem dX1_gapOf_2 : decode cX1_gapOf 2 = .ok (.iconst 0, 1) := by decide +kernel
theorem dX1_gapOf_3 : decode cX1_gapOf 3 = .ok (.istore_n 3, 1) := by decide +kernel
theorem dX1_gapOf_4 : decode cX1_gapOf 4 = .ok (.iload_n 3, 1) := by decide +kernel
theorem dX1_gapOf_5 : decode cX1_gapOf 5 = .ok (.iconst 3, 1) := by decide +kernel
theorem dX1_gapOf_6 : decode cX1_gapOf 6 = .ok (.if_icmp .ge 168, 3) := by decide +kernel
theorem dX1_gapOf_9 : decode cX1_gapOf 9 = .ok (.iconst 0, 1) := by decide +kernel
theorem dX1_gapOf_10 : decode cX1_gapOf 10 = .ok (.istore 4, 2) := by decide +kernel
theorem dX1_gapOf_12 : decode cX1_gapOf 12 = .ok (.iload 4, 2) := by decide +kernel
theorem dX1_gapOf_14 : decode cX1_gapOf 14 = .ok (.sipush 256, 3) := by decide +kernel
theorem dX1_gapOf_17 : decode cX1_gapOf 17 = .ok (.if_icmp .ge 151, 3) := by decide +kernel
theorem dX1_gapOf_20 : decode cX1_gapOf 20 = .ok (.aload_n 0, 1) := by decide +kernel
theorem dX1_gapOf_21 : decode cX1_gapOf 21 = .ok (.iload_n 1, 1) := by decide +kernel
theorem dX1_gapOf_22 : decode cX1_gapOf 22 = .ok (.iload_n 3, 1) := by decide +kernel
theorem dX1_gapOf_23 : decode cX1_gapOf 23 = .ok (.iload 4, 2) := by decide +kernel
theorem dX1_gapOf_25 : decode cX1_gapOf 25 = .ok (.invokevirtual 110, 3) := by decide +kernel
theorem dX1_gapOf_28 : decode cX1_gapOf 28 = .ok (.istore 5, 2) := by decide +kernel
theorem dX1_gapOf_30 : decode cX1_gapOf 30 = .ok (.iload 4, 2) := by decide +kernel
theorem dX1_gapOf_32 : decode cX1_gapOf 32 = .ok (.sipush 255, 3) := by decide +kernel
theorem dX1_gapOf_35 : decode cX1_gapOf 35 = .ok (.if_icmp .ne 7, 3) := by decide +kernel
theorem dX1_gapOf_38 : decode cX1_gapOf 38 = .ok (.iconst 3, 1) := by decide +kernel
theorem dX1_gapOf_39 : decode cX1_gapOf 39 = .ok (.goto 8, 3) := by decide +kernel
theorem dX1_gapOf_42 : decode cX1_gapOf 42 = .ok (.iload 4, 2) := by decide +kernel
theorem dX1_gapOf_44 : decode cX1_gapOf 44 = .ok (.bipush 64, 2) := by decide +kernel
theorem dX1_gapOf_46 : decode cX1_gapOf 46 = .ok (.idiv, 1) := by decide +kernel
theorem dX1_gapOf_47 : decode cX1_gapOf 47 = .ok (.istore 6, 2) := by decide +kernel
theorem dX1_gapOf_49 : decode cX1_gapOf 49 = .ok (.aload_n 0, 1) := by decide +kernel
theorem dX1_gapOf_50 : decode cX1_gapOf 50 = .ok (.iload_n 1, 1) := by decide +kernel
theorem dX1_gapOf_51 : decode cX1_gapOf 51 = .ok (.iload_n 3, 1) := by decide +kernel
theorem dX1_gapOf_52 : decode cX1_gapOf 52 = .ok (.iload 6, 2) := by decide +kernel
theorem dX1_gapOf_54 : decode cX1_gapOf 54 = .ok (.invokestatic 64, 3) := by decide +kernel
theorem dX1_gapOf_57 : decode cX1_gapOf 57 = .ok (.invokevirtual 110, 3) := by decide +kernel
theorem dX1_gapOf_60 : decode cX1_gapOf 60 = .ok (.istore 7, 2) := by decide +kernel
theorem dX1_gapOf_62 : decode cX1_gapOf 62 = .ok (.aload_n 0, 1) := by decide +kernel
theorem dX1_gapOf_63 : decode cX1_gapOf 63 = .ok (.iload_n 1, 1) := by decide +kernel
theorem dX1_gapOf_64 : decode cX1_gapOf 64 = .ok (.iload_n 3, 1) := by decide +kernel
theorem dX1_gapOf_65 : decode cX1_gapOf 65 = .ok (.iload 6, 2) := by decide +kernel
theorem dX1_gapOf_67 : decode cX1_gapOf 67 = .ok (.iconst 1, 1) := by decide +kernel
theorem dX1_gapOf_68 : decode cX1_gapOf 68 = .ok (.iadd, 1) := by decide +kernel
theorem dX1_gapOf_69 : decode cX1_gapOf 69 = .ok (.invokestatic 64, 3) := by decide +kernel
theorem dX1_gapOf_72 : decode cX1_gapOf 72 = .ok (.invokevirtual 110, 3) := by decide +kernel
theorem dX1_gapOf_75 : decode cX1_gapOf 75 = .ok (.istore 8, 2) := by decide +kernel
theorem dX1_gapOf_77 : decode cX1_gapOf 77 = .ok (.iload 4, 2) := by decide +kernel
theorem dX1_gapOf_79 : decode cX1_gapOf 79 = .ok (.iload 6, 2) := by decide +kernel
theorem dX1_gapOf_81 : decode cX1_gapOf 81 = .ok (.invokestatic 64, 3) := by decide +kernel
theorem dX1_gapOf_84 : decode cX1_gapOf 84 = .ok (.isub, 1) := by decide +kernel
theorem dX1_gapOf_85 : decode cX1_gapOf 85 = .ok (.istore 9, 2) := by decide +kernel
theorem dX1_gapOf_87 : decode cX1_gapOf 87 = .ok (.iload 9, 2) := by decide +kernel
theorem dX1_gapOf_89 : decode cX1_gapOf 89 = .ok (.iload 6, 2) := by decide +kernel
theorem dX1_gapOf_91 : decode cX1_gapOf 91 = .ok (.iconst 1, 1) := by decide +kernel
theorem dX1_gapOf_92 : decode cX1_gapOf 92 = .ok (.iadd, 1) := by decide +kernel
theorem dX1_gapOf_93 : decode cX1_gapOf 93 = .ok (.invokestatic 64, 3) := by decide +kernel
theorem dX1_gapOf_96 : decode cX1_gapOf 96 = .ok (.iload 6, 2) := by decide +kernel
theorem dX1_gapOf_98 : decode cX1_gapOf 98 = .ok (.invokestatic 64, 3) := by decide +kernel
theorem dX1_gapOf_101 : decode cX1_gapOf 101 = .ok (.isub, 1) := by decide +kernel
theorem dX1_gapOf_102 : decode cX1_gapOf 102 = .ok (.if_icmp .ne 8, 3) := by decide +kernel
theorem dX1_gapOf_105 : decode cX1_gapOf 105 = .ok (.iload 8, 2) := by decide +kernel
theorem dX1_gapOf_107 : decode cX1_gapOf 107 = .ok (.goto 30, 3) := by decide +kernel
theorem dX1_gapOf_110 : decode cX1_gapOf 110 = .ok (.iload 7, 2) := by decide +kernel
theorem dX1_gapOf_112 : decode cX1_gapOf 112 = .ok (.iload 8, 2) := by decide +kernel
theorem dX1_gapOf_114 : decode cX1_gapOf 114 = .ok (.iload 7, 2) := by decide +kernel
theorem dX1_gapOf_116 : decode cX1_gapOf 116 = .ok (.isub, 1) := by decide +kernel
theorem dX1_gapOf_117 : decode cX1_gapOf 117 = .ok (.iload 9, 2) := by decide +kernel
theorem dX1_gapOf_119 : decode cX1_gapOf 119 = .ok (.imul, 1) := by decide +kernel
theorem dX1_gapOf_120 : decode cX1_gapOf 120 = .ok (.iload 6, 2) := by decide +kernel
theorem dX1_gapOf_122 : decode cX1_gapOf 122 = .ok (.iconst 1, 1) := by decide +kernel
theorem dX1_gapOf_123 : decode cX1_gapOf 123 = .ok (.iadd, 1) := by decide +kernel
theorem dX1_gapOf_124 : decode cX1_gapOf 124 = .ok (.invokestatic 64, 3) := by decide +kernel
theorem dX1_gapOf_127 : decode cX1_gapOf 127 = .ok (.iload 6, 2) := by decide +kernel
theorem dX1_gapOf_129 : decode cX1_gapOf 129 = .ok (.invokestatic 64, 3) := by decide +kernel
theorem dX1_gapOf_132 : decode cX1_gapOf 132 = .ok (.isub, 1) := by decide +kernel
theorem dX1_gapOf_133 : decode cX1_gapOf 133 = .ok (.invokestatic 68, 3) := by decide +kernel
theorem dX1_gapOf_136 : decode cX1_gapOf 136 = .ok (.iadd, 1) := by decide +kernel
theorem dX1_gapOf_137 : decode cX1_gapOf 137 = .ok (.istore 10, 2) := by decide +kernel
theorem dX1_gapOf_139 : decode cX1_gapOf 139 = .ok (.iload 5, 2) := by decide +kernel
theorem dX1_gapOf_141 : decode cX1_gapOf 141 = .ok (.iload 10, 2) := by decide +kernel
theorem dX1_gapOf_143 : decode cX1_gapOf 143 = .ok (.invokestatic 113, 3) := by decide +kernel
theorem dX1_gapOf_146 : decode cX1_gapOf 146 = .ok (.iload_n 2, 1) := by decide +kernel
theorem dX1_gapOf_147 : decode cX1_gapOf 147 = .ok (.if_icmp .le 13, 3) := by decide +kernel
theorem dX1_gapOf_150 : decode cX1_gapOf 150 = .ok (.iload 5, 2) := by decide +kernel
theorem dX1_gapOf_152 : decode cX1_gapOf 152 = .ok (.iload 10, 2) := by decide +kernel
theorem dX1_gapOf_154 : decode cX1_gapOf 154 = .ok (.invokestatic 113, 3) := by decide +kernel
theorem dX1_gapOf_157 : decode cX1_gapOf 157 = .ok (.goto 4, 3) := by decide +kernel
theorem dX1_gapOf_160 : decode cX1_gapOf 160 = .ok (.iload_n 2, 1) := by decide +kernel
theorem dX1_gapOf_161 : decode cX1_gapOf 161 = .ok (.istore_n 2, 1) := by decide +kernel
theorem dX1_gapOf_162 : decode cX1_gapOf 162 = .ok (.iinc 4 1, 3) := by decide +kernel
theorem dX1_gapOf_165 : decode cX1_gapOf 165 = .ok (.goto (-153), 3) := by decide +kernel
theorem dX1_gapOf_168 : decode cX1_gapOf 168 = .ok (.iinc 3 1, 3) := by decide +kernel
theorem dX1_gapOf_171 : decode cX1_gapOf 171 = .ok (.goto (-167), 3) := by decide +kernel
theorem dX1_gapOf_174 : decode cX1_gapOf 174 = .ok (.iload_n 2, 1) := by decide +kernel
theorem dX1_gapOf_175 : decode cX1_gapOf 175 = .ok (.ireturn, 1) := by decide +kernel
set_option maxRecDepth 20000 in
theorem ggX1_gap_X1_isChain : GoodIn wsX1_gap wsX1_isChain := goodIn_r _ [5, 6, 7, 8, 4, 9, 51, 52, 53, 54, 55, 56, 57, 58, 59, 60, 61, 62, 63, 64, 65, 66] (by decide +kernel) (by decide +kernel)
set_option maxRecDepth 20000 in
theorem gX1_gap_X1_isChain : GoodIn wsX1_gap (wsV RX1 107 RX1 yX1_isChain wsX1_isChain) := goodIn_app (goodIn_of _ (by decide +kernel)) ggX1_gap_X1_isChain
set_option maxRecDepth 20000 in
theorem ggX1_gap_X1_may : GoodIn wsX1_gap wsX1_may := goodIn_r _ [13, 14, 51, 52, 53, 54, 55, 56, 57, 58, 59, 60, 61, 62, 63, 64, 65, 66] (by decide +kernel) (by decide +kernel)
set_option maxRecDepth 20000 in
theorem gX1_gap_X1_may : GoodIn wsX1_gap (wsV RX1 82 RX1 yX1_may wsX1_may) := goodIn_app (goodIn_of _ (by decide +kernel)) ggX1_gap_X1_may
set_option maxRecDepth 20000 in
theorem ggX1_gap_X1_gapOf : GoodIn wsX1_gap wsX1_gapOf := goodIn_r _ [18, 19, 20, 21, 4, 22, 23, 24, 25, 26, 27, 28, 29, 30, 31, 32, 33, 34, 35, 36, 37, 38, 39, 40, 41, 42, 43, 44, 45, 46, 47, 48, 49, 50, 51, 52, 53, 54, 55, 56, 57, 58, 59, 60, 61, 62, 63, 64, 65, 66] (by decide +kernel) (by decide +kernel)
set_option maxRecDepth 20000 in
theorem gX1_gap_X1_gapOf : GoodIn wsX1_gap (wsV RX1 116 RX1 yX1_gapOf wsX1_gapOf) := goodIn_app (goodIn_of _ (by decide +kernel)) ggX1_gap_X1_gapOf
theorem dX1_gap_0 : decode cX1_gap 0 = .ok (.aload_n 0, 1) := by decide +kernel
theorem dX1_gap_1 : decode cX1_gap 1 = .ok (.aload_n 0, 1) := by decide +kernel
theorem dX1_gap_2 : decode cX1_gap 2 = .ok (.iload_n 1, 1) := by decide +kernel
theorem dX1_gap_3 : decode cX1_gap 3 = .ok (.invokevirtual 107, 3) := by decide +kernel
theorem dX1_gap_6 : decode cX1_gap 6 = .ok (.invokevirtual 82, 3) := by decide +kernel
theorem dX1_gap_9 : decode cX1_gap 9 = .ok (.ifCond .eq 11, 3) := by decide +kernel
theorem dX1_gap_12 : decode cX1_gap 12 = .ok (.aload_n 0, 1) := by decide +kernel
theorem dX1_gap_13 : decode cX1_gap 13 = .ok (.iload_n 1, 1) := by decide +kernel
theorem dX1_gap_14 : decode cX1_gap 14 = .ok (.invokevirtual 116, 3) := by decide +kernel
theorem dX1_gap_17 : decode cX1_gap 17 = .ok (.goto 4, 3) := by decide +kernel
theorem dX1_gap_20 : decode cX1_gap 20 = .ok (.iconst 0, 1) := by decide +kernel
theorem dX1_gap_21 : decode cX1_gap 21 = .ok (.ireturn, 1) := by decide +kernel
set_option maxRecDepth 20000 in
theorem ggX1_greyGap_X1_isChain : GoodIn wsX1_greyGap wsX1_isChain := goodIn_r _ [5, 6, 7, 8, 4, 9, 47, 48, 49, 50, 51, 52, 53, 54, 55, 56, 57, 58, 59, 60, 61, 62] (by decide +kernel) (by decide +kernel)
set_option maxRecDepth 20000 in
theorem gX1_greyGap_X1_isChain : GoodIn wsX1_greyGap (wsV RX1 107 RX1 yX1_isChain wsX1_isChain) := goodIn_app (goodIn_of _ (by decide +kernel)) ggX1_greyGap_X1_isChain
set_option maxRecDepth 20000 in
theorem ggX1_greyGap_X1_may : GoodIn wsX1_greyGap wsX1_may := goodIn_r _ [13, 14, 47, 48, 49, 50, 51, 52, 53, 54, 55, 56, 57, 58, 59, 60, 61, 62] (by decide +kernel) (by decide +kernel)
set_option maxRecDepth 20000 in
theorem gX1_greyGap_X1_may : GoodIn wsX1_greyGap (wsV RX1 82 RX1 yX1_may wsX1_may) := goodIn_app (goodIn_of _ (by decide +kernel)) ggX1_greyGap_X1_may
set_option maxRecDepth 20000 in
theorem ggX1_greyGap_X1_throughOf : GoodIn wsX1_greyGap wsX1_throughOf := goodIn_r _ [18, 19, 20, 21, 22, 23, 4, 24, 25, 26, 27, 28, 29, 30, 31, 32, 33, 34, 35, 36, 37, 38, 39, 40, 41, 42, 43, 47, 48, 49, 50, 51, 52, 53, 54, 55, 56, 57, 58, 59, 60, 61, 62] (by decide +kernel) (by decide +kernel)
set_option maxRecDepth 20000 in
theorem gX1_greyGap_X1_throughOf : GoodIn wsX1_greyGap (wsV RX1 110 RX1 yX1_throughOf wsX1_throughOf) := goodIn_app (goodIn_of _ (by decide +kernel)) ggX1_greyGap_X1_throughOf
set_option maxRecDepth 20000 in
theorem ggX1_greyGap_X1_apart : GoodIn wsX1_greyGap wsX1_apart := goodIn_r _ [46] (by decide +kernel) (by decide +kernel)
set_option maxRecDepth 20000 in
theorem gX1_greyGap_X1_apart : GoodIn wsX1_greyGap (va_wsS RX1 113 yX1_apart wsX1_apart) := goodIn_app (goodIn_of _ (by decide +kernel)) ggX1_greyGap_X1_apart
theorem dX1_greyGap_0 : decode cX1_greyGap 0 = .ok (.aload_n 0, 1) := by decide +kernel
theorem dX1_greyGap_1 : decode cX1_greyGap 1 = .ok (.aload_n 0, 1) := by decide +kernel
theorem dX1_greyGap_2 : decode cX1_greyGap 2 = .ok (.iload_n 1, 1) := by decide +kernel
theorem dX1_greyGap_3 : decode cX1_greyGap 3 = .ok (.invokevirtual 107, 3) := by decide +kernel
theorem dX1_greyGap_6 : decode cX1_greyGap 6 = .ok (.invokevirtual 82, 3) := by decide +kernel
theorem dX1_greyGap_9 : decode cX1_greyGap 9 = .ok (.ifCond .ne 5, 3) := by decide +kernel
theorem dX1_greyGap_12 : decode cX1_greyGap 12 = .ok (.iconst 0, 1) := by decide +kernel
theorem dX1_greyGap_13 : decode cX1_greyGap 13 = .ok (.ireturn, 1) := by decide +kernel
theorem dX1_greyGap_14 : decode cX1_greyGap 14 = .ok (.iconst 0, 1) := by decide +kernel
theorem dX1_greyGap_15 : decode cX1_greyGap 15 = .ok (.istore_n 2, 1) := by decide +kernel
theorem dX1_greyGap_16 : decode cX1_greyGap 16 = .ok (.iconst 0, 1) := by decide +kernel
theorem dX1_greyGap_17 : decode cX1_greyGap 17 = .ok (.istore_n 3, 1) := by decide +kernel
theorem dX1_greyGap_18 : decode cX1_greyGap 18 = .ok (.iload_n 3, 1) := by decide +kernel
theorem dX1_greyGap_19 : decode cX1_greyGap 19 = .ok (.sipush 256, 3) := by decide +kernel
theorem dX1_greyGap_22 : decode cX1_greyGap 22 = .ok (.if_icmp .ge 105, 3) := by decide +kernel
theorem dX1_greyGap_25 : decode cX1_greyGap 25 = .ok (.aload_n 0, 1) := by decide +kernel
theorem dX1_greyGap_26 : decode cX1_greyGap 26 = .ok (.iload_n 1, 1) := by decide +kernel
theorem dX1_greyGap_27 : decode cX1_greyGap 27 = .ok (.iconst 0, 1) := by decide +kernel
theorem dX1_greyGap_28 : decode cX1_greyGap 28 = .ok (.iload_n 3, 1) := by decide +kernel
theorem dX1_greyGap_29 : decode cX1_greyGap 29 = .ok (.invokevirtual 110, 3) := by decide +kernel
theorem dX1_greyGap_32 : decode cX1_greyGap 32 = .ok (.istore 4, 2) := by decide +kernel
theorem dX1_greyGap_34 : decode cX1_greyGap 34 = .ok (.aload_n 0, 1) := by decide +kernel
theorem dX1_greyGap_35 : decode cX1_greyGap 35 = .ok (.iload_n 1, 1) := by decide +kernel
theorem dX1_greyGap_36 : decode cX1_greyGap 36 = .ok (.iconst 1, 1) := by decide +kernel
theorem dX1_greyGap_37 : decode cX1_greyGap 37 = .ok (.iload_n 3, 1) := by decide +kernel
theorem dX1_greyGap_38 : decode cX1_greyGap 38 = .ok (.invokevirtual 110, 3) := by decide +kernel
theorem dX1_greyGap_41 : decode cX1_greyGap 41 = .ok (.istore 5, 2) := by decide +kernel
theorem dX1_greyGap_43 : decode cX1_greyGap 43 = .ok (.aload_n 0, 1) := by decide +kernel
theorem dX1_greyGap_44 : decode cX1_greyGap 44 = .ok (.iload_n 1, 1) := by decide +kernel
theorem dX1_greyGap_45 : decode cX1_greyGap 45 = .ok (.iconst 2, 1) := by decide +kernel
theorem dX1_greyGap_46 : decode cX1_greyGap 46 = .ok (.iload_n 3, 1) := by decide +kernel
theorem dX1_greyGap_47 : decode cX1_greyGap 47 = .ok (.invokevirtual 110, 3) := by decide +kernel
theorem dX1_greyGap_50 : decode cX1_greyGap 50 = .ok (.istore 6, 2) := by decide +kernel
theorem dX1_greyGap_52 : decode cX1_greyGap 52 = .ok (.iload 4, 2) := by decide +kernel
theorem dX1_greyGap_54 : decode cX1_greyGap 54 = .ok (.iload 5, 2) := by decide +kernel
theorem dX1_greyGap_56 : decode cX1_greyGap 56 = .ok (.invokestatic 113, 3) := by decide +kernel
theorem dX1_greyGap_59 : decode cX1_greyGap 59 = .ok (.iload_n 2, 1) := by decide +kernel
theorem dX1_greyGap_60 : decode cX1_greyGap 60 = .ok (.if_icmp .le 13, 3) := by decide +kernel
theorem dX1_greyGap_63 : decode cX1_greyGap 63 = .ok (.iload 4, 2) := by decide +kernel
theorem dX1_greyGap_65 : decode cX1_greyGap 65 = .ok (.iload 5, 2) := by decide +kernel
theorem dX1_greyGap_67 : decode cX1_greyGap 67 = .ok (.invokestatic 113, 3) := by decide +kernel
theorem dX1_greyGap_70 : decode cX1_greyGap 70 = .ok (.goto 4, 3) := by decide +kernel
theorem dX1_greyGap_73 : decode cX1_greyGap 73 = .ok (.iload_n 2, 1) := by decide +kernel
theorem dX1_greyGap_74 : decode cX1_greyGap 74 = .ok (.istore_n 2, 1) := by decide +kernel
theorem dX1_greyGap_75 : decode cX1_greyGap 75 = .ok (.iload 4, 2) := by decide +kernel
theorem dX1_greyGap_77 : decode cX1_greyGap 77 = .ok (.iload 6, 2) := by decide +kernel
theorem dX1_greyGap_79 : decode cX1_greyGap 79 = .ok (.invokestatic 113, 3) := by decide +kernel
theorem dX1_greyGap_82 : decode cX1_greyGap 82 = .ok (.iload_n 2, 1) := by decide +kernel
theorem dX1_greyGap_83 : decode cX1_greyGap 83 = .ok (.if_icmp .le 13, 3) := by decide +kernel
theorem dX1_greyGap_86 : decode cX1_greyGap 86 = .ok (.iload 4, 2) := by decide +kernel
theorem dX1_greyGap_88 : decode cX1_greyGap 88 = .ok (.iload 6, 2) := by decide +kernel
theorem dX1_greyGap_90 : decode cX1_greyGap 90 = .ok (.invokestatic 113, 3) := by decide +kernel
theorem dX1_greyGap_93 : decode cX1_greyGap 93 = .ok (.goto 4, 3) := by decide +kernel
theorem dX1_greyGap_96 : decode cX1_greyGap 96 = .ok (.iload_n 2, 1) := by decide +kernel
theorem dX1_greyGap_97 : decode cX1_greyGap 97 = .ok (.istore_n 2, 1) := by decide +kernel
theorem dX1_greyGap_98 : decode cX1_greyGap 98 = .ok (.iload 5, 2) := by decide +kernel
theorem dX1_greyGap_100 : decode cX1_greyGap 100 = .ok (.iload 6, 2) := by decide +kernel
theorem dX1_greyGap_102 : decode cX1_greyGap 102 = .ok (.invokestatic 113, 3) := by decide +kernel
theorem dX1_greyGap_105 : decode cX1_greyGap 105 = .ok (.iload_n 2, 1) := by decide +kernel
theorem dX1_greyGap_106 : decode cX1_greyGap 106 = .ok (.if_icmp .le 13, 3) := by decide +kernel
theorem dX1_greyGap_109 : decode cX1_greyGap 109 = .ok (.iload 5, 2) := by decide +kernel
theorem dX1_greyGap_111 : decode cX1_greyGap 111 = .ok (.iload 6, 2) := by decide +kernel
theorem dX1_greyGap_113 : decode cX1_greyGap 113 = .ok (.invokestatic 113, 3) := by decide +kernel
theorem dX1_greyGap_116 : decode cX1_greyGap 116 = .ok (.goto 4, 3) := by decide +kernel
theorem dX1_greyGap_119 : decode cX1_greyGap 119 = .ok (.iload_n 2, 1) := by decide +kernel
theorem dX1_greyGap_120 : decode cX1_greyGap 120 = .ok (.istore_n 2, 1) := by decide +kernel
theorem dX1_greyGap_121 : decode cX1_greyGap 121 = .ok (.iinc 3 1, 3) := by decide +kernel
theorem dX1_greyGap_124 : decode cX1_greyGap 124 = .ok (.goto (-106), 3) := by decide +kernel
theorem dX1_greyGap_127 : decode cX1_greyGap 127 = .ok (.iload_n 2, 1) := by decide +kernel
theorem dX1_greyGap_128 : decode cX1_greyGap 128 = .ok (.ireturn, 1) := by decide +kernel
set_option maxRecDepth 20000 in
theorem ggX1_join_X1_isChain : GoodIn wsX1_join wsX1_isChain := goodIn_r _ [7, 8, 9, 10, 6, 11, 56, 57, 58, 59, 60, 61, 62, 63, 64, 65, 66, 67, 68, 69, 70, 71] (by decide +kernel) (by decide +kernel)
set_option maxRecDepth 20000 in
theorem gX1_join_X1_isChain : GoodIn wsX1_join (wsV RX1 107 RX1 yX1_isChain wsX1_isChain) := goodIn_app (goodIn_of _ (by decide +kernel)) ggX1_join_X1_isChain
set_option maxRecDepth 20000 in
theorem ggX1_join_X1_gapOf : GoodIn wsX1_join wsX1_gapOf := goodIn_r _ [15, 16, 17, 18, 6, 19, 20, 21, 22, 23, 24, 25, 26, 27, 28, 29, 30, 31, 32, 33, 34, 35, 36, 37, 38, 39, 40, 41, 42, 43, 44, 45, 46, 47, 56, 57, 58, 59, 60, 61, 62, 63, 64, 65, 66, 67, 68, 69, 70, 71] (by decide +kernel) (by decide +kernel)
set_option maxRecDepth 20000 in
theorem gX1_join_X1_gapOf : GoodIn wsX1_join (wsV RX1 116 RX1 yX1_gapOf wsX1_gapOf) := goodIn_app (goodIn_of _ (by decide +kernel)) ggX1_join_X1_gapOf
set_option maxRecDepth 20000 in
theorem ggX1_join_X1_isByte : GoodIn wsX1_join wsX1_isByte := goodIn_r _ [50, 9, 10, 6, 11] (by decide +kernel) (by decide +kernel)
set_option maxRecDepth 20000 in
theorem gX1_join_X1_isByte : GoodIn wsX1_join (va_wsS RX1 93 yX1_isByte wsX1_isByte) := goodIn_app (goodIn_of _ (by decide +kernel)) ggX1_join_X1_isByte
set_option maxRecDepth 20000 in
theorem ggX1_join_X1_mayAll : GoodIn wsX1_join wsX1_mayAll := goodIn_r _ [54, 55, 56, 57, 58, 59, 60, 61, 62, 63, 64, 65, 66, 67, 68, 69, 70, 71] (by decide +kernel) (by decide +kernel)
set_option maxRecDepth 20000 in
theorem gX1_join_X1_mayAll : GoodIn wsX1_join (wsV RX1 99 RX1 yX1_mayAll wsX1_mayAll) := goodIn_app (goodIn_of _ (by decide +kernel)) ggX1_join_X1_mayAll
set_option maxRecDepth 20000 in
theorem ggX1_join_X1_placeAt : GoodIn wsX1_join wsX1_placeAt := goodIn_r _ [41] (by decide +kernel) (by decide +kernel)
set_option maxRecDepth 20000 in
theorem gX1_join_X1_placeAt : GoodIn wsX1_join (va_wsS RX1 64 yX1_placeAt wsX1_placeAt) := goodIn_app (goodIn_of _ (by decide +kernel)) ggX1_join_X1_placeAt
set_option maxRecDepth 20000 in
theorem ggX1_join_X1_throughOf : GoodIn wsX1_join wsX1_throughOf := goodIn_r _ [19, 20, 21, 22, 23, 24, 6, 25, 26, 27, 28, 29, 30, 31, 32, 33, 34, 35, 36, 37, 38, 39, 40, 41, 42, 43, 44, 56, 57, 58, 59, 60, 61, 62, 63, 64, 65, 66, 67, 68, 69, 70, 71] (by decide +kernel) (by decide +kernel)
set_option maxRecDepth 20000 in
theorem gX1_join_X1_throughOf : GoodIn wsX1_join (wsV RX1 110 RX1 yX1_throughOf wsX1_throughOf) := goodIn_app (goodIn_of _ (by decide +kernel)) ggX1_join_X1_throughOf
theorem dX1_join_0 : decode cX1_join 0 = .ok (.aload_n 0, 1) := by decide +kernel
theorem dX1_join_1 : decode cX1_join 1 = .ok (.iload_n 1, 1) := by decide +kernel
theorem dX1_join_2 : decode cX1_join 2 = .ok (.invokevirtual 107, 3) := by decide +kernel
theorem dX1_join_5 : decode cX1_join 5 = .ok (.istore_n 3, 1) := by decide +kernel
theorem dX1_join_6 : decode cX1_join 6 = .ok (.iload_n 3, 1) := by decide +kernel
theorem dX1_join_7 : decode cX1_join 7 = .ok (.ifCond .eq 11, 3) := by decide +kernel
theorem dX1_join_10 : decode cX1_join 10 = .ok (.aload_n 0, 1) := by decide +kernel
theorem dX1_join_11 : decode cX1_join 11 = .ok (.iload_n 1, 1) := by decide +kernel
theorem dX1_join_12 : decode cX1_join 12 = .ok (.invokevirtual 116, 3) := by decide +kernel
theorem dX1_join_15 : decode cX1_join 15 = .ok (.goto 4, 3) := by decide +kernel
theorem dX1_join_18 : decode cX1_join 18 = .ok (.iconst 0, 1) := by decide +kernel
theorem dX1_join_19 : decode cX1_join 19 = .ok (.istore 4, 2) := by decide +kernel
theorem dX1_join_21 : decode cX1_join 21 = .ok (.aload_n 0, 1) := by decide +kernel
theorem dX1_join_22 : decode cX1_join 22 = .ok (.iload_n 3, 1) := by decide +kernel
theorem dX1_join_23 : decode cX1_join 23 = .ok (.iload_n 2, 1) := by decide +kernel
theorem dX1_join_24 : decode cX1_join 24 = .ok (.invokestatic 93, 3) := by decide +kernel
theorem dX1_join_27 : decode cX1_join 27 = .ok (.iload 4, 2) := by decide +kernel
theorem dX1_join_29 : decode cX1_join 29 = .ok (.iload_n 2, 1) := by decide +kernel
theorem dX1_join_30 : decode cX1_join 30 = .ok (.if_icmp .gt 7, 3) := by decide +kernel
theorem dX1_join_33 : decode cX1_join 33 = .ok (.iconst 1, 1) := by decide +kernel
theorem dX1_join_34 : decode cX1_join 34 = .ok (.goto 4, 3) := by decide +kernel
theorem dX1_join_37 : decode cX1_join 37 = .ok (.iconst 0, 1) := by decide +kernel
theorem dX1_join_38 : decode cX1_join 38 = .ok (.invokevirtual 99, 3) := by decide +kernel
theorem dX1_join_41 : decode cX1_join 41 = .ok (.ifCond .ne 5, 3) := by decide +kernel
theorem dX1_join_44 : decode cX1_join 44 = .ok (.iconst 0, 1) := by decide +kernel
theorem dX1_join_45 : decode cX1_join 45 = .ok (.ireturn, 1) := by decide +kernel
theorem dX1_join_46 : decode cX1_join 46 = .ok (.iconst 0, 1) := by decide +kernel
theorem dX1_join_47 : decode cX1_join 47 = .ok (.istore 5, 2) := by decide +kernel
theorem dX1_join_49 : decode cX1_join 49 = .ok (.iload 5, 2) := by decide +kernel
theorem dX1_join_51 : decode cX1_join 51 = .ok (.iconst 3, 1) := by decide +kernel
theorem dX1_join_52 : decode cX1_join 52 = .ok (.if_icmp .ge 53, 3) := by decide +kernel
theorem dX1_join_55 : decode cX1_join 55 = .ok (.iconst 0, 1) := by decide +kernel
theorem dX1_join_56 : decode cX1_join 56 = .ok (.istore 6, 2) := by decide +kernel
theorem dX1_join_58 : decode cX1_join 58 = .ok (.iload 6, 2) := by decide +kernel
theorem dX1_join_60 : decode cX1_join 60 = .ok (.iconst 5, 1) := by decide +kernel
theorem dX1_join_61 : decode cX1_join 61 = .ok (.if_icmp .ge 38, 3) := by decide +kernel
theorem dX1_join_64 : decode cX1_join 64 = .ok (.aload_n 0, 1) := by decide +kernel
theorem dX1_join_65 : decode cX1_join 65 = .ok (.getfield 35, 3) := by decide +kernel
theorem dX1_join_68 : decode cX1_join 68 = .ok (.bipush 15, 2) := by decide +kernel
theorem dX1_join_70 : decode cX1_join 70 = .ok (.iload_n 1, 1) := by decide +kernel
theorem dX1_join_71 : decode cX1_join 71 = .ok (.imul, 1) := by decide +kernel
theorem dX1_join_72 : decode cX1_join 72 = .ok (.iconst 5, 1) := by decide +kernel
theorem dX1_join_73 : decode cX1_join 73 = .ok (.iload 5, 2) := by decide +kernel
theorem dX1_join_75 : decode cX1_join 75 = .ok (.imul, 1) := by decide +kernel
theorem dX1_join_76 : decode cX1_join 76 = .ok (.iadd, 1) := by decide +kernel
theorem dX1_join_77 : decode cX1_join 77 = .ok (.iload 6, 2) := by decide +kernel
theorem dX1_join_79 : decode cX1_join 79 = .ok (.iadd, 1) := by decide +kernel
theorem dX1_join_80 : decode cX1_join 80 = .ok (.aload_n 0, 1) := by decide +kernel
theorem dX1_join_81 : decode cX1_join 81 = .ok (.iload_n 1, 1) := by decide +kernel
theorem dX1_join_82 : decode cX1_join 82 = .ok (.iload 5, 2) := by decide +kernel
theorem dX1_join_84 : decode cX1_join 84 = .ok (.iload 6, 2) := by decide +kernel
theorem dX1_join_86 : decode cX1_join 86 = .ok (.invokestatic 64, 3) := by decide +kernel
theorem dX1_join_89 : decode cX1_join 89 = .ok (.invokevirtual 110, 3) := by decide +kernel
theorem dX1_join_92 : decode cX1_join 92 = .ok (.iastore, 1) := by decide +kernel
theorem dX1_join_93 : decode cX1_join 93 = .ok (.iinc 6 1, 3) := by decide +kernel
theorem dX1_join_96 : decode cX1_join 96 = .ok (.goto (-38), 3) := by decide +kernel
theorem dX1_join_99 : decode cX1_join 99 = .ok (.iinc 5 1, 3) := by decide +kernel
theorem dX1_join_102 : decode cX1_join 102 = .ok (.goto (-53), 3) := by decide +kernel
theorem dX1_join_105 : decode cX1_join 105 = .ok (.aload_n 0, 1) := by decide +kernel
theorem dX1_join_106 : decode cX1_join 106 = .ok (.getfield 28, 3) := by decide +kernel
theorem dX1_join_109 : decode cX1_join 109 = .ok (.iload_n 1, 1) := by decide +kernel
theorem dX1_join_110 : decode cX1_join 110 = .ok (.iconst 1, 1) := by decide +kernel
theorem dX1_join_111 : decode cX1_join 111 = .ok (.bastore, 1) := by decide +kernel
theorem dX1_join_112 : decode cX1_join 112 = .ok (.iload 4, 2) := by decide +kernel
theorem dX1_join_114 : decode cX1_join 114 = .ok (.ireturn, 1) := by decide +kernel
set_option maxRecDepth 20000 in
theorem ggX1_joined_X1_isChain : GoodIn wsX1_joined wsX1_isChain := goodIn_r _ [8, 9, 10, 11, 7, 12, 34, 35, 36, 37, 38, 39, 40, 41, 42, 43, 44, 45, 46, 47, 48, 49] (by decide +kernel) (by decide +kernel)
set_option maxRecDepth 20000 in
theorem gX1_joined_X1_isChain : GoodIn wsX1_joined (wsV RX1 107 RX1 yX1_isChain wsX1_isChain) := goodIn_app (goodIn_of _ (by decide +kernel)) ggX1_joined_X1_isChain
set_option maxRecDepth 20000 in
theorem ggX1_joined_X1_isThird : GoodIn wsX1_joined wsX1_isThird := goodIn_r _ [15, 10, 11, 7, 12] (by decide +kernel) (by decide +kernel)
set_option maxRecDepth 20000 in
theorem gX1_joined_X1_isThird : GoodIn wsX1_joined (va_wsS RX1 90 yX1_isThird wsX1_isThird) := goodIn_app (goodIn_of _ (by decide +kernel)) ggX1_joined_X1_isThird
set_option maxRecDepth 20000 in
theorem ggX1_joined_X1_isByte : GoodIn wsX1_joined wsX1_isByte := goodIn_r _ [18, 10, 11, 7, 12] (by decide +kernel) (by decide +kernel)
set_option maxRecDepth 20000 in
theorem gX1_joined_X1_isByte : GoodIn wsX1_joined (va_wsS RX1 93 yX1_isByte wsX1_isByte) := goodIn_app (goodIn_of _ (by decide +kernel)) ggX1_joined_X1_isByte
set_option maxRecDepth 20000 in
theorem ggX1_joined_X1_mayAll : GoodIn wsX1_joined wsX1_mayAll := goodIn_r _ [22, 23, 34, 35, 36, 37, 38, 39, 40, 41, 42, 43, 44, 45, 46, 47, 48, 49] (by decide +kernel) (by decide +kernel)
set_option maxRecDepth 20000 in
theorem gX1_joined_X1_mayAll : GoodIn wsX1_joined (wsV RX1 99 RX1 yX1_mayAll wsX1_mayAll) := goodIn_app (goodIn_of _ (by decide +kernel)) ggX1_joined_X1_mayAll
set_option maxRecDepth 20000 in
theorem ggX1_joined_X1_between : GoodIn wsX1_joined wsX1_between := goodIn_r _ [27, 2, 28, 29, 7, 30, 31, 32, 33, 34, 35, 36, 37, 38, 39, 40, 41, 42, 43, 44, 45, 46, 47, 48, 49] (by decide +kernel) (by decide +kernel)
set_option maxRecDepth 20000 in
theorem gX1_joined_X1_between : GoodIn wsX1_joined (wsV RX1 72 RX1 yX1_between wsX1_between) := goodIn_app (goodIn_of _ (by decide +kernel)) ggX1_joined_X1_between
theorem dX1_joined_0 : decode cX1_joined 0 = .ok (.aload_n 0, 1) := by decide +kernel
theorem dX1_joined_1 : decode cX1_joined 1 = .ok (.iload_n 1, 1) := by decide +kernel
theorem dX1_joined_2 : decode cX1_joined 2 = .ok (.invokevirtual 107, 3) := by decide +kernel
theorem dX1_joined_5 : decode cX1_joined 5 = .ok (.ifCond .eq 14, 3) := by decide +kernel
theorem dX1_joined_8 : decode cX1_joined 8 = .ok (.iload_n 2, 1) := by decide +kernel
theorem dX1_joined_9 : decode cX1_joined 9 = .ok (.invokestatic 90, 3) := by decide +kernel
theorem dX1_joined_12 : decode cX1_joined 12 = .ok (.ifCond .eq 7, 3) := by decide +kernel
theorem dX1_joined_15 : decode cX1_joined 15 = .ok (.iconst 1, 1) := by decide +kernel
theorem dX1_joined_16 : decode cX1_joined 16 = .ok (.goto 4, 3) := by decide +kernel
theorem dX1_joined_19 : decode cX1_joined 19 = .ok (.iconst 0, 1) := by decide +kernel
theorem dX1_joined_20 : decode cX1_joined 20 = .ok (.istore 4, 2) := by decide +kernel
theorem dX1_joined_22 : decode cX1_joined 22 = .ok (.aload_n 0, 1) := by decide +kernel
theorem dX1_joined_23 : decode cX1_joined 23 = .ok (.iload 4, 2) := by decide +kernel
theorem dX1_joined_25 : decode cX1_joined 25 = .ok (.iload_n 3, 1) := by decide +kernel
theorem dX1_joined_26 : decode cX1_joined 26 = .ok (.invokestatic 93, 3) := by decide +kernel
theorem dX1_joined_29 : decode cX1_joined 29 = .ok (.iload 4, 2) := by decide +kernel
theorem dX1_joined_31 : decode cX1_joined 31 = .ok (.ifCond .eq 16, 3) := by decide +kernel
theorem dX1_joined_34 : decode cX1_joined 34 = .ok (.aload_n 0, 1) := by decide +kernel
theorem dX1_joined_35 : decode cX1_joined 35 = .ok (.getfield 28, 3) := by decide +kernel
theorem dX1_joined_38 : decode cX1_joined 38 = .ok (.iload_n 1, 1) := by decide +kernel
theorem dX1_joined_39 : decode cX1_joined 39 = .ok (.baload, 1) := by decide +kernel
theorem dX1_joined_40 : decode cX1_joined 40 = .ok (.ifCond .eq 7, 3) := by decide +kernel
theorem dX1_joined_43 : decode cX1_joined 43 = .ok (.iconst 1, 1) := by decide +kernel
theorem dX1_joined_44 : decode cX1_joined 44 = .ok (.goto 4, 3) := by decide +kernel
theorem dX1_joined_47 : decode cX1_joined 47 = .ok (.iconst 0, 1) := by decide +kernel
theorem dX1_joined_48 : decode cX1_joined 48 = .ok (.invokevirtual 99, 3) := by decide +kernel
theorem dX1_joined_51 : decode cX1_joined 51 = .ok (.ifCond .ne 5, 3) := by decide +kernel
theorem dX1_joined_54 : decode cX1_joined 54 = .ok (.iconst 0, 1) := by decide +kernel
theorem dX1_joined_55 : decode cX1_joined 55 = .ok (.ireturn, 1) := by decide +kernel
theorem dX1_joined_56 : decode cX1_joined 56 = .ok (.iconst 0, 1) := by decide +kernel
theorem dX1_joined_57 : decode cX1_joined 57 = .ok (.istore 5, 2) := by decide +kernel
theorem dX1_joined_59 : decode cX1_joined 59 = .ok (.iload 5, 2) := by decide +kernel
theorem dX1_joined_61 : decode cX1_joined 61 = .ok (.iconst 5, 1) := by decide +kernel
theorem dX1_joined_62 : decode cX1_joined 62 = .ok (.if_icmp .ge 32, 3) := by decide +kernel
theorem dX1_joined_65 : decode cX1_joined 65 = .ok (.aload_n 0, 1) := by decide +kernel
theorem dX1_joined_66 : decode cX1_joined 66 = .ok (.getfield 47, 3) := by decide +kernel
theorem dX1_joined_69 : decode cX1_joined 69 = .ok (.iload 5, 2) := by decide +kernel
theorem dX1_joined_71 : decode cX1_joined 71 = .ok (.aload_n 0, 1) := by decide +kernel
theorem dX1_joined_72 : decode cX1_joined 72 = .ok (.getfield 35, 3) := by decide +kernel
theorem dX1_joined_75 : decode cX1_joined 75 = .ok (.bipush 15, 2) := by decide +kernel
theorem dX1_joined_77 : decode cX1_joined 77 = .ok (.iload_n 1, 1) := by decide +kernel
theorem dX1_joined_78 : decode cX1_joined 78 = .ok (.imul, 1) := by decide +kernel
theorem dX1_joined_79 : decode cX1_joined 79 = .ok (.iconst 5, 1) := by decide +kernel
theorem dX1_joined_80 : decode cX1_joined 80 = .ok (.iload_n 2, 1) := by decide +kernel
theorem dX1_joined_81 : decode cX1_joined 81 = .ok (.imul, 1) := by decide +kernel
