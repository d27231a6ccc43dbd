theorem dX1_joined_82 : decode cX1_joined 82 = .ok (.iadd, 1) := by decide +kernel
theorem dX1_joined_83 : decode cX1_joined 83 = .ok (.iload 5, 2) := by decide +kernel
theorem dX1_joined_85 : decode cX1_joined 85 = .ok (.iadd, 1) := by decide +kernel
theorem dX1_joined_86 : decode cX1_joined 86 = .ok (.iaload, 1) := by decide +kernel
theorem dX1_joined_87 : decode cX1_joined 87 = .ok (.iastore, 1) := by decide +kernel
theorem dX1_joined_88 : decode cX1_joined 88 = .ok (.iinc 5 1, 3) := by decide +kernel
theorem dX1_joined_91 : decode cX1_joined 91 = .ok (.goto (-32), 3) := by decide +kernel
theorem dX1_joined_94 : decode cX1_joined 94 = .ok (.aload_n 0, 1) := by decide +kernel
theorem dX1_joined_95 : decode cX1_joined 95 = .ok (.iload_n 3, 1) := by decide +kernel
theorem dX1_joined_96 : decode cX1_joined 96 = .ok (.invokevirtual 72, 3) := by decide +kernel
theorem dX1_joined_99 : decode cX1_joined 99 = .ok (.ireturn, 1) := by decide +kernel
set_option maxRecDepth 20000 in
theorem ggX1_stale_X1_placeAt : GoodIn wsX1_stale wsX1_placeAt := goodIn_r _ [8] (by decide +kernel) (by decide +kernel)
set_option maxRecDepth 20000 in
theorem gX1_stale_X1_placeAt : GoodIn wsX1_stale (va_wsS RX1 64 yX1_placeAt wsX1_placeAt) := goodIn_app (goodIn_of _ (by decide +kernel)) ggX1_stale_X1_placeAt
set_option maxRecDepth 20000 in
theorem ggX1_stale_X1_throughOf : GoodIn wsX1_stale wsX1_throughOf := goodIn_r _ [12, 13, 14, 15, 16, 17, 7, 18, 19, 20, 21, 22, 23, 24, 25, 26, 27, 28, 29, 30, 31, 5, 6, 8, 32, 33, 34, 35, 36, 37, 38, 39, 40, 41, 42, 43, 44, 45, 46, 47, 48, 49, 50] (by decide +kernel) (by decide +kernel)
set_option maxRecDepth 20000 in
theorem gX1_stale_X1_throughOf : GoodIn wsX1_stale (wsV RX1 110 RX1 yX1_throughOf wsX1_throughOf) := goodIn_app (goodIn_of _ (by decide +kernel)) ggX1_stale_X1_throughOf
theorem dX1_stale_0 : decode cX1_stale 0 = .ok (.aload_n 0, 1) := by decide +kernel
theorem dX1_stale_1 : decode cX1_stale 1 = .ok (.iconst 0, 1) := by decide +kernel
theorem dX1_stale_2 : decode cX1_stale 2 = .ok (.putfield 50, 3) := by decide +kernel
theorem dX1_stale_5 : decode cX1_stale 5 = .ok (.iconst 0, 1) := by decide +kernel
theorem dX1_stale_6 : decode cX1_stale 6 = .ok (.istore_n 1, 1) := by decide +kernel
theorem dX1_stale_7 : decode cX1_stale 7 = .ok (.iconst 0, 1) := by decide +kernel
theorem dX1_stale_8 : decode cX1_stale 8 = .ok (.istore_n 2, 1) := by decide +kernel
theorem dX1_stale_9 : decode cX1_stale 9 = .ok (.iload_n 2, 1) := by decide +kernel
theorem dX1_stale_10 : decode cX1_stale 10 = .ok (.aload_n 0, 1) := by decide +kernel
theorem dX1_stale_11 : decode cX1_stale 11 = .ok (.getfield 61, 3) := by decide +kernel
theorem dX1_stale_14 : decode cX1_stale 14 = .ok (.if_icmp .ge 91, 3) := by decide +kernel
theorem dX1_stale_17 : decode cX1_stale 17 = .ok (.iconst 0, 1) := by decide +kernel
theorem dX1_stale_18 : decode cX1_stale 18 = .ok (.istore_n 3, 1) := by decide +kernel
theorem dX1_stale_19 : decode cX1_stale 19 = .ok (.iconst 0, 1) := by decide +kernel
theorem dX1_stale_20 : decode cX1_stale 20 = .ok (.istore 4, 2) := by decide +kernel
theorem dX1_stale_22 : decode cX1_stale 22 = .ok (.iload 4, 2) := by decide +kernel
theorem dX1_stale_24 : decode cX1_stale 24 = .ok (.bipush 15, 2) := by decide +kernel
theorem dX1_stale_26 : decode cX1_stale 26 = .ok (.if_icmp .ge 50, 3) := by decide +kernel
theorem dX1_stale_29 : decode cX1_stale 29 = .ok (.iload_n 3, 1) := by decide +kernel
theorem dX1_stale_30 : decode cX1_stale 30 = .ok (.ifCond .ne 34, 3) := by decide +kernel
theorem dX1_stale_33 : decode cX1_stale 33 = .ok (.aload_n 0, 1) := by decide +kernel
theorem dX1_stale_34 : decode cX1_stale 34 = .ok (.getfield 35, 3) := by decide +kernel
theorem dX1_stale_37 : decode cX1_stale 37 = .ok (.bipush 15, 2) := by decide +kernel
theorem dX1_stale_39 : decode cX1_stale 39 = .ok (.iload_n 2, 1) := by decide +kernel
theorem dX1_stale_40 : decode cX1_stale 40 = .ok (.imul, 1) := by decide +kernel
theorem dX1_stale_41 : decode cX1_stale 41 = .ok (.iload 4, 2) := by decide +kernel
theorem dX1_stale_43 : decode cX1_stale 43 = .ok (.iadd, 1) := by decide +kernel
theorem dX1_stale_44 : decode cX1_stale 44 = .ok (.iaload, 1) := by decide +kernel
theorem dX1_stale_45 : decode cX1_stale 45 = .ok (.aload_n 0, 1) := by decide +kernel
theorem dX1_stale_46 : decode cX1_stale 46 = .ok (.iload_n 2, 1) := by decide +kernel
theorem dX1_stale_47 : decode cX1_stale 47 = .ok (.iload 4, 2) := by decide +kernel
theorem dX1_stale_49 : decode cX1_stale 49 = .ok (.iconst 5, 1) := by decide +kernel
theorem dX1_stale_50 : decode cX1_stale 50 = .ok (.idiv, 1) := by decide +kernel
theorem dX1_stale_51 : decode cX1_stale 51 = .ok (.iload 4, 2) := by decide +kernel
theorem dX1_stale_53 : decode cX1_stale 53 = .ok (.iconst 5, 1) := by decide +kernel
theorem dX1_stale_54 : decode cX1_stale 54 = .ok (.irem, 1) := by decide +kernel
theorem dX1_stale_55 : decode cX1_stale 55 = .ok (.invokestatic 64, 3) := by decide +kernel
theorem dX1_stale_58 : decode cX1_stale 58 = .ok (.invokevirtual 110, 3) := by decide +kernel
theorem dX1_stale_61 : decode cX1_stale 61 = .ok (.if_icmp .eq 7, 3) := by decide +kernel
theorem dX1_stale_64 : decode cX1_stale 64 = .ok (.iconst 1, 1) := by decide +kernel
theorem dX1_stale_65 : decode cX1_stale 65 = .ok (.goto 4, 3) := by decide +kernel
theorem dX1_stale_68 : decode cX1_stale 68 = .ok (.iconst 0, 1) := by decide +kernel
theorem dX1_stale_69 : decode cX1_stale 69 = .ok (.istore_n 3, 1) := by decide +kernel
theorem dX1_stale_70 : decode cX1_stale 70 = .ok (.iinc 4 1, 3) := by decide +kernel
theorem dX1_stale_73 : decode cX1_stale 73 = .ok (.goto (-51), 3) := by decide +kernel
theorem dX1_stale_76 : decode cX1_stale 76 = .ok (.iload_n 1, 1) := by decide +kernel
theorem dX1_stale_77 : decode cX1_stale 77 = .ok (.aload_n 0, 1) := by decide +kernel
theorem dX1_stale_78 : decode cX1_stale 78 = .ok (.getfield 28, 3) := by decide +kernel
theorem dX1_stale_81 : decode cX1_stale 81 = .ok (.iload_n 2, 1) := by decide +kernel
theorem dX1_stale_82 : decode cX1_stale 82 = .ok (.baload, 1) := by decide +kernel
theorem dX1_stale_83 : decode cX1_stale 83 = .ok (.ifCond .eq 13, 3) := by decide +kernel
theorem dX1_stale_86 : decode cX1_stale 86 = .ok (.iload_n 3, 1) := by decide +kernel
theorem dX1_stale_87 : decode cX1_stale 87 = .ok (.ifCond .eq 9, 3) := by decide +kernel
theorem dX1_stale_90 : decode cX1_stale 90 = .ok (.iconst 1, 1) := by decide +kernel
theorem dX1_stale_91 : decode cX1_stale 91 = .ok (.iload_n 2, 1) := by decide +kernel
theorem dX1_stale_92 : decode cX1_stale 92 = .ok (.ishl, 1) := by decide +kernel
theorem dX1_stale_93 : decode cX1_stale 93 = .ok (.goto 4, 3) := by decide +kernel
theorem dX1_stale_96 : decode cX1_stale 96 = .ok (.iconst 0, 1) := by decide +kernel
theorem dX1_stale_97 : decode cX1_stale 97 = .ok (.ior, 1) := by decide +kernel
theorem dX1_stale_98 : decode cX1_stale 98 = .ok (.istore_n 1, 1) := by decide +kernel
theorem dX1_stale_99 : decode cX1_stale 99 = .ok (.iinc 2 1, 3) := by decide +kernel
theorem dX1_stale_102 : decode cX1_stale 102 = .ok (.goto (-93), 3) := by decide +kernel
theorem dX1_stale_105 : decode cX1_stale 105 = .ok (.iload_n 1, 1) := by decide +kernel
theorem dX1_stale_106 : decode cX1_stale 106 = .ok (.ireturn, 1) := by decide +kernel
set_option maxRecDepth 20000 in
theorem ggX1_sign_X1_isChain : GoodIn wsX1_sign wsX1_isChain := goodIn_r _ [6, 7, 8, 9, 5, 10, 16, 17, 18, 19, 20, 21, 22, 23, 24, 25, 26, 27, 28, 29, 30, 31] (by decide +kernel) (by decide +kernel)
set_option maxRecDepth 20000 in
theorem gX1_sign_X1_isChain : GoodIn wsX1_sign (wsV RX1 107 RX1 yX1_isChain wsX1_isChain) := goodIn_app (goodIn_of _ (by decide +kernel)) ggX1_sign_X1_isChain
set_option maxRecDepth 20000 in
theorem ggX1_sign_X1_may : GoodIn wsX1_sign wsX1_may := goodIn_r _ [14, 15, 16, 17, 18, 19, 20, 21, 22, 23, 24, 25, 26, 27, 28, 29, 30, 31] (by decide +kernel) (by decide +kernel)
set_option maxRecDepth 20000 in
theorem gX1_sign_X1_may : GoodIn wsX1_sign (wsV RX1 82 RX1 yX1_may wsX1_may) := goodIn_app (goodIn_of _ (by decide +kernel)) ggX1_sign_X1_may
theorem dX1_sign_0 : decode cX1_sign 0 = .ok (.aload_n 0, 1) := by decide +kernel
theorem dX1_sign_1 : decode cX1_sign 1 = .ok (.aload_n 0, 1) := by decide +kernel
theorem dX1_sign_2 : decode cX1_sign 2 = .ok (.iload_n 1, 1) := by decide +kernel
theorem dX1_sign_3 : decode cX1_sign 3 = .ok (.invokevirtual 107, 3) := by decide +kernel
theorem dX1_sign_6 : decode cX1_sign 6 = .ok (.invokevirtual 82, 3) := by decide +kernel
theorem dX1_sign_9 : decode cX1_sign 9 = .ok (.ifCond .ne 5, 3) := by decide +kernel
theorem dX1_sign_12 : decode cX1_sign 12 = .ok (.iconst 0, 1) := by decide +kernel
theorem dX1_sign_13 : decode cX1_sign 13 = .ok (.ireturn, 1) := by decide +kernel
theorem dX1_sign_14 : decode cX1_sign 14 = .ok (.aload_n 0, 1) := by decide +kernel
theorem dX1_sign_15 : decode cX1_sign 15 = .ok (.getfield 32, 3) := by decide +kernel
theorem dX1_sign_18 : decode cX1_sign 18 = .ok (.iload_n 1, 1) := by decide +kernel
theorem dX1_sign_19 : decode cX1_sign 19 = .ok (.aload_n 0, 1) := by decide +kernel
theorem dX1_sign_20 : decode cX1_sign 20 = .ok (.getfield 32, 3) := by decide +kernel
theorem dX1_sign_23 : decode cX1_sign 23 = .ok (.iload_n 1, 1) := by decide +kernel
theorem dX1_sign_24 : decode cX1_sign 24 = .ok (.baload, 1) := by decide +kernel
theorem dX1_sign_25 : decode cX1_sign 25 = .ok (.ifCond .ne 7, 3) := by decide +kernel
theorem dX1_sign_28 : decode cX1_sign 28 = .ok (.iconst 1, 1) := by decide +kernel
theorem dX1_sign_29 : decode cX1_sign 29 = .ok (.goto 4, 3) := by decide +kernel
theorem dX1_sign_32 : decode cX1_sign 32 = .ok (.iconst 0, 1) := by decide +kernel
theorem dX1_sign_33 : decode cX1_sign 33 = .ok (.bastore, 1) := by decide +kernel
theorem dX1_sign_34 : decode cX1_sign 34 = .ok (.aload_n 0, 1) := by decide +kernel
theorem dX1_sign_35 : decode cX1_sign 35 = .ok (.getfield 32, 3) := by decide +kernel
theorem dX1_sign_38 : decode cX1_sign 38 = .ok (.iload_n 1, 1) := by decide +kernel
theorem dX1_sign_39 : decode cX1_sign 39 = .ok (.baload, 1) := by decide +kernel
theorem dX1_sign_40 : decode cX1_sign 40 = .ok (.ireturn, 1) := by decide +kernel
set_option maxRecDepth 20000 in
theorem ggX1_held_X1_isHeld : GoodIn wsX1_held wsX1_isHeld := goodIn_r _ [7, 8, 9, 10, 11, 12, 13, 14, 15, 16, 17, 18, 19, 20, 21, 22, 23, 24, 25, 26, 27] (by decide +kernel) (by decide +kernel)
set_option maxRecDepth 20000 in
theorem gX1_held_X1_isHeld : GoodIn wsX1_held (wsV RX1 96 RX1 yX1_isHeld wsX1_isHeld) := goodIn_app (goodIn_of _ (by decide +kernel)) ggX1_held_X1_isHeld
theorem dX1_held_0 : decode cX1_held 0 = .ok (.aload_n 0, 1) := by decide +kernel
theorem dX1_held_1 : decode cX1_held 1 = .ok (.iconst 0, 1) := by decide +kernel
theorem dX1_held_2 : decode cX1_held 2 = .ok (.putfield 50, 3) := by decide +kernel
theorem dX1_held_5 : decode cX1_held 5 = .ok (.iconst 0, 1) := by decide +kernel
theorem dX1_held_6 : decode cX1_held 6 = .ok (.istore_n 1, 1) := by decide +kernel
theorem dX1_held_7 : decode cX1_held 7 = .ok (.iconst 0, 1) := by decide +kernel
theorem dX1_held_8 : decode cX1_held 8 = .ok (.istore_n 2, 1) := by decide +kernel
theorem dX1_held_9 : decode cX1_held 9 = .ok (.iload_n 2, 1) := by decide +kernel
theorem dX1_held_10 : decode cX1_held 10 = .ok (.aload_n 0, 1) := by decide +kernel
theorem dX1_held_11 : decode cX1_held 11 = .ok (.getfield 58, 3) := by decide +kernel
theorem dX1_held_14 : decode cX1_held 14 = .ok (.if_icmp .ge 27, 3) := by decide +kernel
theorem dX1_held_17 : decode cX1_held 17 = .ok (.iload_n 1, 1) := by decide +kernel
theorem dX1_held_18 : decode cX1_held 18 = .ok (.aload_n 0, 1) := by decide +kernel
theorem dX1_held_19 : decode cX1_held 19 = .ok (.iload_n 2, 1) := by decide +kernel
theorem dX1_held_20 : decode cX1_held 20 = .ok (.invokevirtual 96, 3) := by decide +kernel
theorem dX1_held_23 : decode cX1_held 23 = .ok (.ifCond .eq 9, 3) := by decide +kernel
theorem dX1_held_26 : decode cX1_held 26 = .ok (.iconst 1, 1) := by decide +kernel
theorem dX1_held_27 : decode cX1_held 27 = .ok (.iload_n 2, 1) := by decide +kernel
theorem dX1_held_28 : decode cX1_held 28 = .ok (.ishl, 1) := by decide +kernel
theorem dX1_held_29 : decode cX1_held 29 = .ok (.goto 4, 3) := by decide +kernel
theorem dX1_held_32 : decode cX1_held 32 = .ok (.iconst 0, 1) := by decide +kernel
theorem dX1_held_33 : decode cX1_held 33 = .ok (.ior, 1) := by decide +kernel
theorem dX1_held_34 : decode cX1_held 34 = .ok (.istore_n 1, 1) := by decide +kernel
theorem dX1_held_35 : decode cX1_held 35 = .ok (.iinc 2 1, 3) := by decide +kernel
theorem dX1_held_38 : decode cX1_held 38 = .ok (.goto (-29), 3) := by decide +kernel
theorem dX1_held_41 : decode cX1_held 41 = .ok (.iload_n 1, 1) := by decide +kernel
theorem dX1_held_42 : decode cX1_held 42 = .ok (.ireturn, 1) := by decide +kernel
set_option maxRecDepth 20000 in
theorem ggX1_isPixel_X1_isIn : GoodIn wsX1_isPixel wsX1_isIn := goodIn_r _ [4] (by decide +kernel) (by decide +kernel)
set_option maxRecDepth 20000 in
theorem gX1_isPixel_X1_isIn : GoodIn wsX1_isPixel (va_wsS RX1 54 yX1_isIn wsX1_isIn) := goodIn_app (goodIn_of _ (by decide +kernel)) ggX1_isPixel_X1_isIn
theorem dX1_isPixel_0 : decode cX1_isPixel 0 = .ok (.iload_n 0, 1) := by decide +kernel
theorem dX1_isPixel_1 : decode cX1_isPixel 1 = .ok (.iconst 0, 1) := by decide +kernel
theorem dX1_isPixel_2 : decode cX1_isPixel 2 = .ok (.iconst 5, 1) := by decide +kernel
theorem dX1_isPixel_3 : decode cX1_isPixel 3 = .ok (.invokestatic 54, 3) := by decide +kernel
theorem dX1_isPixel_6 : decode cX1_isPixel 6 = .ok (.ireturn, 1) := by decide +kernel
set_option maxRecDepth 20000 in
theorem ggX1_paint_X1_isPixel : GoodIn wsX1_paint wsX1_isPixel := goodIn_r _ [5, 6, 7, 4, 8] (by decide +kernel) (by decide +kernel)
set_option maxRecDepth 20000 in
theorem gX1_paint_X1_isPixel : GoodIn wsX1_paint (va_wsS RX1 119 yX1_isPixel wsX1_isPixel) := goodIn_app (goodIn_of _ (by decide +kernel)) ggX1_paint_X1_isPixel
set_option maxRecDepth 20000 in
theorem ggX1_paint_X1_isThird : GoodIn wsX1_paint wsX1_isThird := goodIn_r _ [11, 6, 7, 4, 8] (by decide +kernel) (by decide +kernel)
set_option maxRecDepth 20000 in
theorem gX1_paint_X1_isThird : GoodIn wsX1_paint (va_wsS RX1 90 yX1_isThird wsX1_isThird) := goodIn_app (goodIn_of _ (by decide +kernel)) ggX1_paint_X1_isThird
set_option maxRecDepth 20000 in
theorem ggX1_paint_X1_isByte : GoodIn wsX1_paint wsX1_isByte := goodIn_r _ [14, 6, 7, 4, 8] (by decide +kernel) (by decide +kernel)
set_option maxRecDepth 20000 in
theorem gX1_paint_X1_isByte : GoodIn wsX1_paint (va_wsS RX1 93 yX1_isByte wsX1_isByte) := goodIn_app (goodIn_of _ (by decide +kernel)) ggX1_paint_X1_isByte
set_option maxRecDepth 20000 in
theorem ggX1_paint_X1_mayBoth : GoodIn wsX1_paint wsX1_mayBoth := goodIn_r _ [18, 19, 20, 21, 22, 23, 24, 25, 26, 27, 28, 29, 30, 31, 32, 33, 34, 35] (by decide +kernel) (by decide +kernel)
set_option maxRecDepth 20000 in
theorem gX1_paint_X1_mayBoth : GoodIn wsX1_paint (wsV RX1 103 RX1 yX1_mayBoth wsX1_mayBoth) := goodIn_app (goodIn_of _ (by decide +kernel)) ggX1_paint_X1_mayBoth
theorem dX1_paint_0 : decode cX1_paint 0 = .ok (.aload_n 0, 1) := by decide +kernel
theorem dX1_paint_1 : decode cX1_paint 1 = .ok (.iload_n 1, 1) := by decide +kernel
theorem dX1_paint_2 : decode cX1_paint 2 = .ok (.invokestatic 119, 3) := by decide +kernel
theorem dX1_paint_5 : decode cX1_paint 5 = .ok (.ifCond .eq 14, 3) := by decide +kernel
theorem dX1_paint_8 : decode cX1_paint 8 = .ok (.iload_n 2, 1) := by decide +kernel
theorem dX1_paint_9 : decode cX1_paint 9 = .ok (.invokestatic 90, 3) := by decide +kernel
theorem dX1_paint_12 : decode cX1_paint 12 = .ok (.ifCond .eq 7, 3) := by decide +kernel
theorem dX1_paint_15 : decode cX1_paint 15 = .ok (.iconst 1, 1) := by decide +kernel
theorem dX1_paint_16 : decode cX1_paint 16 = .ok (.goto 4, 3) := by decide +kernel
theorem dX1_paint_19 : decode cX1_paint 19 = .ok (.iconst 0, 1) := by decide +kernel
theorem dX1_paint_20 : decode cX1_paint 20 = .ok (.iload_n 3, 1) := by decide +kernel
theorem dX1_paint_21 : decode cX1_paint 21 = .ok (.invokestatic 93, 3) := by decide +kernel
theorem dX1_paint_24 : decode cX1_paint 24 = .ok (.invokevirtual 103, 3) := by decide +kernel
theorem dX1_paint_27 : decode cX1_paint 27 = .ok (.ifCond .ne 5, 3) := by decide +kernel
theorem dX1_paint_30 : decode cX1_paint 30 = .ok (.iconst 0, 1) := by decide +kernel
theorem dX1_paint_31 : decode cX1_paint 31 = .ok (.ireturn, 1) := by decide +kernel
theorem dX1_paint_32 : decode cX1_paint 32 = .ok (.aload_n 0, 1) := by decide +kernel
theorem dX1_paint_33 : decode cX1_paint 33 = .ok (.getfield 38, 3) := by decide +kernel
theorem dX1_paint_36 : decode cX1_paint 36 = .ok (.iconst 3, 1) := by decide +kernel
theorem dX1_paint_37 : decode cX1_paint 37 = .ok (.iload_n 1, 1) := by decide +kernel
theorem dX1_paint_38 : decode cX1_paint 38 = .ok (.imul, 1) := by decide +kernel
theorem dX1_paint_39 : decode cX1_paint 39 = .ok (.iload_n 2, 1) := by decide +kernel
theorem dX1_paint_40 : decode cX1_paint 40 = .ok (.iadd, 1) := by decide +kernel
theorem dX1_paint_41 : decode cX1_paint 41 = .ok (.iaload, 1) := by decide +kernel
theorem dX1_paint_42 : decode cX1_paint 42 = .ok (.istore 4, 2) := by decide +kernel
theorem dX1_paint_44 : decode cX1_paint 44 = .ok (.aload_n 0, 1) := by decide +kernel
theorem dX1_paint_45 : decode cX1_paint 45 = .ok (.getfield 38, 3) := by decide +kernel
theorem dX1_paint_48 : decode cX1_paint 48 = .ok (.iconst 3, 1) := by decide +kernel
theorem dX1_paint_49 : decode cX1_paint 49 = .ok (.iload_n 1, 1) := by decide +kernel
theorem dX1_paint_50 : decode cX1_paint 50 = .ok (.imul, 1) := by decide +kernel
theorem dX1_paint_51 : decode cX1_paint 51 = .ok (.iload_n 2, 1) := by decide +kernel
theorem dX1_paint_52 : decode cX1_paint 52 = .ok (.iadd, 1) := by decide +kernel
theorem dX1_paint_53 : decode cX1_paint 53 = .ok (.iload_n 3, 1) := by decide +kernel
theorem dX1_paint_54 : decode cX1_paint 54 = .ok (.iastore, 1) := by decide +kernel
theorem dX1_paint_55 : decode cX1_paint 55 = .ok (.iload 4, 2) := by decide +kernel
theorem dX1_paint_57 : decode cX1_paint 57 = .ok (.ireturn, 1) := by decide +kernel
set_option maxRecDepth 20000 in
theorem ggX1_spot_X1_isPixel : GoodIn wsX1_spot wsX1_isPixel := goodIn_r _ [5, 6, 7, 4, 8] (by decide +kernel) (by decide +kernel)
set_option maxRecDepth 20000 in
theorem gX1_spot_X1_isPixel : GoodIn wsX1_spot (va_wsS RX1 119 yX1_isPixel wsX1_isPixel) := goodIn_app (goodIn_of _ (by decide +kernel)) ggX1_spot_X1_isPixel
set_option maxRecDepth 20000 in
theorem ggX1_spot_X1_isThird : GoodIn wsX1_spot wsX1_isThird := goodIn_r _ [11, 6, 7, 4, 8] (by decide +kernel) (by decide +kernel)
set_option maxRecDepth 20000 in
theorem gX1_spot_X1_isThird : GoodIn wsX1_spot (va_wsS RX1 90 yX1_isThird wsX1_isThird) := goodIn_app (goodIn_of _ (by decide +kernel)) ggX1_spot_X1_isThird
set_option maxRecDepth 20000 in
theorem ggX1_spot_X1_isByte : GoodIn wsX1_spot wsX1_isByte := goodIn_r _ [14, 6, 7, 4, 8] (by decide +kernel) (by decide +kernel)
set_option maxRecDepth 20000 in
theorem gX1_spot_X1_isByte : GoodIn wsX1_spot (va_wsS RX1 93 yX1_isByte wsX1_isByte) := goodIn_app (goodIn_of _ (by decide +kernel)) ggX1_spot_X1_isByte
set_option maxRecDepth 20000 in
theorem ggX1_spot_X1_mayBoth : GoodIn wsX1_spot wsX1_mayBoth := goodIn_r _ [18, 19, 20, 21, 22, 23, 24, 25, 26, 27, 28, 29, 30, 31, 32, 33, 34, 35] (by decide +kernel) (by decide +kernel)
set_option maxRecDepth 20000 in
theorem gX1_spot_X1_mayBoth : GoodIn wsX1_spot (wsV RX1 103 RX1 yX1_mayBoth wsX1_mayBoth) := goodIn_app (goodIn_of _ (by decide +kernel)) ggX1_spot_X1_mayBoth
theorem dX1_spot_0 : decode cX1_spot 0 = .ok (.aload_n 0, 1) := by decide +kernel
theorem dX1_spot_1 : decode cX1_spot 1 = .ok (.iload_n 1, 1) := by decide +kernel
theorem dX1_spot_2 : decode cX1_spot 2 = .ok (.invokestatic 119, 3) := by decide +kernel
theorem dX1_spot_5 : decode cX1_spot 5 = .ok (.ifCond .eq 14, 3) := by decide +kernel
theorem dX1_spot_8 : decode cX1_spot 8 = .ok (.iload_n 2, 1) := by decide +kernel
theorem dX1_spot_9 : decode cX1_spot 9 = .ok (.invokestatic 90, 3) := by decide +kernel
theorem dX1_spot_12 : decode cX1_spot 12 = .ok (.ifCond .eq 7, 3) := by decide +kernel
theorem dX1_spot_15 : decode cX1_spot 15 = .ok (.iconst 1, 1) := by decide +kernel
theorem dX1_spot_16 : decode cX1_spot 16 = .ok (.goto 4, 3) := by decide +kernel
theorem dX1_spot_19 : decode cX1_spot 19 = .ok (.iconst 0, 1) := by decide +kernel
theorem dX1_spot_20 : decode cX1_spot 20 = .ok (.iload_n 3, 1) := by decide +kernel
theorem dX1_spot_21 : decode cX1_spot 21 = .ok (.invokestatic 93, 3) := by decide +kernel
theorem dX1_spot_24 : decode cX1_spot 24 = .ok (.invokevirtual 103, 3) := by decide +kernel
theorem dX1_spot_27 : decode cX1_spot 27 = .ok (.ifCond .ne 5, 3) := by decide +kernel
theorem dX1_spot_30 : decode cX1_spot 30 = .ok (.iconst 0, 1) := by decide +kernel
theorem dX1_spot_31 : decode cX1_spot 31 = .ok (.ireturn, 1) := by decide +kernel
theorem dX1_spot_32 : decode cX1_spot 32 = .ok (.aload_n 0, 1) := by decide +kernel
theorem dX1_spot_33 : decode cX1_spot 33 = .ok (.getfield 41, 3) := by decide +kernel
theorem dX1_spot_36 : decode cX1_spot 36 = .ok (.iconst 3, 1) := by decide +kernel
theorem dX1_spot_37 : decode cX1_spot 37 = .ok (.iload_n 1, 1) := by decide +kernel
theorem dX1_spot_38 : decode cX1_spot 38 = .ok (.imul, 1) := by decide +kernel
theorem dX1_spot_39 : decode cX1_spot 39 = .ok (.iload_n 2, 1) := by decide +kernel
theorem dX1_spot_40 : decode cX1_spot 40 = .ok (.iadd, 1) := by decide +kernel
theorem dX1_spot_41 : decode cX1_spot 41 = .ok (.iaload, 1) := by decide +kernel
theorem dX1_spot_42 : decode cX1_spot 42 = .ok (.istore 4, 2) := by decide +kernel
theorem dX1_spot_44 : decode cX1_spot 44 = .ok (.aload_n 0, 1) := by decide +kernel
theorem dX1_spot_45 : decode cX1_spot 45 = .ok (.getfield 41, 3) := by decide +kernel
theorem dX1_spot_48 : decode cX1_spot 48 = .ok (.iconst 3, 1) := by decide +kernel
theorem dX1_spot_49 : decode cX1_spot 49 = .ok (.iload_n 1, 1) := by decide +kernel
theorem dX1_spot_50 : decode cX1_spot 50 = .ok (.imul, 1) := by decide +kernel
theorem dX1_spot_51 : decode cX1_spot 51 = .ok (.iload_n 2, 1) := by decide +kernel
theorem dX1_spot_52 : decode cX1_spot 52 = .ok (.iadd, 1) := by decide +kernel
theorem dX1_spot_53 : decode cX1_spot 53 = .ok (.iload_n 3, 1) := by decide +kernel
theorem dX1_spot_54 : decode cX1_spot 54 = .ok (.iastore, 1) := by decide +kernel
theorem dX1_spot_55 : decode cX1_spot 55 = .ok (.iload 4, 2) := by decide +kernel
theorem dX1_spot_57 : decode cX1_spot 57 = .ok (.ireturn, 1) := by decide +kernel
set_option maxRecDepth 20000 in
theorem ggX1_mix_X1_isThird : GoodIn wsX1_mix wsX1_isThird := goodIn_r _ [5, 6, 7, 4, 8] (by decide +kernel) (by decide +kernel)
set_option maxRecDepth 20000 in
theorem gX1_mix_X1_isThird : GoodIn wsX1_mix (va_wsS RX1 90 yX1_isThird wsX1_isThird) := goodIn_app (goodIn_of _ (by decide +kernel)) ggX1_mix_X1_isThird
set_option maxRecDepth 20000 in
theorem ggX1_mix_X1_isByte : GoodIn wsX1_mix wsX1_isByte := goodIn_r _ [11, 6, 7, 4, 8] (by decide +kernel) (by decide +kernel)
set_option maxRecDepth 20000 in
theorem gX1_mix_X1_isByte : GoodIn wsX1_mix (va_wsS RX1 93 yX1_isByte wsX1_isByte) := goodIn_app (goodIn_of _ (by decide +kernel)) ggX1_mix_X1_isByte
set_option maxRecDepth 20000 in
theorem ggX1_mix_X1_mayBoth : GoodIn wsX1_mix wsX1_mayBoth := goodIn_r _ [15, 16, 17, 18, 19, 20, 21, 22, 23, 24, 25, 26, 27, 28, 29, 30, 31, 32] (by decide +kernel) (by decide +kernel)
set_option maxRecDepth 20000 in
theorem gX1_mix_X1_mayBoth : GoodIn wsX1_mix (wsV RX1 103 RX1 yX1_mayBoth wsX1_mayBoth) := goodIn_app (goodIn_of _ (by decide +kernel)) ggX1_mix_X1_mayBoth
theorem dX1_mix_0 : decode cX1_mix 0 = .ok (.aload_n 0, 1) := by decide +kernel
theorem dX1_mix_1 : decode cX1_mix 1 = .ok (.iload_n 1, 1) := by decide +kernel
theorem dX1_mix_2 : decode cX1_mix 2 = .ok (.invokestatic 90, 3) := by decide +kernel
theorem dX1_mix_5 : decode cX1_mix 5 = .ok (.ifCond .eq 14, 3) := by decide +kernel
theorem dX1_mix_8 : decode cX1_mix 8 = .ok (.iload_n 2, 1) := by decide +kernel
theorem dX1_mix_9 : decode cX1_mix 9 = .ok (.invokestatic 90, 3) := by decide +kernel
theorem dX1_mix_12 : decode cX1_mix 12 = .ok (.ifCond .eq 7, 3) := by decide +kernel
theorem dX1_mix_15 : decode cX1_mix 15 = .ok (.iconst 1, 1) := by decide +kernel
theorem dX1_mix_16 : decode cX1_mix 16 = .ok (.goto 4, 3) := by decide +kernel
theorem dX1_mix_19 : decode cX1_mix 19 = .ok (.iconst 0, 1) := by decide +kernel
theorem dX1_mix_20 : decode cX1_mix 20 = .ok (.iload_n 3, 1) := by decide +kernel
theorem dX1_mix_21 : decode cX1_mix 21 = .ok (.invokestatic 93, 3) := by decide +kernel
theorem dX1_mix_24 : decode cX1_mix 24 = .ok (.invokevirtual 103, 3) := by decide +kernel
theorem dX1_mix_27 : decode cX1_mix 27 = .ok (.ifCond .ne 5, 3) := by decide +kernel
theorem dX1_mix_30 : decode cX1_mix 30 = .ok (.iconst 0, 1) := by decide +kernel
theorem dX1_mix_31 : decode cX1_mix 31 = .ok (.ireturn, 1) := by decide +kernel
theorem dX1_mix_32 : decode cX1_mix 32 = .ok (.aload_n 0, 1) := by decide +kernel
theorem dX1_mix_33 : decode cX1_mix 33 = .ok (.getfield 44, 3) := by decide +kernel
theorem dX1_mix_36 : decode cX1_mix 36 = .ok (.iconst 3, 1) := by decide +kernel
theorem dX1_mix_37 : decode cX1_mix 37 = .ok (.iload_n 1, 1) := by decide +kernel
theorem dX1_mix_38 : decode cX1_mix 38 = .ok (.imul, 1) := by decide +kernel
theorem dX1_mix_39 : decode cX1_mix 39 = .ok (.iload_n 2, 1) := by decide +kernel
theorem dX1_mix_40 : decode cX1_mix 40 = .ok (.iadd, 1) := by decide +kernel
theorem dX1_mix_41 : decode cX1_mix 41 = .ok (.iaload, 1) := by decide +kernel
theorem dX1_mix_42 : decode cX1_mix 42 = .ok (.istore 4, 2) := by decide +kernel
theorem dX1_mix_44 : decode cX1_mix 44 = .ok (.aload_n 0, 1) := by decide +kernel
theorem dX1_mix_45 : decode cX1_mix 45 = .ok (.getfield 44, 3) := by decide +kernel
theorem dX1_mix_48 : decode cX1_mix 48 = .ok (.iconst 3, 1) := by decide +kernel
theorem dX1_mix_49 : decode cX1_mix 49 = .ok (.iload_n 1, 1) := by decide +kernel
theorem dX1_mix_50 : decode cX1_mix 50 = .ok (.imul, 1) := by decide +kernel
theorem dX1_mix_51 : decode cX1_mix 51 = .ok (.iload_n 2, 1) := by decide +kernel
theorem dX1_mix_52 : decode cX1_mix 52 = .ok (.iadd, 1) := by decide +kernel
theorem dX1_mix_53 : decode cX1_mix 53 = .ok (.iload_n 3, 1) := by decide +kernel
theorem dX1_mix_54 : decode cX1_mix 54 = .ok (.iastore, 1) := by decide +kernel
theorem dX1_mix_55 : decode cX1_mix 55 = .ok (.iload 4, 2) := by decide +kernel
theorem dX1_mix_57 : decode cX1_mix 57 = .ok (.ireturn, 1) := by decide +kernel
set_option maxRecDepth 20000 in
theorem ggX1_shown_X1_isChain : GoodIn wsX1_shown wsX1_isChain := goodIn_r _ [8, 9, 10, 11, 7, 12, 53, 54, 55, 56, 57, 58, 59, 60, 61, 62, 63, 64, 65, 66, 67, 68] (by decide +kernel) (by decide +kernel)
set_option maxRecDepth 20000 in
theorem gX1_shown_X1_isChain : GoodIn wsX1_shown (wsV RX1 107 RX1 yX1_isChain wsX1_isChain) := goodIn_app (goodIn_of _ (by decide +kernel)) ggX1_shown_X1_isChain
set_option maxRecDepth 20000 in
theorem ggX1_shown_X1_isPixel : GoodIn wsX1_shown wsX1_isPixel := goodIn_r _ [15, 10, 11, 7, 12] (by decide +kernel) (by decide +kernel)
set_option maxRecDepth 20000 in
theorem gX1_shown_X1_isPixel : GoodIn wsX1_shown (va_wsS RX1 119 yX1_isPixel wsX1_isPixel) := goodIn_app (goodIn_of _ (by decide +kernel)) ggX1_shown_X1_isPixel
set_option maxRecDepth 20000 in
theorem ggX1_shown_X1_isThird : GoodIn wsX1_shown wsX1_isThird := goodIn_r _ [18, 10, 11, 7, 12] (by decide +kernel) (by decide +kernel)
set_option maxRecDepth 20000 in
theorem gX1_shown_X1_isThird : GoodIn wsX1_shown (va_wsS RX1 90 yX1_isThird wsX1_isThird) := goodIn_app (goodIn_of _ (by decide +kernel)) ggX1_shown_X1_isThird
set_option maxRecDepth 20000 in
theorem ggX1_shown_X1_isIn : GoodIn wsX1_shown wsX1_isIn := goodIn_r _ [12] (by decide +kernel) (by decide +kernel)
set_option maxRecDepth 20000 in
theorem gX1_shown_X1_isIn : GoodIn wsX1_shown (va_wsS RX1 54 yX1_isIn wsX1_isIn) := goodIn_app (goodIn_of _ (by decide +kernel)) ggX1_shown_X1_isIn
set_option maxRecDepth 20000 in
theorem ggX1_shown_X1_mayBoth : GoodIn wsX1_shown wsX1_mayBoth := goodIn_r _ [22, 23, 53, 54, 55, 56, 57, 58, 59, 60, 61, 62, 63, 64, 65, 66, 67, 68] (by decide +kernel) (by decide +kernel)
set_option maxRecDepth 20000 in
theorem gX1_shown_X1_mayBoth : GoodIn wsX1_shown (wsV RX1 103 RX1 yX1_mayBoth wsX1_mayBoth) := goodIn_app (goodIn_of _ (by decide +kernel)) ggX1_shown_X1_mayBoth
set_option maxRecDepth 20000 in
theorem ggX1_shown_X1_throughOf : GoodIn wsX1_shown wsX1_throughOf := goodIn_r _ [27, 28, 29, 30, 31, 32, 7, 33, 34, 35, 36, 37, 38, 39, 40, 41, 42, 43, 44, 45, 46, 47, 48, 49, 50, 51, 52, 53, 54, 55, 56, 57, 58, 59, 60, 61, 62, 63, 64, 65, 66, 67, 68] (by decide +kernel) (by decide +kernel)
set_option maxRecDepth 20000 in
theorem gX1_shown_X1_throughOf : GoodIn wsX1_shown (wsV RX1 110 RX1 yX1_throughOf wsX1_throughOf) := goodIn_app (goodIn_of _ (by decide +kernel)) ggX1_shown_X1_throughOf
theorem dX1_shown_0 : decode cX1_shown 0 = .ok (.aload_n 0, 1) := by decide +kernel
theorem dX1_shown_1 : decode cX1_shown 1 = .ok (.aload_n 0, 1) := by decide +kernel
theorem dX1_shown_2 : decode cX1_shown 2 = .ok (.iload_n 1, 1) := by decide +kernel
theorem dX1_shown_3 : decode cX1_shown 3 = .ok (.invokevirtual 107, 3) := by decide +kernel
theorem dX1_shown_6 : decode cX1_shown 6 = .ok (.ifCond .eq 21, 3) := by decide +kernel
theorem dX1_shown_9 : decode cX1_shown 9 = .ok (.iload_n 2, 1) := by decide +kernel
theorem dX1_shown_10 : decode cX1_shown 10 = .ok (.invokestatic 119, 3) := by decide +kernel
theorem dX1_shown_13 : decode cX1_shown 13 = .ok (.ifCond .eq 14, 3) := by decide +kernel
theorem dX1_shown_16 : decode cX1_shown 16 = .ok (.iload_n 3, 1) := by decide +kernel
theorem dX1_shown_17 : decode cX1_shown 17 = .ok (.invokestatic 90, 3) := by decide +kernel
theorem dX1_shown_20 : decode cX1_shown 20 = .ok (.ifCond .eq 7, 3) := by decide +kernel
theorem dX1_shown_23 : decode cX1_shown 23 = .ok (.iconst 1, 1) := by decide +kernel
theorem dX1_shown_24 : decode cX1_shown 24 = .ok (.goto 4, 3) := by decide +kernel
theorem dX1_shown_27 : decode cX1_shown 27 = .ok (.iconst 0, 1) := by decide +kernel
theorem dX1_shown_28 : decode cX1_shown 28 = .ok (.iload 4, 2) := by decide +kernel
theorem dX1_shown_30 : decode cX1_shown 30 = .ok (.iconst 0, 1) := by decide +kernel
theorem dX1_shown_31 : decode cX1_shown 31 = .ok (.bipush 7, 2) := by decide +kernel
theorem dX1_shown_33 : decode cX1_shown 33 = .ok (.invokestatic 54, 3) := by decide +kernel
theorem dX1_shown_36 : decode cX1_shown 36 = .ok (.invokevirtual 103, 3) := by decide +kernel
theorem dX1_shown_39 : decode cX1_shown 39 = .ok (.ifCond .ne 5, 3) := by decide +kernel
theorem dX1_shown_42 : decode cX1_shown 42 = .ok (.iconst 0, 1) := by decide +kernel
theorem dX1_shown_43 : decode cX1_shown 43 = .ok (.ireturn, 1) := by decide +kernel
theorem dX1_shown_44 : decode cX1_shown 44 = .ok (.aload_n 0, 1) := by decide +kernel
theorem dX1_shown_45 : decode cX1_shown 45 = .ok (.getfield 38, 3) := by decide +kernel
theorem dX1_shown_48 : decode cX1_shown 48 = .ok (.iconst 3, 1) := by decide +kernel
theorem dX1_shown_49 : decode cX1_shown 49 = .ok (.iload_n 2, 1) := by decide +kernel
theorem dX1_shown_50 : decode cX1_shown 50 = .ok (.imul, 1) := by decide +kernel
theorem dX1_shown_51 : decode cX1_shown 51 = .ok (.iload_n 3, 1) := by decide +kernel
theorem dX1_shown_52 : decode cX1_shown 52 = .ok (.iadd, 1) := by decide +kernel
theorem dX1_shown_53 : decode cX1_shown 53 = .ok (.iaload, 1) := by decide +kernel
theorem dX1_shown_54 : decode cX1_shown 54 = .ok (.istore 5, 2) := by decide +kernel
theorem dX1_shown_56 : decode cX1_shown 56 = .ok (.iconst 0, 1) := by decide +kernel
theorem dX1_shown_57 : decode cX1_shown 57 = .ok (.istore 6, 2) := by decide +kernel
theorem dX1_shown_59 : decode cX1_shown 59 = .ok (.iload 6, 2) := by decide +kernel
theorem dX1_shown_61 : decode cX1_shown 61 = .ok (.iconst 3, 1) := by decide +kernel
theorem dX1_shown_62 : decode cX1_shown 62 = .ok (.if_icmp .ge 69, 3) := by decide +kernel
theorem dX1_shown_65 : decode cX1_shown 65 = .ok (.iload 4, 2) := by decide +kernel
theorem dX1_shown_67 : decode cX1_shown 67 = .ok (.iload 6, 2) := by decide +kernel
theorem dX1_shown_69 : decode cX1_shown 69 = .ok (.ishr, 1) := by decide +kernel
theorem dX1_shown_70 : decode cX1_shown 70 = .ok (.iconst 1, 1) := by decide +kernel
theorem dX1_shown_71 : decode cX1_shown 71 = .ok (.iand, 1) := by decide +kernel
theorem dX1_shown_72 : decode cX1_shown 72 = .ok (.ifCond .ne 53, 3) := by decide +kernel
theorem dX1_shown_75 : decode cX1_shown 75 = .ok (.iload 5, 2) := by decide +kernel
theorem dX1_shown_77 : decode cX1_shown 77 = .ok (.aload_n 0, 1) := by decide +kernel
theorem dX1_shown_78 : decode cX1_shown 78 = .ok (.getfield 44, 3) := by decide +kernel
theorem dX1_shown_81 : decode cX1_shown 81 = .ok (.iconst 3, 1) := by decide +kernel
theorem dX1_shown_82 : decode cX1_shown 82 = .ok (.iload 6, 2) := by decide +kernel
theorem dX1_shown_84 : decode cX1_shown 84 = .ok (.imul, 1) := by decide +kernel
theorem dX1_shown_85 : decode cX1_shown 85 = .ok (.iload_n 3, 1) := by decide +kernel
theorem dX1_shown_86 : decode cX1_shown 86 = .ok (.iadd, 1) := by decide +kernel
theorem dX1_shown_87 : decode cX1_shown 87 = .ok (.iaload, 1) := by decide +kernel
theorem dX1_shown_88 : decode cX1_shown 88 = .ok (.aload_n 0, 1) := by decide +kernel
theorem dX1_shown_89 : decode cX1_shown 89 = .ok (.getfield 41, 3) := by decide +kernel
theorem dX1_shown_92 : decode cX1_shown 92 = .ok (.iconst 3, 1) := by decide +kernel
theorem dX1_shown_93 : decode cX1_shown 93 = .ok (.iload_n 2, 1) := by decide +kernel
theorem dX1_shown_94 : decode cX1_shown 94 = .ok (.imul, 1) := by decide +kernel
theorem dX1_shown_95 : decode cX1_shown 95 = .ok (.iload 6, 2) := by decide +kernel
theorem dX1_shown_97 : decode cX1_shown 97 = .ok (.iadd, 1) := by decide +kernel
theorem dX1_shown_98 : decode cX1_shown 98 = .ok (.iaload, 1) := by decide +kernel
theorem dX1_shown_99 : decode cX1_shown 99 = .ok (.imul, 1) := by decide +kernel
theorem dX1_shown_100 : decode cX1_shown 100 = .ok (.sipush 255, 3) := by decide +kernel
theorem dX1_shown_103 : decode cX1_shown 103 = .ok (.idiv, 1) := by decide +kernel
theorem dX1_shown_104 : decode cX1_shown 104 = .ok (.iadd, 1) := by decide +kernel
theorem dX1_shown_105 : decode cX1_shown 105 = .ok (.istore 5, 2) := by decide +kernel
theorem dX1_shown_107 : decode cX1_shown 107 = .ok (.iload 5, 2) := by decide +kernel
theorem dX1_shown_109 : decode cX1_shown 109 = .ok (.sipush 255, 3) := by decide +kernel
theorem dX1_shown_112 : decode cX1_shown 112 = .ok (.if_icmp .le 9, 3) := by decide +kernel
theorem dX1_shown_115 : decode cX1_shown 115 = .ok (.sipush 255, 3) := by decide +kernel
theorem dX1_shown_118 : decode cX1_shown 118 = .ok (.goto 5, 3) := by decide +kernel
theorem dX1_shown_121 : decode cX1_shown 121 = .ok (.iload 5, 2) := by decide +kernel
theorem dX1_shown_123 : decode cX1_shown 123 = .ok (.istore 5, 2) := by decide +kernel
theorem dX1_shown_125 : decode cX1_shown 125 = .ok (.iinc 6 1, 3) := by decide +kernel
theorem dX1_shown_128 : decode cX1_shown 128 = .ok (.goto (-69), 3) := by decide +kernel
theorem dX1_shown_131 : decode cX1_shown 131 = .ok (.aload_n 0, 1) := by decide +kernel
theorem dX1_shown_132 : decode cX1_shown 132 = .ok (.iload_n 1, 1) := by decide +kernel
theorem dX1_shown_133 : decode cX1_shown 133 = .ok (.iload_n 3, 1) := by decide +kernel
theorem dX1_shown_134 : decode cX1_shown 134 = .ok (.iload 5, 2) := by decide +kernel
theorem dX1_shown_136 : decode cX1_shown 136 = .ok (.invokevirtual 110, 3) := by decide +kernel
theorem dX1_shown_139 : decode cX1_shown 139 = .ok (.ireturn, 1) := by decide +kernel
