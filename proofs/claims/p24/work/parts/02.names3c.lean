theorem dX0_needValue_20 : decode cX0_needValue 20 = .ok (.athrow, 1) := by decide +kernel
theorem dX0_needValue_21 : decode cX0_needValue 21 = .ok (.return_, 1) := by decide +kernel
set_option maxRecDepth 20000 in
theorem ggX0_needFreeProfile_X0_held : GoodIn wsX0_needFreeProfile wsX0_held := goodIn_r _ [7, 8, 9, 10, 6, 11, 12, 13, 14, 15, 16, 17, 18, 19, 20, 21, 22, 23, 24, 25, 26, 27, 28, 29, 30, 31, 32, 33, 34, 35] (by decide +kernel) (by decide +kernel)
set_option maxRecDepth 20000 in
theorem gX0_needFreeProfile_X0_held : GoodIn wsX0_needFreeProfile (wsV RX0 175 RX0 yX0_held wsX0_held) := goodIn_app (goodIn_of _ (by decide +kernel)) ggX0_needFreeProfile_X0_held
set_option maxRecDepth 20000 in
theorem ggX0_needFreeProfile_X0_hasBit : GoodIn wsX0_needFreeProfile wsX0_hasBit := goodIn_r _ [11] (by decide +kernel) (by decide +kernel)
set_option maxRecDepth 20000 in
theorem gX0_needFreeProfile_X0_hasBit : GoodIn wsX0_needFreeProfile (va_wsS RX0 133 yX0_hasBit wsX0_hasBit) := goodIn_app (goodIn_of _ (by decide +kernel)) ggX0_needFreeProfile_X0_hasBit
theorem dX0_needFreeProfile_0 : decode cX0_needFreeProfile 0 = .ok (.aload_n 0, 1) := by decide +kernel
theorem dX0_needFreeProfile_1 : decode cX0_needFreeProfile 1 = .ok (.invokevirtual 175, 3) := by decide +kernel
theorem dX0_needFreeProfile_4 : decode cX0_needFreeProfile 4 = .ok (.iload_n 1, 1) := by decide +kernel
theorem dX0_needFreeProfile_5 : decode cX0_needFreeProfile 5 = .ok (.invokestatic 133, 3) := by decide +kernel
theorem dX0_needFreeProfile_8 : decode cX0_needFreeProfile 8 = .ok (.ifCond .eq 13, 3) := by decide +kernel
theorem dX0_needFreeProfile_11 : decode cX0_needFreeProfile 11 = .ok (.new 47, 3) := by decide +kernel
theorem dX0_needFreeProfile_14 : decode cX0_needFreeProfile 14 = .ok (.dup, 1) := by decide +kernel
theorem dX0_needFreeProfile_15 : decode cX0_needFreeProfile 15 = .ok (.ldc 179, 2) := by decide +kernel
theorem dX0_needFreeProfile_17 : decode cX0_needFreeProfile 17 = .ok (.invokespecial 51, 3) := by decide +kernel
theorem dX0_needFreeProfile_20 : decode cX0_needFreeProfile 20 = .ok (.athrow, 1) := by decide +kernel
theorem dX0_needFreeProfile_21 : decode cX0_needFreeProfile 21 = .ok (.return_, 1) := by decide +kernel
set_option maxRecDepth 20000 in
theorem ggX0_needFreeChain_X0_hasBit : GoodIn wsX0_needFreeChain wsX0_hasBit := goodIn_r _ [7] (by decide +kernel) (by decide +kernel)
set_option maxRecDepth 20000 in
theorem gX0_needFreeChain_X0_hasBit : GoodIn wsX0_needFreeChain (va_wsS RX0 133 yX0_hasBit wsX0_hasBit) := goodIn_app (goodIn_of _ (by decide +kernel)) ggX0_needFreeChain_X0_hasBit
theorem dX0_needFreeChain_0 : decode cX0_needFreeChain 0 = .ok (.aload_n 0, 1) := by decide +kernel
theorem dX0_needFreeChain_1 : decode cX0_needFreeChain 1 = .ok (.getfield 146, 3) := by decide +kernel
theorem dX0_needFreeChain_4 : decode cX0_needFreeChain 4 = .ok (.iload_n 1, 1) := by decide +kernel
theorem dX0_needFreeChain_5 : decode cX0_needFreeChain 5 = .ok (.invokestatic 133, 3) := by decide +kernel
theorem dX0_needFreeChain_8 : decode cX0_needFreeChain 8 = .ok (.ifCond .eq 13, 3) := by decide +kernel
theorem dX0_needFreeChain_11 : decode cX0_needFreeChain 11 = .ok (.new 47, 3) := by decide +kernel
theorem dX0_needFreeChain_14 : decode cX0_needFreeChain 14 = .ok (.dup, 1) := by decide +kernel
theorem dX0_needFreeChain_15 : decode cX0_needFreeChain 15 = .ok (.ldc 181, 2) := by decide +kernel
theorem dX0_needFreeChain_17 : decode cX0_needFreeChain 17 = .ok (.invokespecial 51, 3) := by decide +kernel
theorem dX0_needFreeChain_20 : decode cX0_needFreeChain 20 = .ok (.athrow, 1) := by decide +kernel
theorem dX0_needFreeChain_21 : decode cX0_needFreeChain 21 = .ok (.return_, 1) := by decide +kernel
theorem dX0_valueOfPlace_0 : decode cX0_valueOfPlace 0 = .ok (.iload_n 0, 1) := by decide +kernel
theorem dX0_valueOfPlace_1 : decode cX0_valueOfPlace 1 = .ok (.bipush 64, 2) := by decide +kernel
theorem dX0_valueOfPlace_3 : decode cX0_valueOfPlace 3 = .ok (.imul, 1) := by decide +kernel
theorem dX0_valueOfPlace_4 : decode cX0_valueOfPlace 4 = .ok (.sipush 255, 3) := by decide +kernel
theorem dX0_valueOfPlace_7 : decode cX0_valueOfPlace 7 = .ok (.invokestatic 119, 3) := by decide +kernel
theorem dX0_valueOfPlace_10 : decode cX0_valueOfPlace 10 = .ok (.ireturn, 1) := by decide +kernel
set_option maxRecDepth 20000 in
theorem ggX0_between_X0_read : GoodIn wsX0_between wsX0_read := goodIn_r _ [4] (by decide +kernel) (by decide +kernel)
set_option maxRecDepth 20000 in
theorem gX0_between_X0_read : GoodIn wsX0_between (va_wsS RX0 105 yX0_read wsX0_read) := goodIn_app (goodIn_of _ (by decide +kernel)) ggX0_between_X0_read
set_option maxRecDepth 20000 in
theorem ggX0_between_J9_floorDiv_7cf53 : GoodIn wsX0_between wsJ9_floorDiv_7cf53 := goodIn_r _ [8] (by decide +kernel) (by decide +kernel)
set_option maxRecDepth 20000 in
theorem gX0_between_J9_floorDiv_7cf53 : GoodIn wsX0_between (va_wsS RX0 183 yJ9_floorDiv_7cf53 wsJ9_floorDiv_7cf53) := goodIn_app (goodIn_of _ (by decide +kernel)) ggX0_between_J9_floorDiv_7cf53
theorem dX0_between_0 : decode cX0_between 0 = .ok (.iload_n 2, 1) := by decide +kernel
theorem dX0_between_1 : decode cX0_between 1 = .ok (.bipush 64, 2) := by decide +kernel
theorem dX0_between_3 : decode cX0_between 3 = .ok (.idiv, 1) := by decide +kernel
theorem dX0_between_4 : decode cX0_between 4 = .ok (.istore_n 3, 1) := by decide +kernel
theorem dX0_between_5 : decode cX0_between 5 = .ok (.aload_n 0, 1) := by decide +kernel
theorem dX0_between_6 : decode cX0_between 6 = .ok (.iload_n 1, 1) := by decide +kernel
theorem dX0_between_7 : decode cX0_between 7 = .ok (.iload_n 3, 1) := by decide +kernel
theorem dX0_between_8 : decode cX0_between 8 = .ok (.iadd, 1) := by decide +kernel
theorem dX0_between_9 : decode cX0_between 9 = .ok (.invokestatic 105, 3) := by decide +kernel
theorem dX0_between_12 : decode cX0_between 12 = .ok (.istore 4, 2) := by decide +kernel
theorem dX0_between_14 : decode cX0_between 14 = .ok (.aload_n 0, 1) := by decide +kernel
theorem dX0_between_15 : decode cX0_between 15 = .ok (.iload_n 1, 1) := by decide +kernel
theorem dX0_between_16 : decode cX0_between 16 = .ok (.iload_n 3, 1) := by decide +kernel
theorem dX0_between_17 : decode cX0_between 17 = .ok (.iadd, 1) := by decide +kernel
theorem dX0_between_18 : decode cX0_between 18 = .ok (.iconst 1, 1) := by decide +kernel
theorem dX0_between_19 : decode cX0_between 19 = .ok (.iadd, 1) := by decide +kernel
theorem dX0_between_20 : decode cX0_between 20 = .ok (.invokestatic 105, 3) := by decide +kernel
theorem dX0_between_23 : decode cX0_between 23 = .ok (.istore 5, 2) := by decide +kernel
theorem dX0_between_25 : decode cX0_between 25 = .ok (.iload_n 3, 1) := by decide +kernel
theorem dX0_between_26 : decode cX0_between 26 = .ok (.iconst 3, 1) := by decide +kernel
theorem dX0_between_27 : decode cX0_between 27 = .ok (.if_icmp .ne 8, 3) := by decide +kernel
theorem dX0_between_30 : decode cX0_between 30 = .ok (.bipush 63, 2) := by decide +kernel
theorem dX0_between_32 : decode cX0_between 32 = .ok (.goto 5, 3) := by decide +kernel
theorem dX0_between_35 : decode cX0_between 35 = .ok (.bipush 64, 2) := by decide +kernel
theorem dX0_between_37 : decode cX0_between 37 = .ok (.istore 6, 2) := by decide +kernel
theorem dX0_between_39 : decode cX0_between 39 = .ok (.iload 4, 2) := by decide +kernel
theorem dX0_between_41 : decode cX0_between 41 = .ok (.iload 5, 2) := by decide +kernel
theorem dX0_between_43 : decode cX0_between 43 = .ok (.iload 4, 2) := by decide +kernel
theorem dX0_between_45 : decode cX0_between 45 = .ok (.isub, 1) := by decide +kernel
theorem dX0_between_46 : decode cX0_between 46 = .ok (.iload_n 2, 1) := by decide +kernel
theorem dX0_between_47 : decode cX0_between 47 = .ok (.iload_n 3, 1) := by decide +kernel
theorem dX0_between_48 : decode cX0_between 48 = .ok (.bipush 64, 2) := by decide +kernel
theorem dX0_between_50 : decode cX0_between 50 = .ok (.imul, 1) := by decide +kernel
theorem dX0_between_51 : decode cX0_between 51 = .ok (.isub, 1) := by decide +kernel
theorem dX0_between_52 : decode cX0_between 52 = .ok (.imul, 1) := by decide +kernel
theorem dX0_between_53 : decode cX0_between 53 = .ok (.iload 6, 2) := by decide +kernel
theorem dX0_between_55 : decode cX0_between 55 = .ok (.invokestatic 183, 3) := by decide +kernel
theorem dX0_between_58 : decode cX0_between 58 = .ok (.iadd, 1) := by decide +kernel
theorem dX0_between_59 : decode cX0_between 59 = .ok (.ireturn, 1) := by decide +kernel
set_option maxRecDepth 20000 in
theorem ggX0_bent_X0_between : GoodIn wsX0_bent wsX0_between := goodIn_r _ [5, 6, 7, 4, 8, 9, 10, 11, 12] (by decide +kernel) (by decide +kernel)
set_option maxRecDepth 20000 in
theorem gX0_bent_X0_between : GoodIn wsX0_bent (va_wsS RX0 139 yX0_between wsX0_between) := goodIn_app (goodIn_of _ (by decide +kernel)) ggX0_bent_X0_between
theorem dX0_bent_0 : decode cX0_bent 0 = .ok (.aload_n 0, 1) := by decide +kernel
theorem dX0_bent_1 : decode cX0_bent 1 = .ok (.getfield 9, 3) := by decide +kernel
theorem dX0_bent_4 : decode cX0_bent 4 = .ok (.iload_n 1, 1) := by decide +kernel
theorem dX0_bent_5 : decode cX0_bent 5 = .ok (.iconst 3, 1) := by decide +kernel
theorem dX0_bent_6 : decode cX0_bent 6 = .ok (.imul, 1) := by decide +kernel
theorem dX0_bent_7 : decode cX0_bent 7 = .ok (.iload_n 2, 1) := by decide +kernel
theorem dX0_bent_8 : decode cX0_bent 8 = .ok (.iadd, 1) := by decide +kernel
theorem dX0_bent_9 : decode cX0_bent 9 = .ok (.iconst 5, 1) := by decide +kernel
theorem dX0_bent_10 : decode cX0_bent 10 = .ok (.imul, 1) := by decide +kernel
theorem dX0_bent_11 : decode cX0_bent 11 = .ok (.iload_n 3, 1) := by decide +kernel
theorem dX0_bent_12 : decode cX0_bent 12 = .ok (.invokestatic 139, 3) := by decide +kernel
theorem dX0_bent_15 : decode cX0_bent 15 = .ok (.ireturn, 1) := by decide +kernel
set_option maxRecDepth 20000 in
theorem ggX0_take_X0_read : GoodIn wsX0_take wsX0_read := goodIn_r _ [14] (by decide +kernel) (by decide +kernel)
set_option maxRecDepth 20000 in
theorem gX0_take_X0_read : GoodIn wsX0_take (va_wsS RX0 105 yX0_read wsX0_read) := goodIn_app (goodIn_of _ (by decide +kernel)) ggX0_take_X0_read
set_option maxRecDepth 20000 in
theorem ggX0_take_X0_bent : GoodIn wsX0_take wsX0_bent := goodIn_r _ [18, 19, 20, 21, 13, 22, 11, 12, 14, 23, 24, 25, 26, 30, 31, 32, 33, 34, 35, 36, 37, 38, 39, 40, 41, 42, 43, 44] (by decide +kernel) (by decide +kernel)
set_option maxRecDepth 20000 in
theorem gX0_take_X0_bent : GoodIn wsX0_take (wsV RX0 87 RX0 yX0_bent wsX0_bent) := goodIn_app (goodIn_of _ (by decide +kernel)) ggX0_take_X0_bent
set_option maxRecDepth 20000 in
theorem ggX0_take_X0_fold : GoodIn wsX0_take wsX0_fold := goodIn_r _ [29] (by decide +kernel) (by decide +kernel)
set_option maxRecDepth 20000 in
theorem gX0_take_X0_fold : GoodIn wsX0_take (va_wsS RX0 186 yX0_fold wsX0_fold) := goodIn_app (goodIn_of _ (by decide +kernel)) ggX0_take_X0_fold
theorem dX0_take_0 : decode cX0_take 0 = .ok (.aload_n 0, 1) := by decide +kernel
theorem dX0_take_1 : decode cX0_take 1 = .ok (.getfield 13, 3) := by decide +kernel
theorem dX0_take_4 : decode cX0_take 4 = .ok (.iload_n 1, 1) := by decide +kernel
theorem dX0_take_5 : decode cX0_take 5 = .ok (.iconst 3, 1) := by decide +kernel
theorem dX0_take_6 : decode cX0_take 6 = .ok (.imul, 1) := by decide +kernel
theorem dX0_take_7 : decode cX0_take 7 = .ok (.iload_n 2, 1) := by decide +kernel
theorem dX0_take_8 : decode cX0_take 8 = .ok (.iadd, 1) := by decide +kernel
theorem dX0_take_9 : decode cX0_take 9 = .ok (.invokestatic 105, 3) := by decide +kernel
theorem dX0_take_12 : decode cX0_take 12 = .ok (.istore 4, 2) := by decide +kernel
theorem dX0_take_14 : decode cX0_take 14 = .ok (.aload_n 0, 1) := by decide +kernel
theorem dX0_take_15 : decode cX0_take 15 = .ok (.getfield 16, 3) := by decide +kernel
theorem dX0_take_18 : decode cX0_take 18 = .ok (.iload_n 1, 1) := by decide +kernel
theorem dX0_take_19 : decode cX0_take 19 = .ok (.iconst 3, 1) := by decide +kernel
theorem dX0_take_20 : decode cX0_take 20 = .ok (.imul, 1) := by decide +kernel
theorem dX0_take_21 : decode cX0_take 21 = .ok (.iload_n 2, 1) := by decide +kernel
theorem dX0_take_22 : decode cX0_take 22 = .ok (.iadd, 1) := by decide +kernel
theorem dX0_take_23 : decode cX0_take 23 = .ok (.invokestatic 105, 3) := by decide +kernel
theorem dX0_take_26 : decode cX0_take 26 = .ok (.istore 5, 2) := by decide +kernel
theorem dX0_take_28 : decode cX0_take 28 = .ok (.aload_n 0, 1) := by decide +kernel
theorem dX0_take_29 : decode cX0_take 29 = .ok (.iload_n 1, 1) := by decide +kernel
theorem dX0_take_30 : decode cX0_take 30 = .ok (.iload_n 2, 1) := by decide +kernel
theorem dX0_take_31 : decode cX0_take 31 = .ok (.iload_n 3, 1) := by decide +kernel
theorem dX0_take_32 : decode cX0_take 32 = .ok (.invokevirtual 87, 3) := by decide +kernel
theorem dX0_take_35 : decode cX0_take 35 = .ok (.istore 6, 2) := by decide +kernel
theorem dX0_take_37 : decode cX0_take 37 = .ok (.aload_n 0, 1) := by decide +kernel
theorem dX0_take_38 : decode cX0_take 38 = .ok (.getfield 19, 3) := by decide +kernel
theorem dX0_take_41 : decode cX0_take 41 = .ok (.iload_n 1, 1) := by decide +kernel
theorem dX0_take_42 : decode cX0_take 42 = .ok (.invokestatic 105, 3) := by decide +kernel
theorem dX0_take_45 : decode cX0_take 45 = .ok (.istore 7, 2) := by decide +kernel
theorem dX0_take_47 : decode cX0_take 47 = .ok (.iload 7, 2) := by decide +kernel
theorem dX0_take_49 : decode cX0_take 49 = .ok (.iconst 1, 1) := by decide +kernel
theorem dX0_take_50 : decode cX0_take 50 = .ok (.if_icmp .ne 19, 3) := by decide +kernel
theorem dX0_take_53 : decode cX0_take 53 = .ok (.iload 4, 2) := by decide +kernel
theorem dX0_take_55 : decode cX0_take 55 = .ok (.iload 6, 2) := by decide +kernel
theorem dX0_take_57 : decode cX0_take 57 = .ok (.iload 5, 2) := by decide +kernel
theorem dX0_take_59 : decode cX0_take 59 = .ok (.iload 4, 2) := by decide +kernel
theorem dX0_take_61 : decode cX0_take 61 = .ok (.isub, 1) := by decide +kernel
theorem dX0_take_62 : decode cX0_take 62 = .ok (.imul, 1) := by decide +kernel
theorem dX0_take_63 : decode cX0_take 63 = .ok (.sipush 255, 3) := by decide +kernel
theorem dX0_take_66 : decode cX0_take 66 = .ok (.idiv, 1) := by decide +kernel
theorem dX0_take_67 : decode cX0_take 67 = .ok (.iadd, 1) := by decide +kernel
theorem dX0_take_68 : decode cX0_take 68 = .ok (.ireturn, 1) := by decide +kernel
theorem dX0_take_69 : decode cX0_take 69 = .ok (.iload 7, 2) := by decide +kernel
theorem dX0_take_71 : decode cX0_take 71 = .ok (.iconst 2, 1) := by decide +kernel
theorem dX0_take_72 : decode cX0_take 72 = .ok (.if_icmp .ne 14, 3) := by decide +kernel
theorem dX0_take_75 : decode cX0_take 75 = .ok (.iload 6, 2) := by decide +kernel
theorem dX0_take_77 : decode cX0_take 77 = .ok (.iload 4, 2) := by decide +kernel
theorem dX0_take_79 : decode cX0_take 79 = .ok (.iload 5, 2) := by decide +kernel
theorem dX0_take_81 : decode cX0_take 81 = .ok (.invokestatic 186, 3) := by decide +kernel
theorem dX0_take_84 : decode cX0_take 84 = .ok (.istore 6, 2) := by decide +kernel
theorem dX0_take_86 : decode cX0_take 86 = .ok (.iload 4, 2) := by decide +kernel
theorem dX0_take_88 : decode cX0_take 88 = .ok (.iload 5, 2) := by decide +kernel
theorem dX0_take_90 : decode cX0_take 90 = .ok (.iload 6, 2) := by decide +kernel
theorem dX0_take_92 : decode cX0_take 92 = .ok (.invokestatic 119, 3) := by decide +kernel
theorem dX0_take_95 : decode cX0_take 95 = .ok (.invokestatic 125, 3) := by decide +kernel
theorem dX0_take_98 : decode cX0_take 98 = .ok (.ireturn, 1) := by decide +kernel
theorem dX0_fold_0 : decode cX0_fold 0 = .ok (.iload_n 0, 1) := by decide +kernel
theorem dX0_fold_1 : decode cX0_fold 1 = .ok (.iload_n 2, 1) := by decide +kernel
theorem dX0_fold_2 : decode cX0_fold 2 = .ok (.if_icmp .le 9, 3) := by decide +kernel
theorem dX0_fold_5 : decode cX0_fold 5 = .ok (.iload_n 2, 1) := by decide +kernel
theorem dX0_fold_6 : decode cX0_fold 6 = .ok (.iload_n 0, 1) := by decide +kernel
theorem dX0_fold_7 : decode cX0_fold 7 = .ok (.iload_n 2, 1) := by decide +kernel
theorem dX0_fold_8 : decode cX0_fold 8 = .ok (.isub, 1) := by decide +kernel
theorem dX0_fold_9 : decode cX0_fold 9 = .ok (.isub, 1) := by decide +kernel
theorem dX0_fold_10 : decode cX0_fold 10 = .ok (.ireturn, 1) := by decide +kernel
theorem dX0_fold_11 : decode cX0_fold 11 = .ok (.iload_n 0, 1) := by decide +kernel
theorem dX0_fold_12 : decode cX0_fold 12 = .ok (.iload_n 1, 1) := by decide +kernel
theorem dX0_fold_13 : decode cX0_fold 13 = .ok (.if_icmp .ge 9, 3) := by decide +kernel
theorem dX0_fold_16 : decode cX0_fold 16 = .ok (.iload_n 1, 1) := by decide +kernel
theorem dX0_fold_17 : decode cX0_fold 17 = .ok (.iload_n 1, 1) := by decide +kernel
theorem dX0_fold_18 : decode cX0_fold 18 = .ok (.iload_n 0, 1) := by decide +kernel
theorem dX0_fold_19 : decode cX0_fold 19 = .ok (.isub, 1) := by decide +kernel
theorem dX0_fold_20 : decode cX0_fold 20 = .ok (.iadd, 1) := by decide +kernel
theorem dX0_fold_21 : decode cX0_fold 21 = .ok (.ireturn, 1) := by decide +kernel
theorem dX0_fold_22 : decode cX0_fold 22 = .ok (.iload_n 0, 1) := by decide +kernel
theorem dX0_fold_23 : decode cX0_fold 23 = .ok (.ireturn, 1) := by decide +kernel
set_option maxRecDepth 20000 in
theorem ggX0_pass_X0_read : GoodIn wsX0_pass wsX0_read := goodIn_r _ [6] (by decide +kernel) (by decide +kernel)
set_option maxRecDepth 20000 in
theorem gX0_pass_X0_read : GoodIn wsX0_pass (va_wsS RX0 105 yX0_read wsX0_read) := goodIn_app (goodIn_of _ (by decide +kernel)) ggX0_pass_X0_read
set_option maxRecDepth 20000 in
theorem ggX0_pass_X0_take : GoodIn wsX0_pass wsX0_take := goodIn_r _ [10, 11, 12, 13, 14, 15, 16, 17, 18, 19, 20, 3, 4, 5, 6, 21, 22, 23, 24, 25, 26, 27, 28, 29, 30, 31, 32, 33, 34, 35, 36, 37, 38, 39, 40, 41, 42, 43, 44, 45, 46, 47, 48, 49, 50] (by decide +kernel) (by decide +kernel)
set_option maxRecDepth 20000 in
theorem gX0_pass_X0_take : GoodIn wsX0_pass (wsV RX0 91 RX0 yX0_take wsX0_take) := goodIn_app (goodIn_of _ (by decide +kernel)) ggX0_pass_X0_take
theorem dX0_pass_0 : decode cX0_pass 0 = .ok (.aload_n 0, 1) := by decide +kernel
theorem dX0_pass_1 : decode cX0_pass 1 = .ok (.getfield 25, 3) := by decide +kernel
theorem dX0_pass_4 : decode cX0_pass 4 = .ok (.iload_n 1, 1) := by decide +kernel
theorem dX0_pass_5 : decode cX0_pass 5 = .ok (.invokestatic 105, 3) := by decide +kernel
theorem dX0_pass_8 : decode cX0_pass 8 = .ok (.istore 4, 2) := by decide +kernel
theorem dX0_pass_10 : decode cX0_pass 10 = .ok (.iload_n 3, 1) := by decide +kernel
theorem dX0_pass_11 : decode cX0_pass 11 = .ok (.istore 5, 2) := by decide +kernel
theorem dX0_pass_13 : decode cX0_pass 13 = .ok (.iconst 0, 1) := by decide +kernel
theorem dX0_pass_14 : decode cX0_pass 14 = .ok (.istore 6, 2) := by decide +kernel
theorem dX0_pass_16 : decode cX0_pass 16 = .ok (.iload 6, 2) := by decide +kernel
theorem dX0_pass_18 : decode cX0_pass 18 = .ok (.iload 4, 2) := by decide +kernel
theorem dX0_pass_20 : decode cX0_pass 20 = .ok (.if_icmp .ge 32, 3) := by decide +kernel
theorem dX0_pass_23 : decode cX0_pass 23 = .ok (.aload_n 0, 1) := by decide +kernel
theorem dX0_pass_24 : decode cX0_pass 24 = .ok (.aload_n 0, 1) := by decide +kernel
theorem dX0_pass_25 : decode cX0_pass 25 = .ok (.getfield 22, 3) := by decide +kernel
theorem dX0_pass_28 : decode cX0_pass 28 = .ok (.iload_n 1, 1) := by decide +kernel
theorem dX0_pass_29 : decode cX0_pass 29 = .ok (.bipush 6, 2) := by decide +kernel
theorem dX0_pass_31 : decode cX0_pass 31 = .ok (.imul, 1) := by decide +kernel
theorem dX0_pass_32 : decode cX0_pass 32 = .ok (.iload 6, 2) := by decide +kernel
theorem dX0_pass_34 : decode cX0_pass 34 = .ok (.iadd, 1) := by decide +kernel
theorem dX0_pass_35 : decode cX0_pass 35 = .ok (.invokestatic 105, 3) := by decide +kernel
theorem dX0_pass_38 : decode cX0_pass 38 = .ok (.iload_n 2, 1) := by decide +kernel
theorem dX0_pass_39 : decode cX0_pass 39 = .ok (.iload 5, 2) := by decide +kernel
theorem dX0_pass_41 : decode cX0_pass 41 = .ok (.invokevirtual 91, 3) := by decide +kernel
theorem dX0_pass_44 : decode cX0_pass 44 = .ok (.istore 5, 2) := by decide +kernel
theorem dX0_pass_46 : decode cX0_pass 46 = .ok (.iinc 6 1, 3) := by decide +kernel
theorem dX0_pass_49 : decode cX0_pass 49 = .ok (.goto (-33), 3) := by decide +kernel
theorem dX0_pass_52 : decode cX0_pass 52 = .ok (.iload 5, 2) := by decide +kernel
theorem dX0_pass_54 : decode cX0_pass 54 = .ok (.ireturn, 1) := by decide +kernel
set_option maxRecDepth 20000 in
theorem ggX0_tryJoining_X0_valueOfPlace : GoodIn wsX0_tryJoining wsX0_valueOfPlace := goodIn_r _ [12, 13, 14, 4, 15] (by decide +kernel) (by decide +kernel)
set_option maxRecDepth 20000 in
theorem gX0_tryJoining_X0_valueOfPlace : GoodIn wsX0_tryJoining (va_wsS RX0 54 yX0_valueOfPlace wsX0_valueOfPlace) := goodIn_app (goodIn_of _ (by decide +kernel)) ggX0_tryJoining_X0_valueOfPlace
set_option maxRecDepth 20000 in
theorem ggX0_tryJoining_X0_pass : GoodIn wsX0_tryJoining wsX0_pass := goodIn_r _ [19, 20, 21, 22, 23, 11, 24, 25, 26, 27, 28, 29, 30, 31, 13, 14, 4, 15, 6, 7, 8, 32, 33, 34, 35, 36, 37, 38, 39, 40, 41, 42, 43, 44, 45, 46, 50, 51, 52, 53, 54, 55, 56, 57, 58, 59, 60, 61, 62, 63, 64] (by decide +kernel) (by decide +kernel)
set_option maxRecDepth 20000 in
theorem gX0_tryJoining_X0_pass : GoodIn wsX0_tryJoining (wsV RX0 113 RX0 yX0_pass wsX0_pass) := goodIn_app (goodIn_of _ (by decide +kernel)) ggX0_tryJoining_X0_pass
set_option maxRecDepth 20000 in
theorem ggX0_tryJoining_X0_swap : GoodIn wsX0_tryJoining wsX0_swap := goodIn_r _ [49] (by decide +kernel) (by decide +kernel)
set_option maxRecDepth 20000 in
theorem gX0_tryJoining_X0_swap : GoodIn wsX0_tryJoining (va_wsS RX0 58 yX0_swap wsX0_swap) := goodIn_app (goodIn_of _ (by decide +kernel)) ggX0_tryJoining_X0_swap
set_option maxRecDepth 20000 in
theorem ggX0_tryJoining_X0_between : GoodIn wsX0_tryJoining wsX0_between := goodIn_r _ [39, 22, 23, 11, 24, 40, 41, 42, 43] (by decide +kernel) (by decide +kernel)
set_option maxRecDepth 20000 in
theorem gX0_tryJoining_X0_between : GoodIn wsX0_tryJoining (va_wsS RX0 139 yX0_between wsX0_between) := goodIn_app (goodIn_of _ (by decide +kernel)) ggX0_tryJoining_X0_between
theorem dX0_tryJoining_0 : decode cX0_tryJoining 0 = .ok (.iconst 0, 1) := by decide +kernel
theorem dX0_tryJoining_1 : decode cX0_tryJoining 1 = .ok (.istore_n 2, 1) := by decide +kernel
theorem dX0_tryJoining_2 : decode cX0_tryJoining 2 = .ok (.iconst 0, 1) := by decide +kernel
theorem dX0_tryJoining_3 : decode cX0_tryJoining 3 = .ok (.istore_n 3, 1) := by decide +kernel
theorem dX0_tryJoining_4 : decode cX0_tryJoining 4 = .ok (.iload_n 3, 1) := by decide +kernel
theorem dX0_tryJoining_5 : decode cX0_tryJoining 5 = .ok (.iconst 3, 1) := by decide +kernel
theorem dX0_tryJoining_6 : decode cX0_tryJoining 6 = .ok (.if_icmp .ge 99, 3) := by decide +kernel
theorem dX0_tryJoining_9 : decode cX0_tryJoining 9 = .ok (.iconst 0, 1) := by decide +kernel
theorem dX0_tryJoining_10 : decode cX0_tryJoining 10 = .ok (.istore 4, 2) := by decide +kernel
theorem dX0_tryJoining_12 : decode cX0_tryJoining 12 = .ok (.iload 4, 2) := by decide +kernel
theorem dX0_tryJoining_14 : decode cX0_tryJoining 14 = .ok (.iconst 5, 1) := by decide +kernel
theorem dX0_tryJoining_15 : decode cX0_tryJoining 15 = .ok (.if_icmp .ge 34, 3) := by decide +kernel
theorem dX0_tryJoining_18 : decode cX0_tryJoining 18 = .ok (.aload_n 0, 1) := by decide +kernel
theorem dX0_tryJoining_19 : decode cX0_tryJoining 19 = .ok (.getfield 31, 3) := by decide +kernel
theorem dX0_tryJoining_22 : decode cX0_tryJoining 22 = .ok (.iload_n 3, 1) := by decide +kernel
theorem dX0_tryJoining_23 : decode cX0_tryJoining 23 = .ok (.iconst 5, 1) := by decide +kernel
theorem dX0_tryJoining_24 : decode cX0_tryJoining 24 = .ok (.imul, 1) := by decide +kernel
theorem dX0_tryJoining_25 : decode cX0_tryJoining 25 = .ok (.iload 4, 2) := by decide +kernel
theorem dX0_tryJoining_27 : decode cX0_tryJoining 27 = .ok (.iadd, 1) := by decide +kernel
theorem dX0_tryJoining_28 : decode cX0_tryJoining 28 = .ok (.aload_n 0, 1) := by decide +kernel
theorem dX0_tryJoining_29 : decode cX0_tryJoining 29 = .ok (.iload_n 1, 1) := by decide +kernel
theorem dX0_tryJoining_30 : decode cX0_tryJoining 30 = .ok (.iload_n 3, 1) := by decide +kernel
theorem dX0_tryJoining_31 : decode cX0_tryJoining 31 = .ok (.iload 4, 2) := by decide +kernel
theorem dX0_tryJoining_33 : decode cX0_tryJoining 33 = .ok (.invokestatic 54, 3) := by decide +kernel
theorem dX0_tryJoining_36 : decode cX0_tryJoining 36 = .ok (.invokevirtual 113, 3) := by decide +kernel
theorem dX0_tryJoining_39 : decode cX0_tryJoining 39 = .ok (.invokestatic 58, 3) := by decide +kernel
theorem dX0_tryJoining_42 : decode cX0_tryJoining 42 = .ok (.pop, 1) := by decide +kernel
theorem dX0_tryJoining_43 : decode cX0_tryJoining 43 = .ok (.iinc 4 1, 3) := by decide +kernel
theorem dX0_tryJoining_46 : decode cX0_tryJoining 46 = .ok (.goto (-34), 3) := by decide +kernel
theorem dX0_tryJoining_49 : decode cX0_tryJoining 49 = .ok (.iconst 0, 1) := by decide +kernel
theorem dX0_tryJoining_50 : decode cX0_tryJoining 50 = .ok (.istore 4, 2) := by decide +kernel
theorem dX0_tryJoining_52 : decode cX0_tryJoining 52 = .ok (.iload 4, 2) := by decide +kernel
theorem dX0_tryJoining_54 : decode cX0_tryJoining 54 = .ok (.sipush 255, 3) := by decide +kernel
theorem dX0_tryJoining_57 : decode cX0_tryJoining 57 = .ok (.if_icmp .gt 42, 3) := by decide +kernel
theorem dX0_tryJoining_60 : decode cX0_tryJoining 60 = .ok (.aload_n 0, 1) := by decide +kernel
theorem dX0_tryJoining_61 : decode cX0_tryJoining 61 = .ok (.iload_n 1, 1) := by decide +kernel
theorem dX0_tryJoining_62 : decode cX0_tryJoining 62 = .ok (.iload_n 3, 1) := by decide +kernel
theorem dX0_tryJoining_63 : decode cX0_tryJoining 63 = .ok (.iload 4, 2) := by decide +kernel
theorem dX0_tryJoining_65 : decode cX0_tryJoining 65 = .ok (.invokevirtual 113, 3) := by decide +kernel
theorem dX0_tryJoining_68 : decode cX0_tryJoining 68 = .ok (.aload_n 0, 1) := by decide +kernel
theorem dX0_tryJoining_69 : decode cX0_tryJoining 69 = .ok (.getfield 31, 3) := by decide +kernel
theorem dX0_tryJoining_72 : decode cX0_tryJoining 72 = .ok (.iload_n 3, 1) := by decide +kernel
theorem dX0_tryJoining_73 : decode cX0_tryJoining 73 = .ok (.iconst 5, 1) := by decide +kernel
theorem dX0_tryJoining_74 : decode cX0_tryJoining 74 = .ok (.imul, 1) := by decide +kernel
theorem dX0_tryJoining_75 : decode cX0_tryJoining 75 = .ok (.iload 4, 2) := by decide +kernel
theorem dX0_tryJoining_77 : decode cX0_tryJoining 77 = .ok (.invokestatic 139, 3) := by decide +kernel
theorem dX0_tryJoining_80 : decode cX0_tryJoining 80 = .ok (.isub, 1) := by decide +kernel
theorem dX0_tryJoining_81 : decode cX0_tryJoining 81 = .ok (.istore 5, 2) := by decide +kernel
theorem dX0_tryJoining_83 : decode cX0_tryJoining 83 = .ok (.iload_n 2, 1) := by decide +kernel
theorem dX0_tryJoining_84 : decode cX0_tryJoining 84 = .ok (.iload 5, 2) := by decide +kernel
theorem dX0_tryJoining_86 : decode cX0_tryJoining 86 = .ok (.invokestatic 189, 3) := by decide +kernel
theorem dX0_tryJoining_89 : decode cX0_tryJoining 89 = .ok (.invokestatic 125, 3) := by decide +kernel
theorem dX0_tryJoining_92 : decode cX0_tryJoining 92 = .ok (.istore_n 2, 1) := by decide +kernel
theorem dX0_tryJoining_93 : decode cX0_tryJoining 93 = .ok (.iinc 4 1, 3) := by decide +kernel
theorem dX0_tryJoining_96 : decode cX0_tryJoining 96 = .ok (.goto (-44), 3) := by decide +kernel
theorem dX0_tryJoining_99 : decode cX0_tryJoining 99 = .ok (.iinc 3 1, 3) := by decide +kernel
theorem dX0_tryJoining_102 : decode cX0_tryJoining 102 = .ok (.goto (-98), 3) := by decide +kernel
theorem dX0_tryJoining_105 : decode cX0_tryJoining 105 = .ok (.iload_n 2, 1) := by decide +kernel
theorem dX0_tryJoining_106 : decode cX0_tryJoining 106 = .ok (.ireturn, 1) := by decide +kernel
set_option maxRecDepth 20000 in
theorem ggX0_differsFromKept_X0_read : GoodIn wsX0_differsFromKept wsX0_read := goodIn_r _ [5] (by decide +kernel) (by decide +kernel)
set_option maxRecDepth 20000 in
theorem gX0_differsFromKept_X0_read : GoodIn wsX0_differsFromKept (va_wsS RX0 105 yX0_read wsX0_read) := goodIn_app (goodIn_of _ (by decide +kernel)) ggX0_differsFromKept_X0_read
set_option maxRecDepth 20000 in
theorem ggX0_differsFromKept_X0_valueOfPlace : GoodIn wsX0_differsFromKept wsX0_valueOfPlace := goodIn_r _ [8, 9, 10, 11, 12] (by decide +kernel) (by decide +kernel)
set_option maxRecDepth 20000 in
theorem gX0_differsFromKept_X0_valueOfPlace : GoodIn wsX0_differsFromKept (va_wsS RX0 54 yX0_valueOfPlace wsX0_valueOfPlace) := goodIn_app (goodIn_of _ (by decide +kernel)) ggX0_differsFromKept_X0_valueOfPlace
set_option maxRecDepth 20000 in
theorem ggX0_differsFromKept_X0_pass : GoodIn wsX0_differsFromKept wsX0_pass := goodIn_r _ [16, 17, 18, 2, 3, 4, 5, 19, 20, 21, 22, 23, 24, 25, 9, 10, 11, 12, 26, 27, 28, 29, 30, 31, 32, 33, 34, 35, 36, 37, 38, 39, 40, 41, 42, 43, 44, 45, 46, 47, 48, 49, 50, 51, 52, 53, 54, 55, 56, 57, 58] (by decide +kernel) (by decide +kernel)
set_option maxRecDepth 20000 in
theorem gX0_differsFromKept_X0_pass : GoodIn wsX0_differsFromKept (wsV RX0 113 RX0 yX0_pass wsX0_pass) := goodIn_app (goodIn_of _ (by decide +kernel)) ggX0_differsFromKept_X0_pass
theorem dX0_differsFromKept_0 : decode cX0_differsFromKept 0 = .ok (.iconst 0, 1) := by decide +kernel
theorem dX0_differsFromKept_1 : decode cX0_differsFromKept 1 = .ok (.istore_n 2, 1) := by decide +kernel
theorem dX0_differsFromKept_2 : decode cX0_differsFromKept 2 = .ok (.iload_n 2, 1) := by decide +kernel
theorem dX0_differsFromKept_3 : decode cX0_differsFromKept 3 = .ok (.iconst 3, 1) := by decide +kernel
theorem dX0_differsFromKept_4 : decode cX0_differsFromKept 4 = .ok (.if_icmp .ge 57, 3) := by decide +kernel
theorem dX0_differsFromKept_7 : decode cX0_differsFromKept 7 = .ok (.iconst 0, 1) := by decide +kernel
theorem dX0_differsFromKept_8 : decode cX0_differsFromKept 8 = .ok (.istore_n 3, 1) := by decide +kernel
theorem dX0_differsFromKept_9 : decode cX0_differsFromKept 9 = .ok (.iload_n 3, 1) := by decide +kernel
theorem dX0_differsFromKept_10 : decode cX0_differsFromKept 10 = .ok (.iconst 5, 1) := by decide +kernel
theorem dX0_differsFromKept_11 : decode cX0_differsFromKept 11 = .ok (.if_icmp .ge 44, 3) := by decide +kernel
theorem dX0_differsFromKept_14 : decode cX0_differsFromKept 14 = .ok (.aload_n 0, 1) := by decide +kernel
theorem dX0_differsFromKept_15 : decode cX0_differsFromKept 15 = .ok (.getfield 28, 3) := by decide +kernel
theorem dX0_differsFromKept_18 : decode cX0_differsFromKept 18 = .ok (.iload_n 1, 1) := by decide +kernel
theorem dX0_differsFromKept_19 : decode cX0_differsFromKept 19 = .ok (.iconst 3, 1) := by decide +kernel
theorem dX0_differsFromKept_20 : decode cX0_differsFromKept 20 = .ok (.imul, 1) := by decide +kernel
theorem dX0_differsFromKept_21 : decode cX0_differsFromKept 21 = .ok (.iload_n 2, 1) := by decide +kernel
theorem dX0_differsFromKept_22 : decode cX0_differsFromKept 22 = .ok (.iadd, 1) := by decide +kernel
theorem dX0_differsFromKept_23 : decode cX0_differsFromKept 23 = .ok (.iconst 5, 1) := by decide +kernel
theorem dX0_differsFromKept_24 : decode cX0_differsFromKept 24 = .ok (.imul, 1) := by decide +kernel
theorem dX0_differsFromKept_25 : decode cX0_differsFromKept 25 = .ok (.iload_n 3, 1) := by decide +kernel
theorem dX0_differsFromKept_26 : decode cX0_differsFromKept 26 = .ok (.iadd, 1) := by decide +kernel
theorem dX0_differsFromKept_27 : decode cX0_differsFromKept 27 = .ok (.invokestatic 105, 3) := by decide +kernel
theorem dX0_differsFromKept_30 : decode cX0_differsFromKept 30 = .ok (.istore 4, 2) := by decide +kernel
theorem dX0_differsFromKept_32 : decode cX0_differsFromKept 32 = .ok (.aload_n 0, 1) := by decide +kernel
theorem dX0_differsFromKept_33 : decode cX0_differsFromKept 33 = .ok (.iload_n 1, 1) := by decide +kernel
theorem dX0_differsFromKept_34 : decode cX0_differsFromKept 34 = .ok (.iload_n 2, 1) := by decide +kernel
theorem dX0_differsFromKept_35 : decode cX0_differsFromKept 35 = .ok (.iload_n 3, 1) := by decide +kernel
theorem dX0_differsFromKept_36 : decode cX0_differsFromKept 36 = .ok (.invokestatic 54, 3) := by decide +kernel
theorem dX0_differsFromKept_39 : decode cX0_differsFromKept 39 = .ok (.invokevirtual 113, 3) := by decide +kernel
theorem dX0_differsFromKept_42 : decode cX0_differsFromKept 42 = .ok (.iload 4, 2) := by decide +kernel
theorem dX0_differsFromKept_44 : decode cX0_differsFromKept 44 = .ok (.if_icmp .eq 5, 3) := by decide +kernel
theorem dX0_differsFromKept_47 : decode cX0_differsFromKept 47 = .ok (.iconst 1, 1) := by decide +kernel
theorem dX0_differsFromKept_48 : decode cX0_differsFromKept 48 = .ok (.ireturn, 1) := by decide +kernel
theorem dX0_differsFromKept_49 : decode cX0_differsFromKept 49 = .ok (.iinc 3 1, 3) := by decide +kernel
theorem dX0_differsFromKept_52 : decode cX0_differsFromKept 52 = .ok (.goto (-43), 3) := by decide +kernel
theorem dX0_differsFromKept_55 : decode cX0_differsFromKept 55 = .ok (.iinc 2 1, 3) := by decide +kernel
theorem dX0_differsFromKept_58 : decode cX0_differsFromKept 58 = .ok (.goto (-56), 3) := by decide +kernel
theorem dX0_differsFromKept_61 : decode cX0_differsFromKept 61 = .ok (.iconst 0, 1) := by decide +kernel
theorem dX0_differsFromKept_62 : decode cX0_differsFromKept 62 = .ok (.ireturn, 1) := by decide +kernel
set_option maxRecDepth 20000 in
theorem ggX0_profilesOf_X0_read : GoodIn wsX0_profilesOf wsX0_read := goodIn_r _ [6] (by decide +kernel) (by decide +kernel)
set_option maxRecDepth 20000 in
theorem gX0_profilesOf_X0_read : GoodIn wsX0_profilesOf (va_wsS RX0 105 yX0_read wsX0_read) := goodIn_app (goodIn_of _ (by decide +kernel)) ggX0_profilesOf_X0_read
theorem dX0_profilesOf_0 : decode cX0_profilesOf 0 = .ok (.aload_n 0, 1) := by decide +kernel
theorem dX0_profilesOf_1 : decode cX0_profilesOf 1 = .ok (.getfield 25, 3) := by decide +kernel
theorem dX0_profilesOf_4 : decode cX0_profilesOf 4 = .ok (.iload_n 1, 1) := by decide +kernel
theorem dX0_profilesOf_5 : decode cX0_profilesOf 5 = .ok (.invokestatic 105, 3) := by decide +kernel
theorem dX0_profilesOf_8 : decode cX0_profilesOf 8 = .ok (.istore_n 2, 1) := by decide +kernel
theorem dX0_profilesOf_9 : decode cX0_profilesOf 9 = .ok (.iconst 0, 1) := by decide +kernel
theorem dX0_profilesOf_10 : decode cX0_profilesOf 10 = .ok (.istore_n 3, 1) := by decide +kernel
theorem dX0_profilesOf_11 : decode cX0_profilesOf 11 = .ok (.iconst 0, 1) := by decide +kernel
theorem dX0_profilesOf_12 : decode cX0_profilesOf 12 = .ok (.istore 4, 2) := by decide +kernel
theorem dX0_profilesOf_14 : decode cX0_profilesOf 14 = .ok (.iload 4, 2) := by decide +kernel
theorem dX0_profilesOf_16 : decode cX0_profilesOf 16 = .ok (.iload_n 2, 1) := by decide +kernel
theorem dX0_profilesOf_17 : decode cX0_profilesOf 17 = .ok (.if_icmp .ge 28, 3) := by decide +kernel
theorem dX0_profilesOf_20 : decode cX0_profilesOf 20 = .ok (.iload_n 3, 1) := by decide +kernel
theorem dX0_profilesOf_21 : decode cX0_profilesOf 21 = .ok (.iconst 1, 1) := by decide +kernel
theorem dX0_profilesOf_22 : decode cX0_profilesOf 22 = .ok (.aload_n 0, 1) := by decide +kernel
theorem dX0_profilesOf_23 : decode cX0_profilesOf 23 = .ok (.getfield 22, 3) := by decide +kernel
theorem dX0_profilesOf_26 : decode cX0_profilesOf 26 = .ok (.iload_n 1, 1) := by decide +kernel
theorem dX0_profilesOf_27 : decode cX0_profilesOf 27 = .ok (.bipush 6, 2) := by decide +kernel
theorem dX0_profilesOf_29 : decode cX0_profilesOf 29 = .ok (.imul, 1) := by decide +kernel
theorem dX0_profilesOf_30 : decode cX0_profilesOf 30 = .ok (.iload 4, 2) := by decide +kernel
theorem dX0_profilesOf_32 : decode cX0_profilesOf 32 = .ok (.iadd, 1) := by decide +kernel
theorem dX0_profilesOf_33 : decode cX0_profilesOf 33 = .ok (.invokestatic 105, 3) := by decide +kernel
theorem dX0_profilesOf_36 : decode cX0_profilesOf 36 = .ok (.ishl, 1) := by decide +kernel
theorem dX0_profilesOf_37 : decode cX0_profilesOf 37 = .ok (.ior, 1) := by decide +kernel
theorem dX0_profilesOf_38 : decode cX0_profilesOf 38 = .ok (.istore_n 3, 1) := by decide +kernel
theorem dX0_profilesOf_39 : decode cX0_profilesOf 39 = .ok (.iinc 4 1, 3) := by decide +kernel
theorem dX0_profilesOf_42 : decode cX0_profilesOf 42 = .ok (.goto (-28), 3) := by decide +kernel
theorem dX0_profilesOf_45 : decode cX0_profilesOf 45 = .ok (.iload_n 3, 1) := by decide +kernel
theorem dX0_profilesOf_46 : decode cX0_profilesOf 46 = .ok (.ireturn, 1) := by decide +kernel
set_option maxRecDepth 20000 in
theorem ggX0_inked_X0_read : GoodIn wsX0_inked wsX0_read := goodIn_r _ [11] (by decide +kernel) (by decide +kernel)
set_option maxRecDepth 20000 in
theorem gX0_inked_X0_read : GoodIn wsX0_inked (va_wsS RX0 105 yX0_read wsX0_read) := goodIn_app (goodIn_of _ (by decide +kernel)) ggX0_inked_X0_read
set_option maxRecDepth 20000 in
theorem ggX0_inked_X0_hasBit : GoodIn wsX0_inked wsX0_hasBit := goodIn_r _ [14] (by decide +kernel) (by decide +kernel)
set_option maxRecDepth 20000 in
theorem gX0_inked_X0_hasBit : GoodIn wsX0_inked (va_wsS RX0 133 yX0_hasBit wsX0_hasBit) := goodIn_app (goodIn_of _ (by decide +kernel)) ggX0_inked_X0_hasBit
theorem dX0_inked_0 : decode cX0_inked 0 = .ok (.aload_n 0, 1) := by decide +kernel
theorem dX0_inked_1 : decode cX0_inked 1 = .ok (.getfield 34, 3) := by decide +kernel
theorem dX0_inked_4 : decode cX0_inked 4 = .ok (.iload_n 1, 1) := by decide +kernel
theorem dX0_inked_5 : decode cX0_inked 5 = .ok (.iconst 3, 1) := by decide +kernel
theorem dX0_inked_6 : decode cX0_inked 6 = .ok (.imul, 1) := by decide +kernel
theorem dX0_inked_7 : decode cX0_inked 7 = .ok (.iload_n 2, 1) := by decide +kernel
theorem dX0_inked_8 : decode cX0_inked 8 = .ok (.iadd, 1) := by decide +kernel
theorem dX0_inked_9 : decode cX0_inked 9 = .ok (.invokestatic 105, 3) := by decide +kernel
theorem dX0_inked_12 : decode cX0_inked 12 = .ok (.istore 4, 2) := by decide +kernel
theorem dX0_inked_14 : decode cX0_inked 14 = .ok (.iconst 0, 1) := by decide +kernel
theorem dX0_inked_15 : decode cX0_inked 15 = .ok (.istore 5, 2) := by decide +kernel
theorem dX0_inked_17 : decode cX0_inked 17 = .ok (.iload 5, 2) := by decide +kernel
theorem dX0_inked_19 : decode cX0_inked 19 = .ok (.iconst 3, 1) := by decide +kernel
theorem dX0_inked_20 : decode cX0_inked 20 = .ok (.if_icmp .ge 64, 3) := by decide +kernel
theorem dX0_inked_23 : decode cX0_inked 23 = .ok (.iload_n 3, 1) := by decide +kernel
theorem dX0_inked_24 : decode cX0_inked 24 = .ok (.iload 5, 2) := by decide +kernel
theorem dX0_inked_26 : decode cX0_inked 26 = .ok (.invokestatic 133, 3) := by decide +kernel
theorem dX0_inked_29 : decode cX0_inked 29 = .ok (.ifCond .ne 49, 3) := by decide +kernel
theorem dX0_inked_32 : decode cX0_inked 32 = .ok (.aload_n 0, 1) := by decide +kernel
theorem dX0_inked_33 : decode cX0_inked 33 = .ok (.getfield 40, 3) := by decide +kernel
theorem dX0_inked_36 : decode cX0_inked 36 = .ok (.iload 5, 2) := by decide +kernel
theorem dX0_inked_38 : decode cX0_inked 38 = .ok (.iconst 3, 1) := by decide +kernel
theorem dX0_inked_39 : decode cX0_inked 39 = .ok (.imul, 1) := by decide +kernel
theorem dX0_inked_40 : decode cX0_inked 40 = .ok (.iload_n 2, 1) := by decide +kernel
theorem dX0_inked_41 : decode cX0_inked 41 = .ok (.iadd, 1) := by decide +kernel
theorem dX0_inked_42 : decode cX0_inked 42 = .ok (.invokestatic 105, 3) := by decide +kernel
theorem dX0_inked_45 : decode cX0_inked 45 = .ok (.aload_n 0, 1) := by decide +kernel
theorem dX0_inked_46 : decode cX0_inked 46 = .ok (.getfield 37, 3) := by decide +kernel
theorem dX0_inked_49 : decode cX0_inked 49 = .ok (.iload_n 1, 1) := by decide +kernel
theorem dX0_inked_50 : decode cX0_inked 50 = .ok (.iconst 3, 1) := by decide +kernel
theorem dX0_inked_51 : decode cX0_inked 51 = .ok (.imul, 1) := by decide +kernel
theorem dX0_inked_52 : decode cX0_inked 52 = .ok (.iload 5, 2) := by decide +kernel
theorem dX0_inked_54 : decode cX0_inked 54 = .ok (.iadd, 1) := by decide +kernel
theorem dX0_inked_55 : decode cX0_inked 55 = .ok (.invokestatic 105, 3) := by decide +kernel
theorem dX0_inked_58 : decode cX0_inked 58 = .ok (.imul, 1) := by decide +kernel
theorem dX0_inked_59 : decode cX0_inked 59 = .ok (.sipush 255, 3) := by decide +kernel
theorem dX0_inked_62 : decode cX0_inked 62 = .ok (.idiv, 1) := by decide +kernel
theorem dX0_inked_63 : decode cX0_inked 63 = .ok (.istore 6, 2) := by decide +kernel
theorem dX0_inked_65 : decode cX0_inked 65 = .ok (.sipush 255, 3) := by decide +kernel
theorem dX0_inked_68 : decode cX0_inked 68 = .ok (.iload 4, 2) := by decide +kernel
theorem dX0_inked_70 : decode cX0_inked 70 = .ok (.iload 6, 2) := by decide +kernel
theorem dX0_inked_72 : decode cX0_inked 72 = .ok (.iadd, 1) := by decide +kernel
theorem dX0_inked_73 : decode cX0_inked 73 = .ok (.invokestatic 119, 3) := by decide +kernel
theorem dX0_inked_76 : decode cX0_inked 76 = .ok (.istore 4, 2) := by decide +kernel
theorem dX0_inked_78 : decode cX0_inked 78 = .ok (.iinc 5 1, 3) := by decide +kernel
theorem dX0_inked_81 : decode cX0_inked 81 = .ok (.goto (-64), 3) := by decide +kernel
theorem dX0_inked_84 : decode cX0_inked 84 = .ok (.iload 4, 2) := by decide +kernel
theorem dX0_inked_86 : decode cX0_inked 86 = .ok (.ireturn, 1) := by decide +kernel
theorem dX0_read_0 : decode cX0_read 0 = .ok (.aload_n 0, 1) := by decide +kernel
theorem dX0_read_1 : decode cX0_read 1 = .ok (.ifnull 19, 3) := by decide +kernel
theorem dX0_read_4 : decode cX0_read 4 = .ok (.iload_n 1, 1) := by decide +kernel
theorem dX0_read_5 : decode cX0_read 5 = .ok (.ifCond .lt 15, 3) := by decide +kernel
theorem dX0_read_8 : decode cX0_read 8 = .ok (.iload_n 1, 1) := by decide +kernel
theorem dX0_read_9 : decode cX0_read 9 = .ok (.aload_n 0, 1) := by decide +kernel
theorem dX0_read_10 : decode cX0_read 10 = .ok (.arraylength, 1) := by decide +kernel
theorem dX0_read_11 : decode cX0_read 11 = .ok (.if_icmp .ge 9, 3) := by decide +kernel
theorem dX0_read_14 : decode cX0_read 14 = .ok (.aload_n 0, 1) := by decide +kernel
theorem dX0_read_15 : decode cX0_read 15 = .ok (.iload_n 1, 1) := by decide +kernel
theorem dX0_read_16 : decode cX0_read 16 = .ok (.iaload, 1) := by decide +kernel
theorem dX0_read_17 : decode cX0_read 17 = .ok (.goto 4, 3) := by decide +kernel
theorem dX0_read_20 : decode cX0_read 20 = .ok (.iconst 0, 1) := by decide +kernel
theorem dX0_read_21 : decode cX0_read 21 = .ok (.ireturn, 1) := by decide +kernel
theorem dX0_swap_0 : decode cX0_swap 0 = .ok (.aload_n 0, 1) := by decide +kernel
theorem dX0_swap_1 : decode cX0_swap 1 = .ok (.ifnull 13, 3) := by decide +kernel
theorem dX0_swap_4 : decode cX0_swap 4 = .ok (.iload_n 1, 1) := by decide +kernel
