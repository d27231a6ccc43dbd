theorem dL_cell_0 : decode cL_cell 0 = .ok (.iload_n 1, 1) := by decide +kernel
theorem dL_cell_1 : decode cL_cell 1 = .ok (.aload_n 0, 1) := by decide +kernel
theorem dL_cell_2 : decode cL_cell 2 = .ok (.arraylength, 1) := by decide +kernel
theorem dL_cell_3 : decode cL_cell 3 = .ok (.if_icmp .ge 9, 3) := by decide +kernel
theorem dL_cell_6 : decode cL_cell 6 = .ok (.aload_n 0, 1) := by decide +kernel
theorem dL_cell_7 : decode cL_cell 7 = .ok (.iload_n 1, 1) := by decide +kernel
theorem dL_cell_8 : decode cL_cell 8 = .ok (.iaload, 1) := by decide +kernel
theorem dL_cell_9 : decode cL_cell 9 = .ok (.goto 15, 3) := by decide +kernel
theorem dL_cell_12 : decode cL_cell 12 = .ok (.ldc2_w 7, 3) := by decide +kernel
theorem dL_cell_15 : decode cL_cell 15 = .ok (.iload_n 1, 1) := by decide +kernel
theorem dL_cell_16 : decode cL_cell 16 = .ok (.bipush 103, 2) := by decide +kernel
theorem dL_cell_18 : decode cL_cell 18 = .ok (.iadd, 1) := by decide +kernel
theorem dL_cell_19 : decode cL_cell 19 = .ok (.i2l, 1) := by decide +kernel
theorem dL_cell_20 : decode cL_cell 20 = .ok (.lmul, 1) := by decide +kernel
theorem dL_cell_21 : decode cL_cell 21 = .ok (.iconst 4, 1) := by decide +kernel
theorem dL_cell_22 : decode cL_cell 22 = .ok (.lushr, 1) := by decide +kernel
theorem dL_cell_23 : decode cL_cell 23 = .ok (.l2i, 1) := by decide +kernel
theorem dL_cell_24 : decode cL_cell 24 = .ok (.ireturn, 1) := by decide +kernel
theorem dL_some_0 : decode cL_some 0 = .ok (.iload_n 0, 1) := by decide +kernel
theorem dL_some_1 : decode cL_some 1 = .ok (.iconst 2, 1) := by decide +kernel
theorem dL_some_2 : decode cL_some 2 = .ok (.iushr, 1) := by decide +kernel
theorem dL_some_3 : decode cL_some 3 = .ok (.iload_n 1, 1) := by decide +kernel
theorem dL_some_4 : decode cL_some 4 = .ok (.irem, 1) := by decide +kernel
theorem dL_some_5 : decode cL_some 5 = .ok (.ireturn, 1) := by decide +kernel
theorem dL_at_0 : decode cL_at 0 = .ok (.iload_n 0, 1) := by decide +kernel
theorem dL_at_1 : decode cL_at 1 = .ok (.iconst 4, 1) := by decide +kernel
theorem dL_at_2 : decode cL_at 2 = .ok (.if_icmp .ne 9, 3) := by decide +kernel
theorem dL_at_5 : decode cL_at 5 = .ok (.sipush 255, 3) := by decide +kernel
theorem dL_at_8 : decode cL_at 8 = .ok (.goto 7, 3) := by decide +kernel
theorem dL_at_11 : decode cL_at 11 = .ok (.bipush 64, 2) := by decide +kernel
theorem dL_at_13 : decode cL_at 13 = .ok (.iload_n 0, 1) := by decide +kernel
theorem dL_at_14 : decode cL_at 14 = .ok (.imul, 1) := by decide +kernel
theorem dL_at_15 : decode cL_at 15 = .ok (.ireturn, 1) := by decide +kernel
set_option maxRecDepth 20000 in
theorem ggL_between_L_at : GoodIn wsL_between wsL_at := goodIn_r _ [4] (by decide +kernel) (by decide +kernel)
set_option maxRecDepth 20000 in
theorem gL_between_L_at : GoodIn wsL_between (va_wsS RL 9 yL_at wsL_at) := goodIn_app (goodIn_of _ (by decide +kernel)) ggL_between_L_at
theorem dL_between_0 : decode cL_between 0 = .ok (.iload_n 2, 1) := by decide +kernel
theorem dL_between_1 : decode cL_between 1 = .ok (.sipush 255, 3) := by decide +kernel
theorem dL_between_4 : decode cL_between 4 = .ok (.if_icmp .ne 7, 3) := by decide +kernel
theorem dL_between_7 : decode cL_between 7 = .ok (.iconst 4, 1) := by decide +kernel
theorem dL_between_8 : decode cL_between 8 = .ok (.goto 7, 3) := by decide +kernel
theorem dL_between_11 : decode cL_between 11 = .ok (.iload_n 2, 1) := by decide +kernel
theorem dL_between_12 : decode cL_between 12 = .ok (.bipush 64, 2) := by decide +kernel
theorem dL_between_14 : decode cL_between 14 = .ok (.idiv, 1) := by decide +kernel
theorem dL_between_15 : decode cL_between 15 = .ok (.istore_n 3, 1) := by decide +kernel
theorem dL_between_16 : decode cL_between 16 = .ok (.iload_n 2, 1) := by decide +kernel
theorem dL_between_17 : decode cL_between 17 = .ok (.iload_n 3, 1) := by decide +kernel
theorem dL_between_18 : decode cL_between 18 = .ok (.invokestatic 9, 3) := by decide +kernel
theorem dL_between_21 : decode cL_between 21 = .ok (.isub, 1) := by decide +kernel
theorem dL_between_22 : decode cL_between 22 = .ok (.istore 4, 2) := by decide +kernel
theorem dL_between_24 : decode cL_between 24 = .ok (.iload 4, 2) := by decide +kernel
theorem dL_between_26 : decode cL_between 26 = .ok (.ifCond .ne 9, 3) := by decide +kernel
theorem dL_between_29 : decode cL_between 29 = .ok (.aload_n 0, 1) := by decide +kernel
theorem dL_between_30 : decode cL_between 30 = .ok (.iload_n 1, 1) := by decide +kernel
theorem dL_between_31 : decode cL_between 31 = .ok (.iload_n 3, 1) := by decide +kernel
theorem dL_between_32 : decode cL_between 32 = .ok (.iadd, 1) := by decide +kernel
theorem dL_between_33 : decode cL_between 33 = .ok (.iaload, 1) := by decide +kernel
theorem dL_between_34 : decode cL_between 34 = .ok (.ireturn, 1) := by decide +kernel
theorem dL_between_35 : decode cL_between 35 = .ok (.iload_n 3, 1) := by decide +kernel
theorem dL_between_36 : decode cL_between 36 = .ok (.iconst 1, 1) := by decide +kernel
theorem dL_between_37 : decode cL_between 37 = .ok (.iadd, 1) := by decide +kernel
theorem dL_between_38 : decode cL_between 38 = .ok (.invokestatic 9, 3) := by decide +kernel
theorem dL_between_41 : decode cL_between 41 = .ok (.iload_n 3, 1) := by decide +kernel
theorem dL_between_42 : decode cL_between 42 = .ok (.invokestatic 9, 3) := by decide +kernel
theorem dL_between_45 : decode cL_between 45 = .ok (.isub, 1) := by decide +kernel
theorem dL_between_46 : decode cL_between 46 = .ok (.istore 5, 2) := by decide +kernel
theorem dL_between_48 : decode cL_between 48 = .ok (.aload_n 0, 1) := by decide +kernel
theorem dL_between_49 : decode cL_between 49 = .ok (.iload_n 1, 1) := by decide +kernel
theorem dL_between_50 : decode cL_between 50 = .ok (.iload_n 3, 1) := by decide +kernel
theorem dL_between_51 : decode cL_between 51 = .ok (.iadd, 1) := by decide +kernel
theorem dL_between_52 : decode cL_between 52 = .ok (.iconst 1, 1) := by decide +kernel
theorem dL_between_53 : decode cL_between 53 = .ok (.iadd, 1) := by decide +kernel
theorem dL_between_54 : decode cL_between 54 = .ok (.iaload, 1) := by decide +kernel
theorem dL_between_55 : decode cL_between 55 = .ok (.aload_n 0, 1) := by decide +kernel
theorem dL_between_56 : decode cL_between 56 = .ok (.iload_n 1, 1) := by decide +kernel
theorem dL_between_57 : decode cL_between 57 = .ok (.iload_n 3, 1) := by decide +kernel
theorem dL_between_58 : decode cL_between 58 = .ok (.iadd, 1) := by decide +kernel
theorem dL_between_59 : decode cL_between 59 = .ok (.iaload, 1) := by decide +kernel
theorem dL_between_60 : decode cL_between 60 = .ok (.isub, 1) := by decide +kernel
theorem dL_between_61 : decode cL_between 61 = .ok (.iload 4, 2) := by decide +kernel
theorem dL_between_63 : decode cL_between 63 = .ok (.imul, 1) := by decide +kernel
theorem dL_between_64 : decode cL_between 64 = .ok (.sipush 256, 3) := by decide +kernel
theorem dL_between_67 : decode cL_between 67 = .ok (.iload 5, 2) := by decide +kernel
theorem dL_between_69 : decode cL_between 69 = .ok (.imul, 1) := by decide +kernel
theorem dL_between_70 : decode cL_between 70 = .ok (.iadd, 1) := by decide +kernel
theorem dL_between_71 : decode cL_between 71 = .ok (.istore 6, 2) := by decide +kernel
theorem dL_between_73 : decode cL_between 73 = .ok (.aload_n 0, 1) := by decide +kernel
theorem dL_between_74 : decode cL_between 74 = .ok (.iload_n 1, 1) := by decide +kernel
theorem dL_between_75 : decode cL_between 75 = .ok (.iload_n 3, 1) := by decide +kernel
theorem dL_between_76 : decode cL_between 76 = .ok (.iadd, 1) := by decide +kernel
theorem dL_between_77 : decode cL_between 77 = .ok (.iaload, 1) := by decide +kernel
theorem dL_between_78 : decode cL_between 78 = .ok (.iload 6, 2) := by decide +kernel
theorem dL_between_80 : decode cL_between 80 = .ok (.iload 6, 2) := by decide +kernel
theorem dL_between_82 : decode cL_between 82 = .ok (.iload 5, 2) := by decide +kernel
theorem dL_between_84 : decode cL_between 84 = .ok (.irem, 1) := by decide +kernel
theorem dL_between_85 : decode cL_between 85 = .ok (.isub, 1) := by decide +kernel
theorem dL_between_86 : decode cL_between 86 = .ok (.iload 5, 2) := by decide +kernel
theorem dL_between_88 : decode cL_between 88 = .ok (.idiv, 1) := by decide +kernel
theorem dL_between_89 : decode cL_between 89 = .ok (.iadd, 1) := by decide +kernel
theorem dL_between_90 : decode cL_between 90 = .ok (.sipush 256, 3) := by decide +kernel
theorem dL_between_93 : decode cL_between 93 = .ok (.isub, 1) := by decide +kernel
theorem dL_between_94 : decode cL_between 94 = .ok (.ireturn, 1) := by decide +kernel
set_option maxRecDepth 20000 in
theorem ggL_taken_L_between : GoodIn wsL_taken wsL_between := goodIn_r _ [4, 5, 6, 3, 7] (by decide +kernel) (by decide +kernel)
set_option maxRecDepth 20000 in
theorem gL_taken_L_between : GoodIn wsL_taken (va_wsS RL 15 yL_between wsL_between) := goodIn_app (goodIn_of _ (by decide +kernel)) ggL_taken_L_between
theorem dL_taken_0 : decode cL_taken 0 = .ok (.aload_n 2, 1) := by decide +kernel
theorem dL_taken_1 : decode cL_taken 1 = .ok (.iconst 3, 1) := by decide +kernel
theorem dL_taken_2 : decode cL_taken 2 = .ok (.iload_n 3, 1) := by decide +kernel
theorem dL_taken_3 : decode cL_taken 3 = .ok (.imul, 1) := by decide +kernel
theorem dL_taken_4 : decode cL_taken 4 = .ok (.iload 4, 2) := by decide +kernel
theorem dL_taken_6 : decode cL_taken 6 = .ok (.iadd, 1) := by decide +kernel
theorem dL_taken_7 : decode cL_taken 7 = .ok (.iaload, 1) := by decide +kernel
theorem dL_taken_8 : decode cL_taken 8 = .ok (.istore 6, 2) := by decide +kernel
theorem dL_taken_10 : decode cL_taken 10 = .ok (.aload_n 2, 1) := by decide +kernel
theorem dL_taken_11 : decode cL_taken 11 = .ok (.bipush 9, 2) := by decide +kernel
theorem dL_taken_13 : decode cL_taken 13 = .ok (.iconst 3, 1) := by decide +kernel
theorem dL_taken_14 : decode cL_taken 14 = .ok (.iload_n 3, 1) := by decide +kernel
theorem dL_taken_15 : decode cL_taken 15 = .ok (.imul, 1) := by decide +kernel
theorem dL_taken_16 : decode cL_taken 16 = .ok (.iadd, 1) := by decide +kernel
theorem dL_taken_17 : decode cL_taken 17 = .ok (.iload 4, 2) := by decide +kernel
theorem dL_taken_19 : decode cL_taken 19 = .ok (.iadd, 1) := by decide +kernel
theorem dL_taken_20 : decode cL_taken 20 = .ok (.iaload, 1) := by decide +kernel
theorem dL_taken_21 : decode cL_taken 21 = .ok (.istore 7, 2) := by decide +kernel
theorem dL_taken_23 : decode cL_taken 23 = .ok (.aload_n 1, 1) := by decide +kernel
theorem dL_taken_24 : decode cL_taken 24 = .ok (.bipush 15, 2) := by decide +kernel
theorem dL_taken_26 : decode cL_taken 26 = .ok (.iload_n 3, 1) := by decide +kernel
theorem dL_taken_27 : decode cL_taken 27 = .ok (.imul, 1) := by decide +kernel
theorem dL_taken_28 : decode cL_taken 28 = .ok (.iconst 5, 1) := by decide +kernel
theorem dL_taken_29 : decode cL_taken 29 = .ok (.iload 4, 2) := by decide +kernel
theorem dL_taken_31 : decode cL_taken 31 = .ok (.imul, 1) := by decide +kernel
theorem dL_taken_32 : decode cL_taken 32 = .ok (.iadd, 1) := by decide +kernel
theorem dL_taken_33 : decode cL_taken 33 = .ok (.iload 5, 2) := by decide +kernel
theorem dL_taken_35 : decode cL_taken 35 = .ok (.invokestatic 15, 3) := by decide +kernel
theorem dL_taken_38 : decode cL_taken 38 = .ok (.istore 8, 2) := by decide +kernel
theorem dL_taken_40 : decode cL_taken 40 = .ok (.aload_n 0, 1) := by decide +kernel
theorem dL_taken_41 : decode cL_taken 41 = .ok (.bipush 8, 2) := by decide +kernel
theorem dL_taken_43 : decode cL_taken 43 = .ok (.iload_n 3, 1) := by decide +kernel
theorem dL_taken_44 : decode cL_taken 44 = .ok (.iadd, 1) := by decide +kernel
theorem dL_taken_45 : decode cL_taken 45 = .ok (.iaload, 1) := by decide +kernel
theorem dL_taken_46 : decode cL_taken 46 = .ok (.istore 9, 2) := by decide +kernel
theorem dL_taken_48 : decode cL_taken 48 = .ok (.iload 9, 2) := by decide +kernel
theorem dL_taken_50 : decode cL_taken 50 = .ok (.iconst 1, 1) := by decide +kernel
theorem dL_taken_51 : decode cL_taken 51 = .ok (.if_icmp .ne 32, 3) := by decide +kernel
theorem dL_taken_54 : decode cL_taken 54 = .ok (.iload 6, 2) := by decide +kernel
theorem dL_taken_56 : decode cL_taken 56 = .ok (.iload 8, 2) := by decide +kernel
theorem dL_taken_58 : decode cL_taken 58 = .ok (.iload 7, 2) := by decide +kernel
theorem dL_taken_60 : decode cL_taken 60 = .ok (.iload 6, 2) := by decide +kernel
theorem dL_taken_62 : decode cL_taken 62 = .ok (.isub, 1) := by decide +kernel
theorem dL_taken_63 : decode cL_taken 63 = .ok (.imul, 1) := by decide +kernel
theorem dL_taken_64 : decode cL_taken 64 = .ok (.iload 8, 2) := by decide +kernel
theorem dL_taken_66 : decode cL_taken 66 = .ok (.iload 7, 2) := by decide +kernel
theorem dL_taken_68 : decode cL_taken 68 = .ok (.iload 6, 2) := by decide +kernel
theorem dL_taken_70 : decode cL_taken 70 = .ok (.isub, 1) := by decide +kernel
theorem dL_taken_71 : decode cL_taken 71 = .ok (.imul, 1) := by decide +kernel
theorem dL_taken_72 : decode cL_taken 72 = .ok (.sipush 255, 3) := by decide +kernel
theorem dL_taken_75 : decode cL_taken 75 = .ok (.irem, 1) := by decide +kernel
theorem dL_taken_76 : decode cL_taken 76 = .ok (.isub, 1) := by decide +kernel
theorem dL_taken_77 : decode cL_taken 77 = .ok (.sipush 255, 3) := by decide +kernel
theorem dL_taken_80 : decode cL_taken 80 = .ok (.idiv, 1) := by decide +kernel
theorem dL_taken_81 : decode cL_taken 81 = .ok (.iadd, 1) := by decide +kernel
theorem dL_taken_82 : decode cL_taken 82 = .ok (.ireturn, 1) := by decide +kernel
theorem dL_taken_83 : decode cL_taken 83 = .ok (.iload 9, 2) := by decide +kernel
theorem dL_taken_85 : decode cL_taken 85 = .ok (.ifCond .ne 8, 3) := by decide +kernel
theorem dL_taken_88 : decode cL_taken 88 = .ok (.iload 8, 2) := by decide +kernel
theorem dL_taken_90 : decode cL_taken 90 = .ok (.goto 41, 3) := by decide +kernel
theorem dL_taken_93 : decode cL_taken 93 = .ok (.iload 8, 2) := by decide +kernel
theorem dL_taken_95 : decode cL_taken 95 = .ok (.iload 7, 2) := by decide +kernel
theorem dL_taken_97 : decode cL_taken 97 = .ok (.if_icmp .le 14, 3) := by decide +kernel
theorem dL_taken_100 : decode cL_taken 100 = .ok (.iload 7, 2) := by decide +kernel
theorem dL_taken_102 : decode cL_taken 102 = .ok (.iload 8, 2) := by decide +kernel
theorem dL_taken_104 : decode cL_taken 104 = .ok (.iload 7, 2) := by decide +kernel
theorem dL_taken_106 : decode cL_taken 106 = .ok (.isub, 1) := by decide +kernel
theorem dL_taken_107 : decode cL_taken 107 = .ok (.isub, 1) := by decide +kernel
theorem dL_taken_108 : decode cL_taken 108 = .ok (.goto 23, 3) := by decide +kernel
theorem dL_taken_111 : decode cL_taken 111 = .ok (.iload 8, 2) := by decide +kernel
theorem dL_taken_113 : decode cL_taken 113 = .ok (.iload 6, 2) := by decide +kernel
theorem dL_taken_115 : decode cL_taken 115 = .ok (.if_icmp .ge 14, 3) := by decide +kernel
theorem dL_taken_118 : decode cL_taken 118 = .ok (.iload 6, 2) := by decide +kernel
theorem dL_taken_120 : decode cL_taken 120 = .ok (.iload 6, 2) := by decide +kernel
theorem dL_taken_122 : decode cL_taken 122 = .ok (.iload 8, 2) := by decide +kernel
theorem dL_taken_124 : decode cL_taken 124 = .ok (.isub, 1) := by decide +kernel
theorem dL_taken_125 : decode cL_taken 125 = .ok (.iadd, 1) := by decide +kernel
theorem dL_taken_126 : decode cL_taken 126 = .ok (.goto 5, 3) := by decide +kernel
theorem dL_taken_129 : decode cL_taken 129 = .ok (.iload 8, 2) := by decide +kernel
theorem dL_taken_131 : decode cL_taken 131 = .ok (.istore 10, 2) := by decide +kernel
theorem dL_taken_133 : decode cL_taken 133 = .ok (.iload 10, 2) := by decide +kernel
theorem dL_taken_135 : decode cL_taken 135 = .ok (.iload 6, 2) := by decide +kernel
theorem dL_taken_137 : decode cL_taken 137 = .ok (.if_icmp .ge 8, 3) := by decide +kernel
theorem dL_taken_140 : decode cL_taken 140 = .ok (.iload 6, 2) := by decide +kernel
theorem dL_taken_142 : decode cL_taken 142 = .ok (.goto 17, 3) := by decide +kernel
theorem dL_taken_145 : decode cL_taken 145 = .ok (.iload 10, 2) := by decide +kernel
theorem dL_taken_147 : decode cL_taken 147 = .ok (.iload 7, 2) := by decide +kernel
theorem dL_taken_149 : decode cL_taken 149 = .ok (.if_icmp .le 8, 3) := by decide +kernel
theorem dL_taken_152 : decode cL_taken 152 = .ok (.iload 7, 2) := by decide +kernel
theorem dL_taken_154 : decode cL_taken 154 = .ok (.goto 5, 3) := by decide +kernel
theorem dL_taken_157 : decode cL_taken 157 = .ok (.iload 10, 2) := by decide +kernel
theorem dL_taken_159 : decode cL_taken 159 = .ok (.ireturn, 1) := by decide +kernel
set_option maxRecDepth 20000 in
theorem ggL_through_L_taken : GoodIn wsL_through wsL_taken := goodIn_r _ [4, 5, 6, 3, 7, 8, 9, 10] (by decide +kernel) (by decide +kernel)
set_option maxRecDepth 20000 in
theorem gL_through_L_taken : GoodIn wsL_through (va_wsS RL 19 yL_taken wsL_taken) := goodIn_app (goodIn_of _ (by decide +kernel)) ggL_through_L_taken
theorem dL_through_0 : decode cL_through 0 = .ok (.iload 6, 2) := by decide +kernel
theorem dL_through_2 : decode cL_through 2 = .ok (.istore 7, 2) := by decide +kernel
theorem dL_through_4 : decode cL_through 4 = .ok (.iconst 0, 1) := by decide +kernel
theorem dL_through_5 : decode cL_through 5 = .ok (.istore 8, 2) := by decide +kernel
theorem dL_through_7 : decode cL_through 7 = .ok (.iload 8, 2) := by decide +kernel
theorem dL_through_9 : decode cL_through 9 = .ok (.aload_n 0, 1) := by decide +kernel
theorem dL_through_10 : decode cL_through 10 = .ok (.iconst 2, 1) := by decide +kernel
theorem dL_through_11 : decode cL_through 11 = .ok (.iload 4, 2) := by decide +kernel
theorem dL_through_13 : decode cL_through 13 = .ok (.iadd, 1) := by decide +kernel
theorem dL_through_14 : decode cL_through 14 = .ok (.iaload, 1) := by decide +kernel
theorem dL_through_15 : decode cL_through 15 = .ok (.if_icmp .ge 31, 3) := by decide +kernel
theorem dL_through_18 : decode cL_through 18 = .ok (.aload_n 0, 1) := by decide +kernel
theorem dL_through_19 : decode cL_through 19 = .ok (.aload_n 1, 1) := by decide +kernel
theorem dL_through_20 : decode cL_through 20 = .ok (.aload_n 2, 1) := by decide +kernel
theorem dL_through_21 : decode cL_through 21 = .ok (.aload_n 3, 1) := by decide +kernel
theorem dL_through_22 : decode cL_through 22 = .ok (.bipush 6, 2) := by decide +kernel
theorem dL_through_24 : decode cL_through 24 = .ok (.iload 4, 2) := by decide +kernel
theorem dL_through_26 : decode cL_through 26 = .ok (.imul, 1) := by decide +kernel
theorem dL_through_27 : decode cL_through 27 = .ok (.iload 8, 2) := by decide +kernel
theorem dL_through_29 : decode cL_through 29 = .ok (.iadd, 1) := by decide +kernel
theorem dL_through_30 : decode cL_through 30 = .ok (.iaload, 1) := by decide +kernel
theorem dL_through_31 : decode cL_through 31 = .ok (.iload 5, 2) := by decide +kernel
theorem dL_through_33 : decode cL_through 33 = .ok (.iload 7, 2) := by decide +kernel
theorem dL_through_35 : decode cL_through 35 = .ok (.invokestatic 19, 3) := by decide +kernel
theorem dL_through_38 : decode cL_through 38 = .ok (.istore 7, 2) := by decide +kernel
theorem dL_through_40 : decode cL_through 40 = .ok (.iinc 8 1, 3) := by decide +kernel
theorem dL_through_43 : decode cL_through 43 = .ok (.goto (-36), 3) := by decide +kernel
theorem dL_through_46 : decode cL_through 46 = .ok (.iload 7, 2) := by decide +kernel
theorem dL_through_48 : decode cL_through 48 = .ok (.ireturn, 1) := by decide +kernel
theorem dL_apart_0 : decode cL_apart 0 = .ok (.iload_n 0, 1) := by decide +kernel
theorem dL_apart_1 : decode cL_apart 1 = .ok (.iload_n 1, 1) := by decide +kernel
theorem dL_apart_2 : decode cL_apart 2 = .ok (.if_icmp .ge 9, 3) := by decide +kernel
theorem dL_apart_5 : decode cL_apart 5 = .ok (.iload_n 1, 1) := by decide +kernel
theorem dL_apart_6 : decode cL_apart 6 = .ok (.iload_n 0, 1) := by decide +kernel
theorem dL_apart_7 : decode cL_apart 7 = .ok (.isub, 1) := by decide +kernel
theorem dL_apart_8 : decode cL_apart 8 = .ok (.goto 6, 3) := by decide +kernel
theorem dL_apart_11 : decode cL_apart 11 = .ok (.iload_n 0, 1) := by decide +kernel
theorem dL_apart_12 : decode cL_apart 12 = .ok (.iload_n 1, 1) := by decide +kernel
theorem dL_apart_13 : decode cL_apart 13 = .ok (.isub, 1) := by decide +kernel
theorem dL_apart_14 : decode cL_apart 14 = .ok (.ireturn, 1) := by decide +kernel
set_option maxRecDepth 20000 in
theorem ggL_gap_L_at : GoodIn wsL_gap wsL_at := goodIn_r _ [5] (by decide +kernel) (by decide +kernel)
set_option maxRecDepth 20000 in
theorem gL_gap_L_at : GoodIn wsL_gap (va_wsS RL 9 yL_at wsL_at) := goodIn_app (goodIn_of _ (by decide +kernel)) ggL_gap_L_at
set_option maxRecDepth 20000 in
theorem ggL_gap_L_through : GoodIn wsL_gap wsL_through := goodIn_r _ [8, 9, 10, 4, 11, 12, 13, 14, 2, 3, 5] (by decide +kernel) (by decide +kernel)
set_option maxRecDepth 20000 in
theorem gL_gap_L_through : GoodIn wsL_gap (va_wsS RL 23 yL_through wsL_through) := goodIn_app (goodIn_of _ (by decide +kernel)) ggL_gap_L_through
set_option maxRecDepth 20000 in
theorem ggL_gap_L_between : GoodIn wsL_gap wsL_between := goodIn_r _ [14, 2, 3, 4, 5] (by decide +kernel) (by decide +kernel)
set_option maxRecDepth 20000 in
theorem gL_gap_L_between : GoodIn wsL_gap (va_wsS RL 15 yL_between wsL_between) := goodIn_app (goodIn_of _ (by decide +kernel)) ggL_gap_L_between
set_option maxRecDepth 20000 in
theorem ggL_gap_L_apart : GoodIn wsL_gap wsL_apart := goodIn_r _ [17] (by decide +kernel) (by decide +kernel)
set_option maxRecDepth 20000 in
theorem gL_gap_L_apart : GoodIn wsL_gap (va_wsS RL 27 yL_apart wsL_apart) := goodIn_app (goodIn_of _ (by decide +kernel)) ggL_gap_L_apart
theorem dL_gap_0 : decode cL_gap 0 = .ok (.iconst 0, 1) := by decide +kernel
theorem dL_gap_1 : decode cL_gap 1 = .ok (.istore 5, 2) := by decide +kernel
theorem dL_gap_3 : decode cL_gap 3 = .ok (.iconst 5, 1) := by decide +kernel
theorem dL_gap_4 : decode cL_gap 4 = .ok (.newarray .int, 2) := by decide +kernel
theorem dL_gap_6 : decode cL_gap 6 = .ok (.astore 6, 2) := by decide +kernel
theorem dL_gap_8 : decode cL_gap 8 = .ok (.iconst 0, 1) := by decide +kernel
theorem dL_gap_9 : decode cL_gap 9 = .ok (.istore 7, 2) := by decide +kernel
theorem dL_gap_11 : decode cL_gap 11 = .ok (.iload 7, 2) := by decide +kernel
theorem dL_gap_13 : decode cL_gap 13 = .ok (.iconst 3, 1) := by decide +kernel
theorem dL_gap_14 : decode cL_gap 14 = .ok (.if_icmp .ge 104, 3) := by decide +kernel
theorem dL_gap_17 : decode cL_gap 17 = .ok (.iconst 0, 1) := by decide +kernel
theorem dL_gap_18 : decode cL_gap 18 = .ok (.istore 8, 2) := by decide +kernel
theorem dL_gap_20 : decode cL_gap 20 = .ok (.iload 8, 2) := by decide +kernel
theorem dL_gap_22 : decode cL_gap 22 = .ok (.iconst 5, 1) := by decide +kernel
theorem dL_gap_23 : decode cL_gap 23 = .ok (.if_icmp .ge 30, 3) := by decide +kernel
theorem dL_gap_26 : decode cL_gap 26 = .ok (.aload 6, 2) := by decide +kernel
theorem dL_gap_28 : decode cL_gap 28 = .ok (.iload 8, 2) := by decide +kernel
theorem dL_gap_30 : decode cL_gap 30 = .ok (.aload_n 0, 1) := by decide +kernel
theorem dL_gap_31 : decode cL_gap 31 = .ok (.aload_n 1, 1) := by decide +kernel
theorem dL_gap_32 : decode cL_gap 32 = .ok (.aload_n 2, 1) := by decide +kernel
theorem dL_gap_33 : decode cL_gap 33 = .ok (.aload_n 3, 1) := by decide +kernel
theorem dL_gap_34 : decode cL_gap 34 = .ok (.iload 4, 2) := by decide +kernel
theorem dL_gap_36 : decode cL_gap 36 = .ok (.iload 7, 2) := by decide +kernel
theorem dL_gap_38 : decode cL_gap 38 = .ok (.iload 8, 2) := by decide +kernel
theorem dL_gap_40 : decode cL_gap 40 = .ok (.invokestatic 9, 3) := by decide +kernel
theorem dL_gap_43 : decode cL_gap 43 = .ok (.invokestatic 23, 3) := by decide +kernel
theorem dL_gap_46 : decode cL_gap 46 = .ok (.iastore, 1) := by decide +kernel
theorem dL_gap_47 : decode cL_gap 47 = .ok (.iinc 8 1, 3) := by decide +kernel
theorem dL_gap_50 : decode cL_gap 50 = .ok (.goto (-30), 3) := by decide +kernel
theorem dL_gap_53 : decode cL_gap 53 = .ok (.iconst 0, 1) := by decide +kernel
theorem dL_gap_54 : decode cL_gap 54 = .ok (.istore 8, 2) := by decide +kernel
theorem dL_gap_56 : decode cL_gap 56 = .ok (.iload 8, 2) := by decide +kernel
theorem dL_gap_58 : decode cL_gap 58 = .ok (.sipush 256, 3) := by decide +kernel
theorem dL_gap_61 : decode cL_gap 61 = .ok (.if_icmp .ge 51, 3) := by decide +kernel
theorem dL_gap_64 : decode cL_gap 64 = .ok (.aload_n 0, 1) := by decide +kernel
theorem dL_gap_65 : decode cL_gap 65 = .ok (.aload_n 1, 1) := by decide +kernel
theorem dL_gap_66 : decode cL_gap 66 = .ok (.aload_n 2, 1) := by decide +kernel
theorem dL_gap_67 : decode cL_gap 67 = .ok (.aload_n 3, 1) := by decide +kernel
theorem dL_gap_68 : decode cL_gap 68 = .ok (.iload 4, 2) := by decide +kernel
theorem dL_gap_70 : decode cL_gap 70 = .ok (.iload 7, 2) := by decide +kernel
theorem dL_gap_72 : decode cL_gap 72 = .ok (.iload 8, 2) := by decide +kernel
theorem dL_gap_74 : decode cL_gap 74 = .ok (.invokestatic 23, 3) := by decide +kernel
theorem dL_gap_77 : decode cL_gap 77 = .ok (.aload 6, 2) := by decide +kernel
theorem dL_gap_79 : decode cL_gap 79 = .ok (.iconst 0, 1) := by decide +kernel
theorem dL_gap_80 : decode cL_gap 80 = .ok (.iload 8, 2) := by decide +kernel
theorem dL_gap_82 : decode cL_gap 82 = .ok (.invokestatic 15, 3) := by decide +kernel
theorem dL_gap_85 : decode cL_gap 85 = .ok (.invokestatic 27, 3) := by decide +kernel
theorem dL_gap_88 : decode cL_gap 88 = .ok (.istore 9, 2) := by decide +kernel
theorem dL_gap_90 : decode cL_gap 90 = .ok (.iload 9, 2) := by decide +kernel
theorem dL_gap_92 : decode cL_gap 92 = .ok (.iload 5, 2) := by decide +kernel
theorem dL_gap_94 : decode cL_gap 94 = .ok (.if_icmp .le 8, 3) := by decide +kernel
theorem dL_gap_97 : decode cL_gap 97 = .ok (.iload 9, 2) := by decide +kernel
theorem dL_gap_99 : decode cL_gap 99 = .ok (.goto 5, 3) := by decide +kernel
theorem dL_gap_102 : decode cL_gap 102 = .ok (.iload 5, 2) := by decide +kernel
theorem dL_gap_104 : decode cL_gap 104 = .ok (.istore 5, 2) := by decide +kernel
theorem dL_gap_106 : decode cL_gap 106 = .ok (.iinc 8 1, 3) := by decide +kernel
theorem dL_gap_109 : decode cL_gap 109 = .ok (.goto (-53), 3) := by decide +kernel
theorem dL_gap_112 : decode cL_gap 112 = .ok (.iinc 7 1, 3) := by decide +kernel
theorem dL_gap_115 : decode cL_gap 115 = .ok (.goto (-104), 3) := by decide +kernel
theorem dL_gap_118 : decode cL_gap 118 = .ok (.iload 5, 2) := by decide +kernel
theorem dL_gap_120 : decode cL_gap 120 = .ok (.ireturn, 1) := by decide +kernel
set_option maxRecDepth 20000 in
theorem ggL_greys_L_through : GoodIn wsL_greys wsL_through := goodIn_r _ [4, 5, 6, 3, 7, 8, 9, 10, 11, 12, 13] (by decide +kernel) (by decide +kernel)
set_option maxRecDepth 20000 in
theorem gL_greys_L_through : GoodIn wsL_greys (va_wsS RL 23 yL_through wsL_through) := goodIn_app (goodIn_of _ (by decide +kernel)) ggL_greys_L_through
theorem dL_greys_0 : decode cL_greys 0 = .ok (.iconst 0, 1) := by decide +kernel
theorem dL_greys_1 : decode cL_greys 1 = .ok (.istore 5, 2) := by decide +kernel
theorem dL_greys_3 : decode cL_greys 3 = .ok (.iconst 0, 1) := by decide +kernel
theorem dL_greys_4 : decode cL_greys 4 = .ok (.istore 6, 2) := by decide +kernel
theorem dL_greys_6 : decode cL_greys 6 = .ok (.iload 6, 2) := by decide +kernel
theorem dL_greys_8 : decode cL_greys 8 = .ok (.sipush 256, 3) := by decide +kernel
theorem dL_greys_11 : decode cL_greys 11 = .ok (.if_icmp .ge 101, 3) := by decide +kernel
theorem dL_greys_14 : decode cL_greys 14 = .ok (.sipush 256, 3) := by decide +kernel
theorem dL_greys_17 : decode cL_greys 17 = .ok (.istore 7, 2) := by decide +kernel
theorem dL_greys_19 : decode cL_greys 19 = .ok (.iconst (-1), 1) := by decide +kernel
theorem dL_greys_20 : decode cL_greys 20 = .ok (.istore 8, 2) := by decide +kernel
theorem dL_greys_22 : decode cL_greys 22 = .ok (.iconst 0, 1) := by decide +kernel
theorem dL_greys_23 : decode cL_greys 23 = .ok (.istore 9, 2) := by decide +kernel
theorem dL_greys_25 : decode cL_greys 25 = .ok (.iload 9, 2) := by decide +kernel
theorem dL_greys_27 : decode cL_greys 27 = .ok (.iconst 3, 1) := by decide +kernel
theorem dL_greys_28 : decode cL_greys 28 = .ok (.if_icmp .ge 56, 3) := by decide +kernel
theorem dL_greys_31 : decode cL_greys 31 = .ok (.aload_n 0, 1) := by decide +kernel
theorem dL_greys_32 : decode cL_greys 32 = .ok (.aload_n 1, 1) := by decide +kernel
theorem dL_greys_33 : decode cL_greys 33 = .ok (.aload_n 2, 1) := by decide +kernel
theorem dL_greys_34 : decode cL_greys 34 = .ok (.aload_n 3, 1) := by decide +kernel
theorem dL_greys_35 : decode cL_greys 35 = .ok (.iload 4, 2) := by decide +kernel
theorem dL_greys_37 : decode cL_greys 37 = .ok (.iload 9, 2) := by decide +kernel
theorem dL_greys_39 : decode cL_greys 39 = .ok (.iload 6, 2) := by decide +kernel
theorem dL_greys_41 : decode cL_greys 41 = .ok (.invokestatic 23, 3) := by decide +kernel
theorem dL_greys_44 : decode cL_greys 44 = .ok (.istore 10, 2) := by decide +kernel
theorem dL_greys_46 : decode cL_greys 46 = .ok (.iload 10, 2) := by decide +kernel
theorem dL_greys_48 : decode cL_greys 48 = .ok (.iload 7, 2) := by decide +kernel
theorem dL_greys_50 : decode cL_greys 50 = .ok (.if_icmp .ge 8, 3) := by decide +kernel
theorem dL_greys_53 : decode cL_greys 53 = .ok (.iload 10, 2) := by decide +kernel
theorem dL_greys_55 : decode cL_greys 55 = .ok (.goto 5, 3) := by decide +kernel
theorem dL_greys_58 : decode cL_greys 58 = .ok (.iload 7, 2) := by decide +kernel
theorem dL_greys_60 : decode cL_greys 60 = .ok (.istore 7, 2) := by decide +kernel
theorem dL_greys_62 : decode cL_greys 62 = .ok (.iload 10, 2) := by decide +kernel
theorem dL_greys_64 : decode cL_greys 64 = .ok (.iload 8, 2) := by decide +kernel
theorem dL_greys_66 : decode cL_greys 66 = .ok (.if_icmp .le 8, 3) := by decide +kernel
theorem dL_greys_69 : decode cL_greys 69 = .ok (.iload 10, 2) := by decide +kernel
theorem dL_greys_71 : decode cL_greys 71 = .ok (.goto 5, 3) := by decide +kernel
theorem dL_greys_74 : decode cL_greys 74 = .ok (.iload 8, 2) := by decide +kernel
theorem dL_greys_76 : decode cL_greys 76 = .ok (.istore 8, 2) := by decide +kernel
theorem dL_greys_78 : decode cL_greys 78 = .ok (.iinc 9 1, 3) := by decide +kernel
theorem dL_greys_81 : decode cL_greys 81 = .ok (.goto (-56), 3) := by decide +kernel
theorem dL_greys_84 : decode cL_greys 84 = .ok (.iload 8, 2) := by decide +kernel
theorem dL_greys_86 : decode cL_greys 86 = .ok (.iload 7, 2) := by decide +kernel
theorem dL_greys_88 : decode cL_greys 88 = .ok (.isub, 1) := by decide +kernel
theorem dL_greys_89 : decode cL_greys 89 = .ok (.iload 5, 2) := by decide +kernel
theorem dL_greys_91 : decode cL_greys 91 = .ok (.if_icmp .le 11, 3) := by decide +kernel
theorem dL_greys_94 : decode cL_greys 94 = .ok (.iload 8, 2) := by decide +kernel
theorem dL_greys_96 : decode cL_greys 96 = .ok (.iload 7, 2) := by decide +kernel
theorem dL_greys_98 : decode cL_greys 98 = .ok (.isub, 1) := by decide +kernel
theorem dL_greys_99 : decode cL_greys 99 = .ok (.goto 5, 3) := by decide +kernel
theorem dL_greys_102 : decode cL_greys 102 = .ok (.iload 5, 2) := by decide +kernel
theorem dL_greys_104 : decode cL_greys 104 = .ok (.istore 5, 2) := by decide +kernel
theorem dL_greys_106 : decode cL_greys 106 = .ok (.iinc 6 1, 3) := by decide +kernel
theorem dL_greys_109 : decode cL_greys 109 = .ok (.goto (-103), 3) := by decide +kernel
theorem dL_greys_112 : decode cL_greys 112 = .ok (.iload 5, 2) := by decide +kernel
theorem dL_greys_114 : decode cL_greys 114 = .ok (.ireturn, 1) := by decide +kernel
theorem dL_held_0 : decode cL_held 0 = .ok (.iconst 0, 1) := by decide +kernel
theorem dL_held_1 : decode cL_held 1 = .ok (.istore_n 2, 1) := by decide +kernel
theorem dL_held_2 : decode cL_held 2 = .ok (.iconst 0, 1) := by decide +kernel
theorem dL_held_3 : decode cL_held 3 = .ok (.istore_n 3, 1) := by decide +kernel
theorem dL_held_4 : decode cL_held 4 = .ok (.iload_n 3, 1) := by decide +kernel
theorem dL_held_5 : decode cL_held 5 = .ok (.bipush 12, 2) := by decide +kernel
theorem dL_held_7 : decode cL_held 7 = .ok (.if_icmp .ge 49, 3) := by decide +kernel
theorem dL_held_10 : decode cL_held 10 = .ok (.iload_n 2, 1) := by decide +kernel
theorem dL_held_11 : decode cL_held 11 = .ok (.aload_n 0, 1) := by decide +kernel
theorem dL_held_12 : decode cL_held 12 = .ok (.bipush 6, 2) := by decide +kernel
theorem dL_held_14 : decode cL_held 14 = .ok (.iload_n 3, 1) := by decide +kernel
theorem dL_held_15 : decode cL_held 15 = .ok (.bipush 6, 2) := by decide +kernel
theorem dL_held_17 : decode cL_held 17 = .ok (.idiv, 1) := by decide +kernel
theorem dL_held_18 : decode cL_held 18 = .ok (.iadd, 1) := by decide +kernel
theorem dL_held_19 : decode cL_held 19 = .ok (.iaload, 1) := by decide +kernel
theorem dL_held_20 : decode cL_held 20 = .ok (.iconst 1, 1) := by decide +kernel
theorem dL_held_21 : decode cL_held 21 = .ok (.if_icmp .ne 26, 3) := by decide +kernel
theorem dL_held_24 : decode cL_held 24 = .ok (.iload_n 3, 1) := by decide +kernel
theorem dL_held_25 : decode cL_held 25 = .ok (.bipush 6, 2) := by decide +kernel
theorem dL_held_27 : decode cL_held 27 = .ok (.irem, 1) := by decide +kernel
theorem dL_held_28 : decode cL_held 28 = .ok (.aload_n 0, 1) := by decide +kernel
theorem dL_held_29 : decode cL_held 29 = .ok (.iconst 2, 1) := by decide +kernel
theorem dL_held_30 : decode cL_held 30 = .ok (.iload_n 3, 1) := by decide +kernel
theorem dL_held_31 : decode cL_held 31 = .ok (.bipush 6, 2) := by decide +kernel
theorem dL_held_33 : decode cL_held 33 = .ok (.idiv, 1) := by decide +kernel
theorem dL_held_34 : decode cL_held 34 = .ok (.iadd, 1) := by decide +kernel
theorem dL_held_35 : decode cL_held 35 = .ok (.iaload, 1) := by decide +kernel
theorem dL_held_36 : decode cL_held 36 = .ok (.if_icmp .ge 11, 3) := by decide +kernel
theorem dL_held_39 : decode cL_held 39 = .ok (.iconst 1, 1) := by decide +kernel
theorem dL_held_40 : decode cL_held 40 = .ok (.aload_n 1, 1) := by decide +kernel
theorem dL_held_41 : decode cL_held 41 = .ok (.iload_n 3, 1) := by decide +kernel
theorem dL_held_42 : decode cL_held 42 = .ok (.iaload, 1) := by decide +kernel
theorem dL_held_43 : decode cL_held 43 = .ok (.ishl, 1) := by decide +kernel
theorem dL_held_44 : decode cL_held 44 = .ok (.goto 4, 3) := by decide +kernel
theorem dL_held_47 : decode cL_held 47 = .ok (.iconst 0, 1) := by decide +kernel
theorem dL_held_48 : decode cL_held 48 = .ok (.ior, 1) := by decide +kernel
theorem dL_held_49 : decode cL_held 49 = .ok (.istore_n 2, 1) := by decide +kernel
theorem dL_held_50 : decode cL_held 50 = .ok (.iinc 3 1, 3) := by decide +kernel
theorem dL_held_53 : decode cL_held 53 = .ok (.goto (-49), 3) := by decide +kernel
theorem dL_held_56 : decode cL_held 56 = .ok (.iload_n 2, 1) := by decide +kernel
theorem dL_held_57 : decode cL_held 57 = .ok (.ireturn, 1) := by decide +kernel
set_option maxRecDepth 20000 in
theorem ggL_bends_X0_bend : GoodIn wsL_bends wsX0_bend := goodIn_ca (goodIn_ca (goodIn_ca (goodIn_r _ [8, 9, 10, 11, 12, 13, 14, 7, 15, 16, 17, 18, 19, 20, 21, 22, 23, 24, 25, 26, 27, 28, 29, 30, 31, 32, 33, 34, 35, 36, 37, 38, 39, 40, 41, 42, 43, 44, 45, 46, 47, 48, 49, 50, 51, 52, 53, 54, 55, 56, 57, 58, 59, 60, 61, 62, 63, 64, 65] (by decide +kernel) (by decide +kernel)) (goodIn_sub (fun _ h => List.mem_cons_of_mem _ (List.mem_append_left _ (List.mem_append_left _ (List.mem_append_right _ h)))) (by decide +kernel))) (goodIn_sub (fun _ h => List.mem_cons_of_mem _ (List.mem_append_left _ (List.mem_append_right _ h))) (by decide +kernel))) (goodIn_sub (fun _ h => List.mem_cons_of_mem _ (List.mem_append_right _ h)) (by decide +kernel))
set_option maxRecDepth 20000 in
theorem gL_bends_X0_bend : GoodIn wsL_bends (wsV RL 31 RX0 yX0_bend wsX0_bend) := goodIn_app (goodIn_of _ (by decide +kernel)) ggL_bends_X0_bend
theorem dL_bends_0 : decode cL_bends 0 = .ok (.aload_n 0, 1) := by decide +kernel
theorem dL_bends_1 : decode cL_bends 1 = .ok (.iload_n 1, 1) := by decide +kernel
theorem dL_bends_2 : decode cL_bends 2 = .ok (.iload_n 2, 1) := by decide +kernel
theorem dL_bends_3 : decode cL_bends 3 = .ok (.iload_n 3, 1) := by decide +kernel
theorem dL_bends_4 : decode cL_bends 4 = .ok (.iload 4, 2) := by decide +kernel
theorem dL_bends_6 : decode cL_bends 6 = .ok (.invokevirtual 31, 3) := by decide +kernel
theorem dL_bends_9 : decode cL_bends 9 = .ok (.ireturn, 1) := by decide +kernel
theorem dL_bends_10 : decode cL_bends 10 = .ok (.astore 5, 2) := by decide +kernel
theorem dL_bends_12 : decode cL_bends 12 = .ok (.bipush (-101), 2) := by decide +kernel
theorem dL_bends_14 : decode cL_bends 14 = .ok (.ireturn, 1) := by decide +kernel
theorem dL_bends_15 : decode cL_bends 15 = .ok (.astore 5, 2) := by decide +kernel
theorem dL_bends_17 : decode cL_bends 17 = .ok (.bipush (-102), 2) := by decide +kernel
theorem dL_bends_19 : decode cL_bends 19 = .ok (.ireturn, 1) := by decide +kernel
