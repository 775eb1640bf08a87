theorem dX1_learn_0 : decode cX1_learn 0 = .ok (.aload_n 0, 1) := by decide +kernel
theorem dX1_learn_1 : decode cX1_learn 1 = .ok (.getfield 7, 3) := by decide +kernel
theorem dX1_learn_4 : decode cX1_learn 4 = .ok (.aload_n 0, 1) := by decide +kernel
theorem dX1_learn_5 : decode cX1_learn 5 = .ok (.getfield 13, 3) := by decide +kernel
theorem dX1_learn_8 : decode cX1_learn 8 = .ok (.aload_n 0, 1) := by decide +kernel
theorem dX1_learn_9 : decode cX1_learn 9 = .ok (.getfield 7, 3) := by decide +kernel
theorem dX1_learn_12 : decode cX1_learn 12 = .ok (.arraylength, 1) := by decide +kernel
theorem dX1_learn_13 : decode cX1_learn 13 = .ok (.iconst 1, 1) := by decide +kernel
theorem dX1_learn_14 : decode cX1_learn 14 = .ok (.isub, 1) := by decide +kernel
theorem dX1_learn_15 : decode cX1_learn 15 = .ok (.iand, 1) := by decide +kernel
theorem dX1_learn_16 : decode cX1_learn 16 = .ok (.iload_n 1, 1) := by decide +kernel
theorem dX1_learn_17 : decode cX1_learn 17 = .ok (.i2b, 1) := by decide +kernel
theorem dX1_learn_18 : decode cX1_learn 18 = .ok (.bastore, 1) := by decide +kernel
theorem dX1_learn_19 : decode cX1_learn 19 = .ok (.aload_n 0, 1) := by decide +kernel
theorem dX1_learn_20 : decode cX1_learn 20 = .ok (.dup, 1) := by decide +kernel
theorem dX1_learn_21 : decode cX1_learn 21 = .ok (.getfield 13, 3) := by decide +kernel
theorem dX1_learn_24 : decode cX1_learn 24 = .ok (.iconst 1, 1) := by decide +kernel
theorem dX1_learn_25 : decode cX1_learn 25 = .ok (.iadd, 1) := by decide +kernel
theorem dX1_learn_26 : decode cX1_learn 26 = .ok (.putfield 13, 3) := by decide +kernel
theorem dX1_learn_29 : decode cX1_learn 29 = .ok (.return_, 1) := by decide +kernel
theorem dX1_use_0 : decode cX1_use 0 = .ok (.iload_n 1, 1) := by decide +kernel
theorem dX1_use_1 : decode cX1_use 1 = .ok (.aload_n 0, 1) := by decide +kernel
theorem dX1_use_2 : decode cX1_use 2 = .ok (.getfield 13, 3) := by decide +kernel
theorem dX1_use_5 : decode cX1_use 5 = .ok (.if_icmp .ge 18, 3) := by decide +kernel
theorem dX1_use_8 : decode cX1_use 8 = .ok (.aload_n 0, 1) := by decide +kernel
theorem dX1_use_9 : decode cX1_use 9 = .ok (.getfield 7, 3) := by decide +kernel
theorem dX1_use_12 : decode cX1_use 12 = .ok (.iload_n 1, 1) := by decide +kernel
theorem dX1_use_13 : decode cX1_use 13 = .ok (.aload_n 0, 1) := by decide +kernel
theorem dX1_use_14 : decode cX1_use 14 = .ok (.getfield 7, 3) := by decide +kernel
theorem dX1_use_17 : decode cX1_use 17 = .ok (.arraylength, 1) := by decide +kernel
theorem dX1_use_18 : decode cX1_use 18 = .ok (.iconst 1, 1) := by decide +kernel
theorem dX1_use_19 : decode cX1_use 19 = .ok (.isub, 1) := by decide +kernel
theorem dX1_use_20 : decode cX1_use 20 = .ok (.iand, 1) := by decide +kernel
theorem dX1_use_21 : decode cX1_use 21 = .ok (.baload, 1) := by decide +kernel
theorem dX1_use_22 : decode cX1_use 22 = .ok (.ireturn, 1) := by decide +kernel
theorem dX1_use_23 : decode cX1_use 23 = .ok (.aload_n 0, 1) := by decide +kernel
theorem dX1_use_24 : decode cX1_use 24 = .ok (.getfield 17, 3) := by decide +kernel
theorem dX1_use_27 : decode cX1_use 27 = .ok (.ifCond .ne 10, 3) := by decide +kernel
theorem dX1_use_30 : decode cX1_use 30 = .ok (.aload_n 0, 1) := by decide +kernel
theorem dX1_use_31 : decode cX1_use 31 = .ok (.getfield 13, 3) := by decide +kernel
theorem dX1_use_34 : decode cX1_use 34 = .ok (.ifCond .ne 5, 3) := by decide +kernel
theorem dX1_use_37 : decode cX1_use 37 = .ok (.iconst 0, 1) := by decide +kernel
theorem dX1_use_38 : decode cX1_use 38 = .ok (.ireturn, 1) := by decide +kernel
theorem dX1_use_39 : decode cX1_use 39 = .ok (.aload_n 0, 1) := by decide +kernel
theorem dX1_use_40 : decode cX1_use 40 = .ok (.getfield 7, 3) := by decide +kernel
theorem dX1_use_43 : decode cX1_use 43 = .ok (.aload_n 0, 1) := by decide +kernel
theorem dX1_use_44 : decode cX1_use 44 = .ok (.getfield 13, 3) := by decide +kernel
theorem dX1_use_47 : decode cX1_use 47 = .ok (.iconst 1, 1) := by decide +kernel
theorem dX1_use_48 : decode cX1_use 48 = .ok (.isub, 1) := by decide +kernel
theorem dX1_use_49 : decode cX1_use 49 = .ok (.aload_n 0, 1) := by decide +kernel
theorem dX1_use_50 : decode cX1_use 50 = .ok (.getfield 7, 3) := by decide +kernel
theorem dX1_use_53 : decode cX1_use 53 = .ok (.arraylength, 1) := by decide +kernel
theorem dX1_use_54 : decode cX1_use 54 = .ok (.iconst 1, 1) := by decide +kernel
theorem dX1_use_55 : decode cX1_use 55 = .ok (.isub, 1) := by decide +kernel
theorem dX1_use_56 : decode cX1_use 56 = .ok (.iand, 1) := by decide +kernel
theorem dX1_use_57 : decode cX1_use 57 = .ok (.baload, 1) := by decide +kernel
theorem dX1_use_58 : decode cX1_use 58 = .ok (.ireturn, 1) := by decide +kernel
set_option maxRecDepth 20000 in
theorem ggX5_follow_X5_move : GoodIn wsX5_follow wsX5_move := goodIn_r _ [9, 3, 10, 11, 12, 2, 13, 14, 19, 20, 21, 22] (by decide +kernel) (by decide +kernel)
set_option maxRecDepth 20000 in
theorem gX5_follow_X5_move : GoodIn wsX5_follow (wsV RX5 18 RX5 yX5_move wsX5_move) := goodIn_app (goodIn_of _ (by decide +kernel)) ggX5_follow_X5_move
set_option maxRecDepth 20000 in
theorem ggX5_follow_X5_bounceApart : GoodIn wsX5_follow wsX5_bounceApart := goodIn_r _ [18, 3, 2, 12, 1, 19, 20, 21, 22] (by decide +kernel) (by decide +kernel)
set_option maxRecDepth 20000 in
theorem gX5_follow_X5_bounceApart : GoodIn wsX5_follow (wsV RX5 26 RX5 yX5_bounceApart wsX5_bounceApart) := goodIn_app (goodIn_of _ (by decide +kernel)) ggX5_follow_X5_bounceApart
theorem dX5_follow_0 : decode cX5_follow 0 = .ok (.aload_n 0, 1) := by decide +kernel
theorem dX5_follow_1 : decode cX5_follow 1 = .ok (.aload_n 1, 1) := by decide +kernel
theorem dX5_follow_2 : decode cX5_follow 2 = .ok (.iconst 0, 1) := by decide +kernel
theorem dX5_follow_3 : decode cX5_follow 3 = .ok (.iload_n 2, 1) := by decide +kernel
theorem dX5_follow_4 : decode cX5_follow 4 = .ok (.invokevirtual 18, 3) := by decide +kernel
theorem dX5_follow_7 : decode cX5_follow 7 = .ok (.aload_n 0, 1) := by decide +kernel
theorem dX5_follow_8 : decode cX5_follow 8 = .ok (.aload_n 1, 1) := by decide +kernel
theorem dX5_follow_9 : decode cX5_follow 9 = .ok (.iconst 1, 1) := by decide +kernel
theorem dX5_follow_10 : decode cX5_follow 10 = .ok (.iload_n 3, 1) := by decide +kernel
theorem dX5_follow_11 : decode cX5_follow 11 = .ok (.invokevirtual 18, 3) := by decide +kernel
theorem dX5_follow_14 : decode cX5_follow 14 = .ok (.aload_n 0, 1) := by decide +kernel
theorem dX5_follow_15 : decode cX5_follow 15 = .ok (.aload_n 1, 1) := by decide +kernel
theorem dX5_follow_16 : decode cX5_follow 16 = .ok (.getfield 22, 3) := by decide +kernel
theorem dX5_follow_19 : decode cX5_follow 19 = .ok (.putfield 22, 3) := by decide +kernel
theorem dX5_follow_22 : decode cX5_follow 22 = .ok (.aload_n 0, 1) := by decide +kernel
theorem dX5_follow_23 : decode cX5_follow 23 = .ok (.getfield 7, 3) := by decide +kernel
theorem dX5_follow_26 : decode cX5_follow 26 = .ok (.iconst 1, 1) := by decide +kernel
theorem dX5_follow_27 : decode cX5_follow 27 = .ok (.faload, 1) := by decide +kernel
theorem dX5_follow_28 : decode cX5_follow 28 = .ok (.aload_n 0, 1) := by decide +kernel
theorem dX5_follow_29 : decode cX5_follow 29 = .ok (.getfield 7, 3) := by decide +kernel
theorem dX5_follow_32 : decode cX5_follow 32 = .ok (.iconst 0, 1) := by decide +kernel
theorem dX5_follow_33 : decode cX5_follow 33 = .ok (.faload, 1) := by decide +kernel
theorem dX5_follow_34 : decode cX5_follow 34 = .ok (.fsub, 1) := by decide +kernel
theorem dX5_follow_35 : decode cX5_follow 35 = .ok (.fconst 1, 1) := by decide +kernel
theorem dX5_follow_36 : decode cX5_follow 36 = .ok (.fcmp .g, 1) := by decide +kernel
theorem dX5_follow_37 : decode cX5_follow 37 = .ok (.ifCond .ge 7, 3) := by decide +kernel
theorem dX5_follow_40 : decode cX5_follow 40 = .ok (.aload_n 0, 1) := by decide +kernel
theorem dX5_follow_41 : decode cX5_follow 41 = .ok (.invokevirtual 26, 3) := by decide +kernel
theorem dX5_follow_44 : decode cX5_follow 44 = .ok (.aload_n 0, 1) := by decide +kernel
theorem dX5_follow_45 : decode cX5_follow 45 = .ok (.getfield 13, 3) := by decide +kernel
theorem dX5_follow_48 : decode cX5_follow 48 = .ok (.iconst 0, 1) := by decide +kernel
theorem dX5_follow_49 : decode cX5_follow 49 = .ok (.faload, 1) := by decide +kernel
theorem dX5_follow_50 : decode cX5_follow 50 = .ok (.f2d, 1) := by decide +kernel
theorem dX5_follow_51 : decode cX5_follow 51 = .ok (.dstore 4, 2) := by decide +kernel
theorem dX5_follow_53 : decode cX5_follow 53 = .ok (.aload_n 0, 1) := by decide +kernel
theorem dX5_follow_54 : decode cX5_follow 54 = .ok (.getfield 13, 3) := by decide +kernel
theorem dX5_follow_57 : decode cX5_follow 57 = .ok (.iconst 1, 1) := by decide +kernel
theorem dX5_follow_58 : decode cX5_follow 58 = .ok (.faload, 1) := by decide +kernel
theorem dX5_follow_59 : decode cX5_follow 59 = .ok (.f2d, 1) := by decide +kernel
theorem dX5_follow_60 : decode cX5_follow 60 = .ok (.dstore 6, 2) := by decide +kernel
theorem dX5_follow_62 : decode cX5_follow 62 = .ok (.aload_n 0, 1) := by decide +kernel
theorem dX5_follow_63 : decode cX5_follow 63 = .ok (.aload_n 1, 1) := by decide +kernel
theorem dX5_follow_64 : decode cX5_follow 64 = .ok (.getfield 29, 3) := by decide +kernel
theorem dX5_follow_67 : decode cX5_follow 67 = .ok (.dload 4, 2) := by decide +kernel
theorem dX5_follow_69 : decode cX5_follow 69 = .ok (.dload 4, 2) := by decide +kernel
theorem dX5_follow_71 : decode cX5_follow 71 = .ok (.dmul, 1) := by decide +kernel
theorem dX5_follow_72 : decode cX5_follow 72 = .ok (.dload 6, 2) := by decide +kernel
theorem dX5_follow_74 : decode cX5_follow 74 = .ok (.dload 6, 2) := by decide +kernel
theorem dX5_follow_76 : decode cX5_follow 76 = .ok (.dmul, 1) := by decide +kernel
theorem dX5_follow_77 : decode cX5_follow 77 = .ok (.dadd, 1) := by decide +kernel
theorem dX5_follow_78 : decode cX5_follow 78 = .ok (.dadd, 1) := by decide +kernel
theorem dX5_follow_79 : decode cX5_follow 79 = .ok (.putfield 29, 3) := by decide +kernel
theorem dX5_follow_82 : decode cX5_follow 82 = .ok (.return_, 1) := by decide +kernel
theorem dX5_move_0 : decode cX5_move 0 = .ok (.fconst 0, 1) := by decide +kernel
theorem dX5_move_1 : decode cX5_move 1 = .ok (.fstore 4, 2) := by decide +kernel
theorem dX5_move_3 : decode cX5_move 3 = .ok (.iload_n 3, 1) := by decide +kernel
theorem dX5_move_4 : decode cX5_move 4 = .ok (.iconst 1, 1) := by decide +kernel
theorem dX5_move_5 : decode cX5_move 5 = .ok (.iand, 1) := by decide +kernel
theorem dX5_move_6 : decode cX5_move 6 = .ok (.ifCond .eq 9, 3) := by decide +kernel
theorem dX5_move_9 : decode cX5_move 9 = .ok (.fload 4, 2) := by decide +kernel
theorem dX5_move_11 : decode cX5_move 11 = .ok (.fconst 1, 1) := by decide +kernel
theorem dX5_move_12 : decode cX5_move 12 = .ok (.fsub, 1) := by decide +kernel
theorem dX5_move_13 : decode cX5_move 13 = .ok (.fstore 4, 2) := by decide +kernel
theorem dX5_move_15 : decode cX5_move 15 = .ok (.iload_n 3, 1) := by decide +kernel
theorem dX5_move_16 : decode cX5_move 16 = .ok (.iconst 2, 1) := by decide +kernel
theorem dX5_move_17 : decode cX5_move 17 = .ok (.iand, 1) := by decide +kernel
theorem dX5_move_18 : decode cX5_move 18 = .ok (.ifCond .eq 9, 3) := by decide +kernel
theorem dX5_move_21 : decode cX5_move 21 = .ok (.fload 4, 2) := by decide +kernel
theorem dX5_move_23 : decode cX5_move 23 = .ok (.fconst 1, 1) := by decide +kernel
theorem dX5_move_24 : decode cX5_move 24 = .ok (.fadd, 1) := by decide +kernel
theorem dX5_move_25 : decode cX5_move 25 = .ok (.fstore 4, 2) := by decide +kernel
theorem dX5_move_27 : decode cX5_move 27 = .ok (.aload_n 1, 1) := by decide +kernel
theorem dX5_move_28 : decode cX5_move 28 = .ok (.getfield 13, 3) := by decide +kernel
theorem dX5_move_31 : decode cX5_move 31 = .ok (.iload_n 2, 1) := by decide +kernel
theorem dX5_move_32 : decode cX5_move 32 = .ok (.faload, 1) := by decide +kernel
theorem dX5_move_33 : decode cX5_move 33 = .ok (.ldc 33, 2) := by decide +kernel
theorem dX5_move_35 : decode cX5_move 35 = .ok (.fmul, 1) := by decide +kernel
theorem dX5_move_36 : decode cX5_move 36 = .ok (.fload 4, 2) := by decide +kernel
theorem dX5_move_38 : decode cX5_move 38 = .ok (.ldc 34, 2) := by decide +kernel
theorem dX5_move_40 : decode cX5_move 40 = .ok (.fmul, 1) := by decide +kernel
theorem dX5_move_41 : decode cX5_move 41 = .ok (.fadd, 1) := by decide +kernel
theorem dX5_move_42 : decode cX5_move 42 = .ok (.fstore 5, 2) := by decide +kernel
theorem dX5_move_44 : decode cX5_move 44 = .ok (.iload_n 3, 1) := by decide +kernel
theorem dX5_move_45 : decode cX5_move 45 = .ok (.iconst 4, 1) := by decide +kernel
theorem dX5_move_46 : decode cX5_move 46 = .ok (.iand, 1) := by decide +kernel
theorem dX5_move_47 : decode cX5_move 47 = .ok (.ifCond .eq 10, 3) := by decide +kernel
theorem dX5_move_50 : decode cX5_move 50 = .ok (.fload 5, 2) := by decide +kernel
theorem dX5_move_52 : decode cX5_move 52 = .ok (.ldc 35, 2) := by decide +kernel
theorem dX5_move_54 : decode cX5_move 54 = .ok (.fmul, 1) := by decide +kernel
theorem dX5_move_55 : decode cX5_move 55 = .ok (.fstore 5, 2) := by decide +kernel
theorem dX5_move_57 : decode cX5_move 57 = .ok (.aload_n 1, 1) := by decide +kernel
theorem dX5_move_58 : decode cX5_move 58 = .ok (.getfield 7, 3) := by decide +kernel
theorem dX5_move_61 : decode cX5_move 61 = .ok (.iload_n 2, 1) := by decide +kernel
theorem dX5_move_62 : decode cX5_move 62 = .ok (.faload, 1) := by decide +kernel
theorem dX5_move_63 : decode cX5_move 63 = .ok (.fload 5, 2) := by decide +kernel
theorem dX5_move_65 : decode cX5_move 65 = .ok (.fadd, 1) := by decide +kernel
theorem dX5_move_66 : decode cX5_move 66 = .ok (.fstore 6, 2) := by decide +kernel
theorem dX5_move_68 : decode cX5_move 68 = .ok (.fload 6, 2) := by decide +kernel
theorem dX5_move_70 : decode cX5_move 70 = .ok (.fconst 0, 1) := by decide +kernel
theorem dX5_move_71 : decode cX5_move 71 = .ok (.fcmp .g, 1) := by decide +kernel
theorem dX5_move_72 : decode cX5_move 72 = .ok (.ifCond .ge 19, 3) := by decide +kernel
theorem dX5_move_75 : decode cX5_move 75 = .ok (.fload 6, 2) := by decide +kernel
theorem dX5_move_77 : decode cX5_move 77 = .ok (.fneg, 1) := by decide +kernel
theorem dX5_move_78 : decode cX5_move 78 = .ok (.fstore 6, 2) := by decide +kernel
theorem dX5_move_80 : decode cX5_move 80 = .ok (.fload 5, 2) := by decide +kernel
theorem dX5_move_82 : decode cX5_move 82 = .ok (.fneg, 1) := by decide +kernel
theorem dX5_move_83 : decode cX5_move 83 = .ok (.ldc 35, 2) := by decide +kernel
theorem dX5_move_85 : decode cX5_move 85 = .ok (.fmul, 1) := by decide +kernel
theorem dX5_move_86 : decode cX5_move 86 = .ok (.fstore 5, 2) := by decide +kernel
theorem dX5_move_88 : decode cX5_move 88 = .ok (.goto 26, 3) := by decide +kernel
theorem dX5_move_91 : decode cX5_move 91 = .ok (.fload 6, 2) := by decide +kernel
theorem dX5_move_93 : decode cX5_move 93 = .ok (.ldc 36, 2) := by decide +kernel
theorem dX5_move_95 : decode cX5_move 95 = .ok (.fcmp .l, 1) := by decide +kernel
theorem dX5_move_96 : decode cX5_move 96 = .ok (.ifCond .le 18, 3) := by decide +kernel
theorem dX5_move_99 : decode cX5_move 99 = .ok (.ldc 37, 2) := by decide +kernel
theorem dX5_move_101 : decode cX5_move 101 = .ok (.fload 6, 2) := by decide +kernel
theorem dX5_move_103 : decode cX5_move 103 = .ok (.fsub, 1) := by decide +kernel
theorem dX5_move_104 : decode cX5_move 104 = .ok (.fstore 6, 2) := by decide +kernel
theorem dX5_move_106 : decode cX5_move 106 = .ok (.fload 5, 2) := by decide +kernel
theorem dX5_move_108 : decode cX5_move 108 = .ok (.fneg, 1) := by decide +kernel
theorem dX5_move_109 : decode cX5_move 109 = .ok (.ldc 35, 2) := by decide +kernel
theorem dX5_move_111 : decode cX5_move 111 = .ok (.fmul, 1) := by decide +kernel
theorem dX5_move_112 : decode cX5_move 112 = .ok (.fstore 5, 2) := by decide +kernel
theorem dX5_move_114 : decode cX5_move 114 = .ok (.aload_n 0, 1) := by decide +kernel
theorem dX5_move_115 : decode cX5_move 115 = .ok (.getfield 7, 3) := by decide +kernel
theorem dX5_move_118 : decode cX5_move 118 = .ok (.iload_n 2, 1) := by decide +kernel
theorem dX5_move_119 : decode cX5_move 119 = .ok (.fload 6, 2) := by decide +kernel
theorem dX5_move_121 : decode cX5_move 121 = .ok (.fastore, 1) := by decide +kernel
theorem dX5_move_122 : decode cX5_move 122 = .ok (.aload_n 0, 1) := by decide +kernel
theorem dX5_move_123 : decode cX5_move 123 = .ok (.getfield 13, 3) := by decide +kernel
theorem dX5_move_126 : decode cX5_move 126 = .ok (.iload_n 2, 1) := by decide +kernel
theorem dX5_move_127 : decode cX5_move 127 = .ok (.fload 5, 2) := by decide +kernel
theorem dX5_move_129 : decode cX5_move 129 = .ok (.fastore, 1) := by decide +kernel
theorem dX5_move_130 : decode cX5_move 130 = .ok (.return_, 1) := by decide +kernel
theorem dX5_bounceApart_0 : decode cX5_bounceApart 0 = .ok (.aload_n 0, 1) := by decide +kernel
theorem dX5_bounceApart_1 : decode cX5_bounceApart 1 = .ok (.getfield 13, 3) := by decide +kernel
theorem dX5_bounceApart_4 : decode cX5_bounceApart 4 = .ok (.iconst 0, 1) := by decide +kernel
theorem dX5_bounceApart_5 : decode cX5_bounceApart 5 = .ok (.faload, 1) := by decide +kernel
theorem dX5_bounceApart_6 : decode cX5_bounceApart 6 = .ok (.fstore_n 1, 1) := by decide +kernel
theorem dX5_bounceApart_7 : decode cX5_bounceApart 7 = .ok (.aload_n 0, 1) := by decide +kernel
theorem dX5_bounceApart_8 : decode cX5_bounceApart 8 = .ok (.getfield 13, 3) := by decide +kernel
theorem dX5_bounceApart_11 : decode cX5_bounceApart 11 = .ok (.iconst 0, 1) := by decide +kernel
theorem dX5_bounceApart_12 : decode cX5_bounceApart 12 = .ok (.aload_n 0, 1) := by decide +kernel
theorem dX5_bounceApart_13 : decode cX5_bounceApart 13 = .ok (.getfield 13, 3) := by decide +kernel
theorem dX5_bounceApart_16 : decode cX5_bounceApart 16 = .ok (.iconst 1, 1) := by decide +kernel
theorem dX5_bounceApart_17 : decode cX5_bounceApart 17 = .ok (.faload, 1) := by decide +kernel
theorem dX5_bounceApart_18 : decode cX5_bounceApart 18 = .ok (.fastore, 1) := by decide +kernel
theorem dX5_bounceApart_19 : decode cX5_bounceApart 19 = .ok (.aload_n 0, 1) := by decide +kernel
theorem dX5_bounceApart_20 : decode cX5_bounceApart 20 = .ok (.getfield 13, 3) := by decide +kernel
theorem dX5_bounceApart_23 : decode cX5_bounceApart 23 = .ok (.iconst 1, 1) := by decide +kernel
theorem dX5_bounceApart_24 : decode cX5_bounceApart 24 = .ok (.fload_n 1, 1) := by decide +kernel
theorem dX5_bounceApart_25 : decode cX5_bounceApart 25 = .ok (.fastore, 1) := by decide +kernel
theorem dX5_bounceApart_26 : decode cX5_bounceApart 26 = .ok (.aload_n 0, 1) := by decide +kernel
theorem dX5_bounceApart_27 : decode cX5_bounceApart 27 = .ok (.getfield 7, 3) := by decide +kernel
theorem dX5_bounceApart_30 : decode cX5_bounceApart 30 = .ok (.iconst 0, 1) := by decide +kernel
theorem dX5_bounceApart_31 : decode cX5_bounceApart 31 = .ok (.faload, 1) := by decide +kernel
theorem dX5_bounceApart_32 : decode cX5_bounceApart 32 = .ok (.aload_n 0, 1) := by decide +kernel
theorem dX5_bounceApart_33 : decode cX5_bounceApart 33 = .ok (.getfield 7, 3) := by decide +kernel
theorem dX5_bounceApart_36 : decode cX5_bounceApart 36 = .ok (.iconst 1, 1) := by decide +kernel
theorem dX5_bounceApart_37 : decode cX5_bounceApart 37 = .ok (.faload, 1) := by decide +kernel
theorem dX5_bounceApart_38 : decode cX5_bounceApart 38 = .ok (.fadd, 1) := by decide +kernel
theorem dX5_bounceApart_39 : decode cX5_bounceApart 39 = .ok (.ldc 35, 2) := by decide +kernel
theorem dX5_bounceApart_41 : decode cX5_bounceApart 41 = .ok (.fmul, 1) := by decide +kernel
theorem dX5_bounceApart_42 : decode cX5_bounceApart 42 = .ok (.fstore_n 2, 1) := by decide +kernel
theorem dX5_bounceApart_43 : decode cX5_bounceApart 43 = .ok (.aload_n 0, 1) := by decide +kernel
theorem dX5_bounceApart_44 : decode cX5_bounceApart 44 = .ok (.getfield 7, 3) := by decide +kernel
theorem dX5_bounceApart_47 : decode cX5_bounceApart 47 = .ok (.iconst 0, 1) := by decide +kernel
theorem dX5_bounceApart_48 : decode cX5_bounceApart 48 = .ok (.fload_n 2, 1) := by decide +kernel
theorem dX5_bounceApart_49 : decode cX5_bounceApart 49 = .ok (.ldc 35, 2) := by decide +kernel
theorem dX5_bounceApart_51 : decode cX5_bounceApart 51 = .ok (.fsub, 1) := by decide +kernel
theorem dX5_bounceApart_52 : decode cX5_bounceApart 52 = .ok (.fastore, 1) := by decide +kernel
theorem dX5_bounceApart_53 : decode cX5_bounceApart 53 = .ok (.aload_n 0, 1) := by decide +kernel
theorem dX5_bounceApart_54 : decode cX5_bounceApart 54 = .ok (.getfield 7, 3) := by decide +kernel
theorem dX5_bounceApart_57 : decode cX5_bounceApart 57 = .ok (.iconst 1, 1) := by decide +kernel
theorem dX5_bounceApart_58 : decode cX5_bounceApart 58 = .ok (.fload_n 2, 1) := by decide +kernel
theorem dX5_bounceApart_59 : decode cX5_bounceApart 59 = .ok (.ldc 35, 2) := by decide +kernel
theorem dX5_bounceApart_61 : decode cX5_bounceApart 61 = .ok (.fadd, 1) := by decide +kernel
theorem dX5_bounceApart_62 : decode cX5_bounceApart 62 = .ok (.fastore, 1) := by decide +kernel
theorem dX5_bounceApart_63 : decode cX5_bounceApart 63 = .ok (.aload_n 0, 1) := by decide +kernel
theorem dX5_bounceApart_64 : decode cX5_bounceApart 64 = .ok (.dup, 1) := by decide +kernel
theorem dX5_bounceApart_65 : decode cX5_bounceApart 65 = .ok (.getfield 22, 3) := by decide +kernel
theorem dX5_bounceApart_68 : decode cX5_bounceApart 68 = .ok (.iconst 1, 1) := by decide +kernel
theorem dX5_bounceApart_69 : decode cX5_bounceApart 69 = .ok (.iadd, 1) := by decide +kernel
theorem dX5_bounceApart_70 : decode cX5_bounceApart 70 = .ok (.putfield 22, 3) := by decide +kernel
theorem dX5_bounceApart_73 : decode cX5_bounceApart 73 = .ok (.return_, 1) := by decide +kernel
theorem dX5_total_0 : decode cX5_total 0 = .ok (.bipush 17, 2) := by decide +kernel
theorem dX5_total_2 : decode cX5_total 2 = .ok (.istore_n 1, 1) := by decide +kernel
theorem dX5_total_3 : decode cX5_total 3 = .ok (.iconst 0, 1) := by decide +kernel
theorem dX5_total_4 : decode cX5_total 4 = .ok (.istore_n 2, 1) := by decide +kernel
theorem dX5_total_5 : decode cX5_total 5 = .ok (.iload_n 2, 1) := by decide +kernel
theorem dX5_total_6 : decode cX5_total 6 = .ok (.iconst 2, 1) := by decide +kernel
theorem dX5_total_7 : decode cX5_total 7 = .ok (.if_icmp .ge 41, 3) := by decide +kernel
theorem dX5_total_10 : decode cX5_total 10 = .ok (.iload_n 1, 1) := by decide +kernel
theorem dX5_total_11 : decode cX5_total 11 = .ok (.bipush 31, 2) := by decide +kernel
theorem dX5_total_13 : decode cX5_total 13 = .ok (.imul, 1) := by decide +kernel
theorem dX5_total_14 : decode cX5_total 14 = .ok (.aload_n 0, 1) := by decide +kernel
theorem dX5_total_15 : decode cX5_total 15 = .ok (.getfield 7, 3) := by decide +kernel
theorem dX5_total_18 : decode cX5_total 18 = .ok (.iload_n 2, 1) := by decide +kernel
theorem dX5_total_19 : decode cX5_total 19 = .ok (.faload, 1) := by decide +kernel
theorem dX5_total_20 : decode cX5_total 20 = .ok (.ldc 38, 2) := by decide +kernel
theorem dX5_total_22 : decode cX5_total 22 = .ok (.fmul, 1) := by decide +kernel
theorem dX5_total_23 : decode cX5_total 23 = .ok (.f2i, 1) := by decide +kernel
theorem dX5_total_24 : decode cX5_total 24 = .ok (.iadd, 1) := by decide +kernel
theorem dX5_total_25 : decode cX5_total 25 = .ok (.istore_n 1, 1) := by decide +kernel
theorem dX5_total_26 : decode cX5_total 26 = .ok (.iload_n 1, 1) := by decide +kernel
theorem dX5_total_27 : decode cX5_total 27 = .ok (.bipush 31, 2) := by decide +kernel
theorem dX5_total_29 : decode cX5_total 29 = .ok (.imul, 1) := by decide +kernel
theorem dX5_total_30 : decode cX5_total 30 = .ok (.aload_n 0, 1) := by decide +kernel
theorem dX5_total_31 : decode cX5_total 31 = .ok (.getfield 13, 3) := by decide +kernel
theorem dX5_total_34 : decode cX5_total 34 = .ok (.iload_n 2, 1) := by decide +kernel
theorem dX5_total_35 : decode cX5_total 35 = .ok (.faload, 1) := by decide +kernel
theorem dX5_total_36 : decode cX5_total 36 = .ok (.ldc 38, 2) := by decide +kernel
theorem dX5_total_38 : decode cX5_total 38 = .ok (.fmul, 1) := by decide +kernel
theorem dX5_total_39 : decode cX5_total 39 = .ok (.f2i, 1) := by decide +kernel
theorem dX5_total_40 : decode cX5_total 40 = .ok (.iadd, 1) := by decide +kernel
theorem dX5_total_41 : decode cX5_total 41 = .ok (.istore_n 1, 1) := by decide +kernel
theorem dX5_total_42 : decode cX5_total 42 = .ok (.iinc 2 1, 3) := by decide +kernel
theorem dX5_total_45 : decode cX5_total 45 = .ok (.goto (-40), 3) := by decide +kernel
theorem dX5_total_48 : decode cX5_total 48 = .ok (.iload_n 1, 1) := by decide +kernel
theorem dX5_total_49 : decode cX5_total 49 = .ok (.bipush 31, 2) := by decide +kernel
theorem dX5_total_51 : decode cX5_total 51 = .ok (.imul, 1) := by decide +kernel
theorem dX5_total_52 : decode cX5_total 52 = .ok (.aload_n 0, 1) := by decide +kernel
theorem dX5_total_53 : decode cX5_total 53 = .ok (.getfield 22, 3) := by decide +kernel
theorem dX5_total_56 : decode cX5_total 56 = .ok (.iadd, 1) := by decide +kernel
theorem dX5_total_57 : decode cX5_total 57 = .ok (.istore_n 1, 1) := by decide +kernel
theorem dX5_total_58 : decode cX5_total 58 = .ok (.iload_n 1, 1) := by decide +kernel
theorem dX5_total_59 : decode cX5_total 59 = .ok (.bipush 31, 2) := by decide +kernel
theorem dX5_total_61 : decode cX5_total 61 = .ok (.imul, 1) := by decide +kernel
theorem dX5_total_62 : decode cX5_total 62 = .ok (.aload_n 0, 1) := by decide +kernel
theorem dX5_total_63 : decode cX5_total 63 = .ok (.getfield 29, 3) := by decide +kernel
theorem dX5_total_66 : decode cX5_total 66 = .ok (.ldc2_w 39, 3) := by decide +kernel
theorem dX5_total_69 : decode cX5_total 69 = .ok (.dmul, 1) := by decide +kernel
theorem dX5_total_70 : decode cX5_total 70 = .ok (.d2i, 1) := by decide +kernel
theorem dX5_total_71 : decode cX5_total 71 = .ok (.iadd, 1) := by decide +kernel
theorem dX5_total_72 : decode cX5_total 72 = .ok (.ireturn, 1) := by decide +kernel
theorem dX0_before_0 : decode cX0_before 0 = .ok (.aload_n 0, 1) := by decide +kernel
theorem dX0_before_1 : decode cX0_before 1 = .ok (.getfield 13, 3) := by decide +kernel
theorem dX0_before_4 : decode cX0_before 4 = .ok (.iload_n 1, 1) := by decide +kernel
theorem dX0_before_5 : decode cX0_before 5 = .ok (.bipush 15, 2) := by decide +kernel
theorem dX0_before_7 : decode cX0_before 7 = .ok (.iand, 1) := by decide +kernel
theorem dX0_before_8 : decode cX0_before 8 = .ok (.aaload, 1) := by decide +kernel
theorem dX0_before_9 : decode cX0_before 9 = .ok (.areturn, 1) := by decide +kernel
set_option maxRecDepth 20000 in
theorem ggX0_play_X0_before : GoodIn wsX0_play wsX0_before := goodIn_r _ [6, 7, 30, 31] (by decide +kernel) (by decide +kernel)
set_option maxRecDepth 20000 in
theorem gX0_play_X0_before : GoodIn wsX0_play (wsV RX0 23 RX0 yX0_before wsX0_before) := goodIn_app (goodIn_of _ (by decide +kernel)) ggX0_play_X0_before
set_option maxRecDepth 20000 in
theorem ggX0_play_X5_follow : GoodIn wsX0_play wsX5_follow := goodIn_r _ [12, 13, 14, 15, 16, 17, 18, 19, 11, 20, 21, 22, 23, 24, 25, 26, 27, 28, 29, 32, 33, 34, 35] (by decide +kernel) (by decide +kernel)
set_option maxRecDepth 20000 in
theorem gX0_play_X5_follow : GoodIn wsX0_play (wsV RX0 27 RX5 yX5_follow wsX5_follow) := goodIn_app (goodIn_of _ (by decide +kernel)) ggX0_play_X5_follow
theorem dX0_play_0 : decode cX0_play 0 = .ok (.aload_n 0, 1) := by decide +kernel
theorem dX0_play_1 : decode cX0_play 1 = .ok (.getfield 19, 3) := by decide +kernel
theorem dX0_play_4 : decode cX0_play 4 = .ok (.iconst 0, 1) := by decide +kernel
theorem dX0_play_5 : decode cX0_play 5 = .ok (.aaload, 1) := by decide +kernel
theorem dX0_play_6 : decode cX0_play 6 = .ok (.iload_n 1, 1) := by decide +kernel
theorem dX0_play_7 : decode cX0_play 7 = .ok (.bipush 15, 2) := by decide +kernel
theorem dX0_play_9 : decode cX0_play 9 = .ok (.iand, 1) := by decide +kernel
theorem dX0_play_10 : decode cX0_play 10 = .ok (.iload_n 2, 1) := by decide +kernel
theorem dX0_play_11 : decode cX0_play 11 = .ok (.i2b, 1) := by decide +kernel
theorem dX0_play_12 : decode cX0_play 12 = .ok (.bastore, 1) := by decide +kernel
theorem dX0_play_13 : decode cX0_play 13 = .ok (.aload_n 0, 1) := by decide +kernel
theorem dX0_play_14 : decode cX0_play 14 = .ok (.getfield 19, 3) := by decide +kernel
theorem dX0_play_17 : decode cX0_play 17 = .ok (.iconst 1, 1) := by decide +kernel
theorem dX0_play_18 : decode cX0_play 18 = .ok (.aaload, 1) := by decide +kernel
theorem dX0_play_19 : decode cX0_play 19 = .ok (.iload_n 1, 1) := by decide +kernel
theorem dX0_play_20 : decode cX0_play 20 = .ok (.bipush 15, 2) := by decide +kernel
theorem dX0_play_22 : decode cX0_play 22 = .ok (.iand, 1) := by decide +kernel
theorem dX0_play_23 : decode cX0_play 23 = .ok (.iload_n 3, 1) := by decide +kernel
theorem dX0_play_24 : decode cX0_play 24 = .ok (.i2b, 1) := by decide +kernel
theorem dX0_play_25 : decode cX0_play 25 = .ok (.bastore, 1) := by decide +kernel
theorem dX0_play_26 : decode cX0_play 26 = .ok (.aload_n 0, 1) := by decide +kernel
theorem dX0_play_27 : decode cX0_play 27 = .ok (.iload_n 1, 1) := by decide +kernel
theorem dX0_play_28 : decode cX0_play 28 = .ok (.iconst 1, 1) := by decide +kernel
theorem dX0_play_29 : decode cX0_play 29 = .ok (.iadd, 1) := by decide +kernel
theorem dX0_play_30 : decode cX0_play 30 = .ok (.invokevirtual 23, 3) := by decide +kernel
theorem dX0_play_33 : decode cX0_play 33 = .ok (.aload_n 0, 1) := by decide +kernel
theorem dX0_play_34 : decode cX0_play 34 = .ok (.iload_n 1, 1) := by decide +kernel
theorem dX0_play_35 : decode cX0_play 35 = .ok (.invokevirtual 23, 3) := by decide +kernel
theorem dX0_play_38 : decode cX0_play 38 = .ok (.iload_n 2, 1) := by decide +kernel
theorem dX0_play_39 : decode cX0_play 39 = .ok (.iload_n 3, 1) := by decide +kernel
theorem dX0_play_40 : decode cX0_play 40 = .ok (.invokevirtual 27, 3) := by decide +kernel
theorem dX0_play_43 : decode cX0_play 43 = .ok (.return_, 1) := by decide +kernel
theorem dX0_inputPlayed_0 : decode cX0_inputPlayed 0 = .ok (.iload_n 2, 1) := by decide +kernel
theorem dX0_inputPlayed_1 : decode cX0_inputPlayed 1 = .ok (.ifCond .lt 16, 3) := by decide +kernel
theorem dX0_inputPlayed_4 : decode cX0_inputPlayed 4 = .ok (.iload_n 2, 1) := by decide +kernel
theorem dX0_inputPlayed_5 : decode cX0_inputPlayed 5 = .ok (.iload_n 3, 1) := by decide +kernel
theorem dX0_inputPlayed_6 : decode cX0_inputPlayed 6 = .ok (.if_icmp .ge 11, 3) := by decide +kernel
theorem dX0_inputPlayed_9 : decode cX0_inputPlayed 9 = .ok (.iload_n 3, 1) := by decide +kernel
theorem dX0_inputPlayed_10 : decode cX0_inputPlayed 10 = .ok (.iload_n 2, 1) := by decide +kernel
theorem dX0_inputPlayed_11 : decode cX0_inputPlayed 11 = .ok (.isub, 1) := by decide +kernel
theorem dX0_inputPlayed_12 : decode cX0_inputPlayed 12 = .ok (.bipush 15, 2) := by decide +kernel
theorem dX0_inputPlayed_14 : decode cX0_inputPlayed 14 = .ok (.if_icmp .le 5, 3) := by decide +kernel
theorem dX0_inputPlayed_17 : decode cX0_inputPlayed 17 = .ok (.iconst (-1), 1) := by decide +kernel
theorem dX0_inputPlayed_18 : decode cX0_inputPlayed 18 = .ok (.ireturn, 1) := by decide +kernel
theorem dX0_inputPlayed_19 : decode cX0_inputPlayed 19 = .ok (.aload_n 0, 1) := by decide +kernel
theorem dX0_inputPlayed_20 : decode cX0_inputPlayed 20 = .ok (.getfield 19, 3) := by decide +kernel
theorem dX0_inputPlayed_23 : decode cX0_inputPlayed 23 = .ok (.iload_n 1, 1) := by decide +kernel
theorem dX0_inputPlayed_24 : decode cX0_inputPlayed 24 = .ok (.aaload, 1) := by decide +kernel
theorem dX0_inputPlayed_25 : decode cX0_inputPlayed 25 = .ok (.iload_n 2, 1) := by decide +kernel
theorem dX0_inputPlayed_26 : decode cX0_inputPlayed 26 = .ok (.bipush 15, 2) := by decide +kernel
theorem dX0_inputPlayed_28 : decode cX0_inputPlayed 28 = .ok (.iand, 1) := by decide +kernel
theorem dX0_inputPlayed_29 : decode cX0_inputPlayed 29 = .ok (.baload, 1) := by decide +kernel
theorem dX0_inputPlayed_30 : decode cX0_inputPlayed 30 = .ok (.ireturn, 1) := by decide +kernel
set_option maxRecDepth 20000 in
theorem ggX0_sumBefore_X0_before : GoodIn wsX0_sumBefore wsX0_before := goodIn_r _ [5, 6, 18, 19] (by decide +kernel) (by decide +kernel)
set_option maxRecDepth 20000 in
theorem gX0_sumBefore_X0_before : GoodIn wsX0_sumBefore (wsV RX0 23 RX0 yX0_before wsX0_before) := goodIn_app (goodIn_of _ (by decide +kernel)) ggX0_sumBefore_X0_before
set_option maxRecDepth 20000 in
theorem ggX0_sumBefore_X5_total : GoodIn wsX0_sumBefore wsX5_total := goodIn_r _ [11, 12, 13, 14, 15, 16, 17, 20, 21, 22, 23] (by decide +kernel) (by decide +kernel)
set_option maxRecDepth 20000 in
theorem gX0_sumBefore_X5_total : GoodIn wsX0_sumBefore (wsV RX0 31 RX5 yX5_total wsX5_total) := goodIn_app (goodIn_of _ (by decide +kernel)) ggX0_sumBefore_X5_total
theorem dX0_sumBefore_0 : decode cX0_sumBefore 0 = .ok (.iload_n 1, 1) := by decide +kernel
theorem dX0_sumBefore_1 : decode cX0_sumBefore 1 = .ok (.ifCond .lt 16, 3) := by decide +kernel
theorem dX0_sumBefore_4 : decode cX0_sumBefore 4 = .ok (.iload_n 1, 1) := by decide +kernel
theorem dX0_sumBefore_5 : decode cX0_sumBefore 5 = .ok (.iload_n 2, 1) := by decide +kernel
theorem dX0_sumBefore_6 : decode cX0_sumBefore 6 = .ok (.if_icmp .gt 11, 3) := by decide +kernel
theorem dX0_sumBefore_9 : decode cX0_sumBefore 9 = .ok (.iload_n 2, 1) := by decide +kernel
theorem dX0_sumBefore_10 : decode cX0_sumBefore 10 = .ok (.iload_n 1, 1) := by decide +kernel
theorem dX0_sumBefore_11 : decode cX0_sumBefore 11 = .ok (.isub, 1) := by decide +kernel
theorem dX0_sumBefore_12 : decode cX0_sumBefore 12 = .ok (.bipush 15, 2) := by decide +kernel
theorem dX0_sumBefore_14 : decode cX0_sumBefore 14 = .ok (.if_icmp .le 5, 3) := by decide +kernel
theorem dX0_sumBefore_17 : decode cX0_sumBefore 17 = .ok (.iconst 0, 1) := by decide +kernel
theorem dX0_sumBefore_18 : decode cX0_sumBefore 18 = .ok (.ireturn, 1) := by decide +kernel
theorem dX0_sumBefore_19 : decode cX0_sumBefore 19 = .ok (.aload_n 0, 1) := by decide +kernel
theorem dX0_sumBefore_20 : decode cX0_sumBefore 20 = .ok (.iload_n 1, 1) := by decide +kernel
theorem dX0_sumBefore_21 : decode cX0_sumBefore 21 = .ok (.invokevirtual 23, 3) := by decide +kernel
theorem dX0_sumBefore_24 : decode cX0_sumBefore 24 = .ok (.invokevirtual 31, 3) := by decide +kernel
theorem dX0_sumBefore_27 : decode cX0_sumBefore 27 = .ok (.ireturn, 1) := by decide +kernel
