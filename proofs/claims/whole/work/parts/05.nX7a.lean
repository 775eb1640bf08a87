theorem dX7_isTwo_0 : decode cX7_isTwo 0 = .ok (.iload_n 0, 1) := by decide +kernel
theorem dX7_isTwo_1 : decode cX7_isTwo 1 = .ok (.ifCond .eq 8, 3) := by decide +kernel
theorem dX7_isTwo_4 : decode cX7_isTwo 4 = .ok (.iload_n 0, 1) := by decide +kernel
theorem dX7_isTwo_5 : decode cX7_isTwo 5 = .ok (.iconst 1, 1) := by decide +kernel
theorem dX7_isTwo_6 : decode cX7_isTwo 6 = .ok (.if_icmp .ne 7, 3) := by decide +kernel
theorem dX7_isTwo_9 : decode cX7_isTwo 9 = .ok (.iconst 1, 1) := by decide +kernel
theorem dX7_isTwo_10 : decode cX7_isTwo 10 = .ok (.goto 4, 3) := by decide +kernel
theorem dX7_isTwo_13 : decode cX7_isTwo 13 = .ok (.iconst 0, 1) := by decide +kernel
theorem dX7_isTwo_14 : decode cX7_isTwo 14 = .ok (.ireturn, 1) := by decide +kernel
theorem dX7_move_0 : decode cX7_move 0 = .ok (.iload_n 3, 1) := by decide +kernel
theorem dX7_move_1 : decode cX7_move 1 = .ok (.iconst 1, 1) := by decide +kernel
theorem dX7_move_2 : decode cX7_move 2 = .ok (.iand, 1) := by decide +kernel
theorem dX7_move_3 : decode cX7_move 3 = .ok (.iconst 1, 1) := by decide +kernel
theorem dX7_move_4 : decode cX7_move 4 = .ok (.if_icmp .ne 7, 3) := by decide +kernel
theorem dX7_move_7 : decode cX7_move 7 = .ok (.iconst 1, 1) := by decide +kernel
theorem dX7_move_8 : decode cX7_move 8 = .ok (.goto 4, 3) := by decide +kernel
theorem dX7_move_11 : decode cX7_move 11 = .ok (.iconst 0, 1) := by decide +kernel
theorem dX7_move_12 : decode cX7_move 12 = .ok (.istore 4, 2) := by decide +kernel
theorem dX7_move_14 : decode cX7_move 14 = .ok (.iload_n 3, 1) := by decide +kernel
theorem dX7_move_15 : decode cX7_move 15 = .ok (.iconst 2, 1) := by decide +kernel
theorem dX7_move_16 : decode cX7_move 16 = .ok (.iand, 1) := by decide +kernel
theorem dX7_move_17 : decode cX7_move 17 = .ok (.iconst 2, 1) := by decide +kernel
theorem dX7_move_18 : decode cX7_move 18 = .ok (.if_icmp .ne 7, 3) := by decide +kernel
theorem dX7_move_21 : decode cX7_move 21 = .ok (.iconst 1, 1) := by decide +kernel
theorem dX7_move_22 : decode cX7_move 22 = .ok (.goto 4, 3) := by decide +kernel
theorem dX7_move_25 : decode cX7_move 25 = .ok (.iconst 0, 1) := by decide +kernel
theorem dX7_move_26 : decode cX7_move 26 = .ok (.istore 5, 2) := by decide +kernel
theorem dX7_move_28 : decode cX7_move 28 = .ok (.iload 4, 2) := by decide +kernel
theorem dX7_move_30 : decode cX7_move 30 = .ok (.iload 5, 2) := by decide +kernel
theorem dX7_move_32 : decode cX7_move 32 = .ok (.if_icmp .ne 7, 3) := by decide +kernel
theorem dX7_move_35 : decode cX7_move 35 = .ok (.fconst 0, 1) := by decide +kernel
theorem dX7_move_36 : decode cX7_move 36 = .ok (.goto 14, 3) := by decide +kernel
theorem dX7_move_39 : decode cX7_move 39 = .ok (.iload 5, 2) := by decide +kernel
theorem dX7_move_41 : decode cX7_move 41 = .ok (.ifCond .eq 7, 3) := by decide +kernel
theorem dX7_move_44 : decode cX7_move 44 = .ok (.fconst 1, 1) := by decide +kernel
theorem dX7_move_45 : decode cX7_move 45 = .ok (.goto 5, 3) := by decide +kernel
theorem dX7_move_48 : decode cX7_move 48 = .ok (.ldc 99, 2) := by decide +kernel
theorem dX7_move_50 : decode cX7_move 50 = .ok (.fstore 6, 2) := by decide +kernel
theorem dX7_move_52 : decode cX7_move 52 = .ok (.fload_n 2, 1) := by decide +kernel
theorem dX7_move_53 : decode cX7_move 53 = .ok (.ldc 100, 2) := by decide +kernel
theorem dX7_move_55 : decode cX7_move 55 = .ok (.fmul, 1) := by decide +kernel
theorem dX7_move_56 : decode cX7_move 56 = .ok (.fload 6, 2) := by decide +kernel
theorem dX7_move_58 : decode cX7_move 58 = .ok (.ldc 101, 2) := by decide +kernel
theorem dX7_move_60 : decode cX7_move 60 = .ok (.fmul, 1) := by decide +kernel
theorem dX7_move_61 : decode cX7_move 61 = .ok (.fadd, 1) := by decide +kernel
theorem dX7_move_62 : decode cX7_move 62 = .ok (.fstore 7, 2) := by decide +kernel
theorem dX7_move_64 : decode cX7_move 64 = .ok (.iload_n 3, 1) := by decide +kernel
theorem dX7_move_65 : decode cX7_move 65 = .ok (.iconst 4, 1) := by decide +kernel
theorem dX7_move_66 : decode cX7_move 66 = .ok (.iand, 1) := by decide +kernel
theorem dX7_move_67 : decode cX7_move 67 = .ok (.iconst 4, 1) := by decide +kernel
theorem dX7_move_68 : decode cX7_move 68 = .ok (.if_icmp .ne 11, 3) := by decide +kernel
theorem dX7_move_71 : decode cX7_move 71 = .ok (.fload 7, 2) := by decide +kernel
theorem dX7_move_73 : decode cX7_move 73 = .ok (.ldc 102, 2) := by decide +kernel
theorem dX7_move_75 : decode cX7_move 75 = .ok (.fmul, 1) := by decide +kernel
theorem dX7_move_76 : decode cX7_move 76 = .ok (.goto 5, 3) := by decide +kernel
theorem dX7_move_79 : decode cX7_move 79 = .ok (.fload 7, 2) := by decide +kernel
theorem dX7_move_81 : decode cX7_move 81 = .ok (.fstore 7, 2) := by decide +kernel
theorem dX7_move_83 : decode cX7_move 83 = .ok (.fload_n 1, 1) := by decide +kernel
theorem dX7_move_84 : decode cX7_move 84 = .ok (.fload 7, 2) := by decide +kernel
theorem dX7_move_86 : decode cX7_move 86 = .ok (.fadd, 1) := by decide +kernel
theorem dX7_move_87 : decode cX7_move 87 = .ok (.fstore 8, 2) := by decide +kernel
theorem dX7_move_89 : decode cX7_move 89 = .ok (.fload 8, 2) := by decide +kernel
theorem dX7_move_91 : decode cX7_move 91 = .ok (.fconst 0, 1) := by decide +kernel
theorem dX7_move_92 : decode cX7_move 92 = .ok (.fcmp .g, 1) := by decide +kernel
theorem dX7_move_93 : decode cX7_move 93 = .ok (.ifCond .ge 19, 3) := by decide +kernel
theorem dX7_move_96 : decode cX7_move 96 = .ok (.fload 8, 2) := by decide +kernel
theorem dX7_move_98 : decode cX7_move 98 = .ok (.fneg, 1) := by decide +kernel
theorem dX7_move_99 : decode cX7_move 99 = .ok (.fstore 8, 2) := by decide +kernel
theorem dX7_move_101 : decode cX7_move 101 = .ok (.fload 7, 2) := by decide +kernel
theorem dX7_move_103 : decode cX7_move 103 = .ok (.fneg, 1) := by decide +kernel
theorem dX7_move_104 : decode cX7_move 104 = .ok (.ldc 102, 2) := by decide +kernel
theorem dX7_move_106 : decode cX7_move 106 = .ok (.fmul, 1) := by decide +kernel
theorem dX7_move_107 : decode cX7_move 107 = .ok (.fstore 7, 2) := by decide +kernel
theorem dX7_move_109 : decode cX7_move 109 = .ok (.goto 26, 3) := by decide +kernel
theorem dX7_move_112 : decode cX7_move 112 = .ok (.fload 8, 2) := by decide +kernel
theorem dX7_move_114 : decode cX7_move 114 = .ok (.ldc 103, 2) := by decide +kernel
theorem dX7_move_116 : decode cX7_move 116 = .ok (.fcmp .l, 1) := by decide +kernel
theorem dX7_move_117 : decode cX7_move 117 = .ok (.ifCond .le 18, 3) := by decide +kernel
theorem dX7_move_120 : decode cX7_move 120 = .ok (.ldc 104, 2) := by decide +kernel
theorem dX7_move_122 : decode cX7_move 122 = .ok (.fload 8, 2) := by decide +kernel
theorem dX7_move_124 : decode cX7_move 124 = .ok (.fsub, 1) := by decide +kernel
theorem dX7_move_125 : decode cX7_move 125 = .ok (.fstore 8, 2) := by decide +kernel
theorem dX7_move_127 : decode cX7_move 127 = .ok (.fload 7, 2) := by decide +kernel
theorem dX7_move_129 : decode cX7_move 129 = .ok (.fneg, 1) := by decide +kernel
theorem dX7_move_130 : decode cX7_move 130 = .ok (.ldc 102, 2) := by decide +kernel
theorem dX7_move_132 : decode cX7_move 132 = .ok (.fmul, 1) := by decide +kernel
theorem dX7_move_133 : decode cX7_move 133 = .ok (.fstore 7, 2) := by decide +kernel
theorem dX7_move_135 : decode cX7_move 135 = .ok (.aload_n 0, 1) := by decide +kernel
theorem dX7_move_136 : decode cX7_move 136 = .ok (.fload 8, 2) := by decide +kernel
theorem dX7_move_138 : decode cX7_move 138 = .ok (.putfield 105, 3) := by decide +kernel
theorem dX7_move_141 : decode cX7_move 141 = .ok (.aload_n 0, 1) := by decide +kernel
theorem dX7_move_142 : decode cX7_move 142 = .ok (.fload 7, 2) := by decide +kernel
theorem dX7_move_144 : decode cX7_move 144 = .ok (.putfield 109, 3) := by decide +kernel
theorem dX7_move_147 : decode cX7_move 147 = .ok (.return_, 1) := by decide +kernel
theorem dX7_useOf_0 : decode cX7_useOf 0 = .ok (.aload_n 0, 1) := by decide +kernel
theorem dX7_useOf_1 : decode cX7_useOf 1 = .ok (.getfield 43, 3) := by decide +kernel
theorem dX7_useOf_4 : decode cX7_useOf 4 = .ok (.iconst 2, 1) := by decide +kernel
theorem dX7_useOf_5 : decode cX7_useOf 5 = .ok (.iload_n 1, 1) := by decide +kernel
theorem dX7_useOf_6 : decode cX7_useOf 6 = .ok (.imul, 1) := by decide +kernel
theorem dX7_useOf_7 : decode cX7_useOf 7 = .ok (.iload_n 2, 1) := by decide +kernel
theorem dX7_useOf_8 : decode cX7_useOf 8 = .ok (.iadd, 1) := by decide +kernel
theorem dX7_useOf_9 : decode cX7_useOf 9 = .ok (.iaload, 1) := by decide +kernel
theorem dX7_useOf_10 : decode cX7_useOf 10 = .ok (.istore 4, 2) := by decide +kernel
theorem dX7_useOf_12 : decode cX7_useOf 12 = .ok (.sipush 1200, 3) := by decide +kernel
theorem dX7_useOf_15 : decode cX7_useOf 15 = .ok (.iload_n 1, 1) := by decide +kernel
theorem dX7_useOf_16 : decode cX7_useOf 16 = .ok (.imul, 1) := by decide +kernel
theorem dX7_useOf_17 : decode cX7_useOf 17 = .ok (.sipush 600, 3) := by decide +kernel
theorem dX7_useOf_20 : decode cX7_useOf 20 = .ok (.iload_n 2, 1) := by decide +kernel
theorem dX7_useOf_21 : decode cX7_useOf 21 = .ok (.imul, 1) := by decide +kernel
theorem dX7_useOf_22 : decode cX7_useOf 22 = .ok (.iadd, 1) := by decide +kernel
theorem dX7_useOf_23 : decode cX7_useOf 23 = .ok (.istore 5, 2) := by decide +kernel
theorem dX7_useOf_25 : decode cX7_useOf 25 = .ok (.iload_n 3, 1) := by decide +kernel
theorem dX7_useOf_26 : decode cX7_useOf 26 = .ok (.iload 4, 2) := by decide +kernel
theorem dX7_useOf_28 : decode cX7_useOf 28 = .ok (.if_icmp .ge 13, 3) := by decide +kernel
theorem dX7_useOf_31 : decode cX7_useOf 31 = .ok (.aload_n 0, 1) := by decide +kernel
theorem dX7_useOf_32 : decode cX7_useOf 32 = .ok (.getfield 37, 3) := by decide +kernel
theorem dX7_useOf_35 : decode cX7_useOf 35 = .ok (.iload 5, 2) := by decide +kernel
theorem dX7_useOf_37 : decode cX7_useOf 37 = .ok (.iload_n 3, 1) := by decide +kernel
theorem dX7_useOf_38 : decode cX7_useOf 38 = .ok (.iadd, 1) := by decide +kernel
theorem dX7_useOf_39 : decode cX7_useOf 39 = .ok (.iaload, 1) := by decide +kernel
theorem dX7_useOf_40 : decode cX7_useOf 40 = .ok (.ireturn, 1) := by decide +kernel
theorem dX7_useOf_41 : decode cX7_useOf 41 = .ok (.iload_n 2, 1) := by decide +kernel
theorem dX7_useOf_42 : decode cX7_useOf 42 = .ok (.iload_n 1, 1) := by decide +kernel
theorem dX7_useOf_43 : decode cX7_useOf 43 = .ok (.if_icmp .eq 12, 3) := by decide +kernel
theorem dX7_useOf_46 : decode cX7_useOf 46 = .ok (.aload_n 0, 1) := by decide +kernel
theorem dX7_useOf_47 : decode cX7_useOf 47 = .ok (.getfield 16, 3) := by decide +kernel
theorem dX7_useOf_50 : decode cX7_useOf 50 = .ok (.iload_n 1, 1) := by decide +kernel
theorem dX7_useOf_51 : decode cX7_useOf 51 = .ok (.iaload, 1) := by decide +kernel
theorem dX7_useOf_52 : decode cX7_useOf 52 = .ok (.ifCond .ge 8, 3) := by decide +kernel
theorem dX7_useOf_55 : decode cX7_useOf 55 = .ok (.iload 4, 2) := by decide +kernel
theorem dX7_useOf_57 : decode cX7_useOf 57 = .ok (.ifCond .ne 5, 3) := by decide +kernel
theorem dX7_useOf_60 : decode cX7_useOf 60 = .ok (.iconst 0, 1) := by decide +kernel
theorem dX7_useOf_61 : decode cX7_useOf 61 = .ok (.ireturn, 1) := by decide +kernel
theorem dX7_useOf_62 : decode cX7_useOf 62 = .ok (.aload_n 0, 1) := by decide +kernel
theorem dX7_useOf_63 : decode cX7_useOf 63 = .ok (.getfield 37, 3) := by decide +kernel
theorem dX7_useOf_66 : decode cX7_useOf 66 = .ok (.iload 5, 2) := by decide +kernel
theorem dX7_useOf_68 : decode cX7_useOf 68 = .ok (.iload 4, 2) := by decide +kernel
theorem dX7_useOf_70 : decode cX7_useOf 70 = .ok (.iadd, 1) := by decide +kernel
theorem dX7_useOf_71 : decode cX7_useOf 71 = .ok (.iconst 1, 1) := by decide +kernel
theorem dX7_useOf_72 : decode cX7_useOf 72 = .ok (.isub, 1) := by decide +kernel
theorem dX7_useOf_73 : decode cX7_useOf 73 = .ok (.iaload, 1) := by decide +kernel
theorem dX7_useOf_74 : decode cX7_useOf 74 = .ok (.ireturn, 1) := by decide +kernel
theorem dX7_check_0 : decode cX7_check 0 = .ok (.bipush 23, 2) := by decide +kernel
theorem dX7_check_2 : decode cX7_check 2 = .ok (.istore_n 2, 1) := by decide +kernel
theorem dX7_check_3 : decode cX7_check 3 = .ok (.iload_n 2, 1) := by decide +kernel
theorem dX7_check_4 : decode cX7_check 4 = .ok (.bipush 37, 2) := by decide +kernel
theorem dX7_check_6 : decode cX7_check 6 = .ok (.imul, 1) := by decide +kernel
theorem dX7_check_7 : decode cX7_check 7 = .ok (.aload_n 0, 1) := by decide +kernel
theorem dX7_check_8 : decode cX7_check 8 = .ok (.getfield 68, 3) := by decide +kernel
theorem dX7_check_11 : decode cX7_check 11 = .ok (.iload_n 1, 1) := by decide +kernel
theorem dX7_check_12 : decode cX7_check 12 = .ok (.saload, 1) := by decide +kernel
theorem dX7_check_13 : decode cX7_check 13 = .ok (.iadd, 1) := by decide +kernel
theorem dX7_check_14 : decode cX7_check 14 = .ok (.istore_n 2, 1) := by decide +kernel
theorem dX7_check_15 : decode cX7_check 15 = .ok (.iload_n 2, 1) := by decide +kernel
theorem dX7_check_16 : decode cX7_check 16 = .ok (.bipush 37, 2) := by decide +kernel
theorem dX7_check_18 : decode cX7_check 18 = .ok (.imul, 1) := by decide +kernel
theorem dX7_check_19 : decode cX7_check 19 = .ok (.aload_n 0, 1) := by decide +kernel
theorem dX7_check_20 : decode cX7_check 20 = .ok (.getfield 71, 3) := by decide +kernel
theorem dX7_check_23 : decode cX7_check 23 = .ok (.iload_n 1, 1) := by decide +kernel
theorem dX7_check_24 : decode cX7_check 24 = .ok (.iaload, 1) := by decide +kernel
theorem dX7_check_25 : decode cX7_check 25 = .ok (.iadd, 1) := by decide +kernel
theorem dX7_check_26 : decode cX7_check 26 = .ok (.istore_n 2, 1) := by decide +kernel
theorem dX7_check_27 : decode cX7_check 27 = .ok (.iload_n 2, 1) := by decide +kernel
theorem dX7_check_28 : decode cX7_check 28 = .ok (.bipush 37, 2) := by decide +kernel
theorem dX7_check_30 : decode cX7_check 30 = .ok (.imul, 1) := by decide +kernel
theorem dX7_check_31 : decode cX7_check 31 = .ok (.aload_n 0, 1) := by decide +kernel
theorem dX7_check_32 : decode cX7_check 32 = .ok (.getfield 74, 3) := by decide +kernel
theorem dX7_check_35 : decode cX7_check 35 = .ok (.iload_n 1, 1) := by decide +kernel
theorem dX7_check_36 : decode cX7_check 36 = .ok (.iaload, 1) := by decide +kernel
theorem dX7_check_37 : decode cX7_check 37 = .ok (.iadd, 1) := by decide +kernel
theorem dX7_check_38 : decode cX7_check 38 = .ok (.istore_n 2, 1) := by decide +kernel
theorem dX7_check_39 : decode cX7_check 39 = .ok (.iload_n 2, 1) := by decide +kernel
theorem dX7_check_40 : decode cX7_check 40 = .ok (.bipush 37, 2) := by decide +kernel
theorem dX7_check_42 : decode cX7_check 42 = .ok (.imul, 1) := by decide +kernel
theorem dX7_check_43 : decode cX7_check 43 = .ok (.aload_n 0, 1) := by decide +kernel
theorem dX7_check_44 : decode cX7_check 44 = .ok (.getfield 77, 3) := by decide +kernel
theorem dX7_check_47 : decode cX7_check 47 = .ok (.iload_n 1, 1) := by decide +kernel
theorem dX7_check_48 : decode cX7_check 48 = .ok (.iaload, 1) := by decide +kernel
theorem dX7_check_49 : decode cX7_check 49 = .ok (.iadd, 1) := by decide +kernel
theorem dX7_check_50 : decode cX7_check 50 = .ok (.istore_n 2, 1) := by decide +kernel
theorem dX7_check_51 : decode cX7_check 51 = .ok (.iload_n 2, 1) := by decide +kernel
theorem dX7_check_52 : decode cX7_check 52 = .ok (.bipush 37, 2) := by decide +kernel
theorem dX7_check_54 : decode cX7_check 54 = .ok (.imul, 1) := by decide +kernel
theorem dX7_check_55 : decode cX7_check 55 = .ok (.aload_n 0, 1) := by decide +kernel
theorem dX7_check_56 : decode cX7_check 56 = .ok (.getfield 80, 3) := by decide +kernel
theorem dX7_check_59 : decode cX7_check 59 = .ok (.iload_n 1, 1) := by decide +kernel
theorem dX7_check_60 : decode cX7_check 60 = .ok (.iaload, 1) := by decide +kernel
theorem dX7_check_61 : decode cX7_check 61 = .ok (.iadd, 1) := by decide +kernel
theorem dX7_check_62 : decode cX7_check 62 = .ok (.istore_n 2, 1) := by decide +kernel
theorem dX7_check_63 : decode cX7_check 63 = .ok (.iload_n 2, 1) := by decide +kernel
theorem dX7_check_64 : decode cX7_check 64 = .ok (.bipush 37, 2) := by decide +kernel
theorem dX7_check_66 : decode cX7_check 66 = .ok (.imul, 1) := by decide +kernel
theorem dX7_check_67 : decode cX7_check 67 = .ok (.aload_n 0, 1) := by decide +kernel
theorem dX7_check_68 : decode cX7_check 68 = .ok (.getfield 83, 3) := by decide +kernel
theorem dX7_check_71 : decode cX7_check 71 = .ok (.iload_n 1, 1) := by decide +kernel
theorem dX7_check_72 : decode cX7_check 72 = .ok (.laload, 1) := by decide +kernel
theorem dX7_check_73 : decode cX7_check 73 = .ok (.l2i, 1) := by decide +kernel
theorem dX7_check_74 : decode cX7_check 74 = .ok (.iadd, 1) := by decide +kernel
theorem dX7_check_75 : decode cX7_check 75 = .ok (.istore_n 2, 1) := by decide +kernel
theorem dX7_check_76 : decode cX7_check 76 = .ok (.iload_n 2, 1) := by decide +kernel
theorem dX7_check_77 : decode cX7_check 77 = .ok (.bipush 37, 2) := by decide +kernel
theorem dX7_check_79 : decode cX7_check 79 = .ok (.imul, 1) := by decide +kernel
theorem dX7_check_80 : decode cX7_check 80 = .ok (.aload_n 0, 1) := by decide +kernel
theorem dX7_check_81 : decode cX7_check 81 = .ok (.getfield 83, 3) := by decide +kernel
theorem dX7_check_84 : decode cX7_check 84 = .ok (.iload_n 1, 1) := by decide +kernel
theorem dX7_check_85 : decode cX7_check 85 = .ok (.laload, 1) := by decide +kernel
theorem dX7_check_86 : decode cX7_check 86 = .ok (.bipush 32, 2) := by decide +kernel
theorem dX7_check_88 : decode cX7_check 88 = .ok (.lshr, 1) := by decide +kernel
theorem dX7_check_89 : decode cX7_check 89 = .ok (.l2i, 1) := by decide +kernel
theorem dX7_check_90 : decode cX7_check 90 = .ok (.iadd, 1) := by decide +kernel
theorem dX7_check_91 : decode cX7_check 91 = .ok (.ireturn, 1) := by decide +kernel
theorem dX7_copy_0 : decode cX7_copy 0 = .ok (.aload_n 0, 1) := by decide +kernel
theorem dX7_copy_1 : decode cX7_copy 1 = .ok (.getfield 68, 3) := by decide +kernel
theorem dX7_copy_4 : decode cX7_copy 4 = .ok (.iload_n 2, 1) := by decide +kernel
theorem dX7_copy_5 : decode cX7_copy 5 = .ok (.aload_n 0, 1) := by decide +kernel
theorem dX7_copy_6 : decode cX7_copy 6 = .ok (.getfield 68, 3) := by decide +kernel
theorem dX7_copy_9 : decode cX7_copy 9 = .ok (.iload_n 1, 1) := by decide +kernel
theorem dX7_copy_10 : decode cX7_copy 10 = .ok (.saload, 1) := by decide +kernel
theorem dX7_copy_11 : decode cX7_copy 11 = .ok (.sastore, 1) := by decide +kernel
theorem dX7_copy_12 : decode cX7_copy 12 = .ok (.aload_n 0, 1) := by decide +kernel
theorem dX7_copy_13 : decode cX7_copy 13 = .ok (.getfield 71, 3) := by decide +kernel
theorem dX7_copy_16 : decode cX7_copy 16 = .ok (.iload_n 2, 1) := by decide +kernel
theorem dX7_copy_17 : decode cX7_copy 17 = .ok (.aload_n 0, 1) := by decide +kernel
theorem dX7_copy_18 : decode cX7_copy 18 = .ok (.getfield 71, 3) := by decide +kernel
theorem dX7_copy_21 : decode cX7_copy 21 = .ok (.iload_n 1, 1) := by decide +kernel
theorem dX7_copy_22 : decode cX7_copy 22 = .ok (.iaload, 1) := by decide +kernel
theorem dX7_copy_23 : decode cX7_copy 23 = .ok (.iastore, 1) := by decide +kernel
theorem dX7_copy_24 : decode cX7_copy 24 = .ok (.aload_n 0, 1) := by decide +kernel
theorem dX7_copy_25 : decode cX7_copy 25 = .ok (.getfield 74, 3) := by decide +kernel
theorem dX7_copy_28 : decode cX7_copy 28 = .ok (.iload_n 2, 1) := by decide +kernel
theorem dX7_copy_29 : decode cX7_copy 29 = .ok (.aload_n 0, 1) := by decide +kernel
theorem dX7_copy_30 : decode cX7_copy 30 = .ok (.getfield 74, 3) := by decide +kernel
theorem dX7_copy_33 : decode cX7_copy 33 = .ok (.iload_n 1, 1) := by decide +kernel
theorem dX7_copy_34 : decode cX7_copy 34 = .ok (.iaload, 1) := by decide +kernel
theorem dX7_copy_35 : decode cX7_copy 35 = .ok (.iastore, 1) := by decide +kernel
theorem dX7_copy_36 : decode cX7_copy 36 = .ok (.aload_n 0, 1) := by decide +kernel
theorem dX7_copy_37 : decode cX7_copy 37 = .ok (.getfield 77, 3) := by decide +kernel
theorem dX7_copy_40 : decode cX7_copy 40 = .ok (.iload_n 2, 1) := by decide +kernel
theorem dX7_copy_41 : decode cX7_copy 41 = .ok (.aload_n 0, 1) := by decide +kernel
theorem dX7_copy_42 : decode cX7_copy 42 = .ok (.getfield 77, 3) := by decide +kernel
theorem dX7_copy_45 : decode cX7_copy 45 = .ok (.iload_n 1, 1) := by decide +kernel
theorem dX7_copy_46 : decode cX7_copy 46 = .ok (.iaload, 1) := by decide +kernel
theorem dX7_copy_47 : decode cX7_copy 47 = .ok (.iastore, 1) := by decide +kernel
theorem dX7_copy_48 : decode cX7_copy 48 = .ok (.aload_n 0, 1) := by decide +kernel
theorem dX7_copy_49 : decode cX7_copy 49 = .ok (.getfield 80, 3) := by decide +kernel
theorem dX7_copy_52 : decode cX7_copy 52 = .ok (.iload_n 2, 1) := by decide +kernel
theorem dX7_copy_53 : decode cX7_copy 53 = .ok (.aload_n 0, 1) := by decide +kernel
theorem dX7_copy_54 : decode cX7_copy 54 = .ok (.getfield 80, 3) := by decide +kernel
theorem dX7_copy_57 : decode cX7_copy 57 = .ok (.iload_n 1, 1) := by decide +kernel
theorem dX7_copy_58 : decode cX7_copy 58 = .ok (.iaload, 1) := by decide +kernel
theorem dX7_copy_59 : decode cX7_copy 59 = .ok (.iastore, 1) := by decide +kernel
theorem dX7_copy_60 : decode cX7_copy 60 = .ok (.aload_n 0, 1) := by decide +kernel
theorem dX7_copy_61 : decode cX7_copy 61 = .ok (.getfield 83, 3) := by decide +kernel
theorem dX7_copy_64 : decode cX7_copy 64 = .ok (.iload_n 2, 1) := by decide +kernel
theorem dX7_copy_65 : decode cX7_copy 65 = .ok (.aload_n 0, 1) := by decide +kernel
theorem dX7_copy_66 : decode cX7_copy 66 = .ok (.getfield 83, 3) := by decide +kernel
theorem dX7_copy_69 : decode cX7_copy 69 = .ok (.iload_n 1, 1) := by decide +kernel
theorem dX7_copy_70 : decode cX7_copy 70 = .ok (.laload, 1) := by decide +kernel
theorem dX7_copy_71 : decode cX7_copy 71 = .ok (.lastore, 1) := by decide +kernel
theorem dX7_copy_72 : decode cX7_copy 72 = .ok (.aload_n 0, 1) := by decide +kernel
theorem dX7_copy_73 : decode cX7_copy 73 = .ok (.getfield 87, 3) := by decide +kernel
theorem dX7_copy_76 : decode cX7_copy 76 = .ok (.iload_n 2, 1) := by decide +kernel
theorem dX7_copy_77 : decode cX7_copy 77 = .ok (.aload_n 0, 1) := by decide +kernel
theorem dX7_copy_78 : decode cX7_copy 78 = .ok (.getfield 87, 3) := by decide +kernel
theorem dX7_copy_81 : decode cX7_copy 81 = .ok (.iload_n 1, 1) := by decide +kernel
theorem dX7_copy_82 : decode cX7_copy 82 = .ok (.iaload, 1) := by decide +kernel
theorem dX7_copy_83 : decode cX7_copy 83 = .ok (.iastore, 1) := by decide +kernel
theorem dX7_copy_84 : decode cX7_copy 84 = .ok (.return_, 1) := by decide +kernel
set_option maxRecDepth 20000 in
theorem ggX7_take_X7_copy : GoodIn wsX7_take wsX7_copy := goodIn_r _ [6, 7, 8, 9, 10, 11, 12, 13, 14, 15, 16, 17, 18, 19, 20, 21, 22, 23, 24, 25, 26, 27, 28, 29, 30, 31, 32, 33, 34, 35, 36, 37, 38, 39, 40, 41, 42] (by decide +kernel) (by decide +kernel)
set_option maxRecDepth 20000 in
theorem gX7_take_X7_copy : GoodIn wsX7_take (wsV RX7 128 RX7 yX7_copy wsX7_copy) := goodIn_app (goodIn_of _ (by decide +kernel)) ggX7_take_X7_copy
theorem dX7_take_0 : decode cX7_take 0 = .ok (.aload_n 0, 1) := by decide +kernel
theorem dX7_take_1 : decode cX7_take 1 = .ok (.bipush 12, 2) := by decide +kernel
theorem dX7_take_3 : decode cX7_take 3 = .ok (.iload_n 1, 1) := by decide +kernel
theorem dX7_take_4 : decode cX7_take 4 = .ok (.imul, 1) := by decide +kernel
theorem dX7_take_5 : decode cX7_take 5 = .ok (.bipush 24, 2) := by decide +kernel
theorem dX7_take_7 : decode cX7_take 7 = .ok (.invokevirtual 128, 3) := by decide +kernel
theorem dX7_take_10 : decode cX7_take 10 = .ok (.aload_n 0, 1) := by decide +kernel
theorem dX7_take_11 : decode cX7_take 11 = .ok (.getfield 65, 3) := by decide +kernel
theorem dX7_take_14 : decode cX7_take 14 = .ok (.iload_n 1, 1) := by decide +kernel
theorem dX7_take_15 : decode cX7_take 15 = .ok (.dup2, 1) := by decide +kernel
theorem dX7_take_16 : decode cX7_take 16 = .ok (.iaload, 1) := by decide +kernel
theorem dX7_take_17 : decode cX7_take 17 = .ok (.iconst 1, 1) := by decide +kernel
theorem dX7_take_18 : decode cX7_take 18 = .ok (.isub, 1) := by decide +kernel
theorem dX7_take_19 : decode cX7_take 19 = .ok (.iastore, 1) := by decide +kernel
theorem dX7_take_20 : decode cX7_take 20 = .ok (.bipush 12, 2) := by decide +kernel
theorem dX7_take_22 : decode cX7_take 22 = .ok (.iload_n 1, 1) := by decide +kernel
theorem dX7_take_23 : decode cX7_take 23 = .ok (.imul, 1) := by decide +kernel
theorem dX7_take_24 : decode cX7_take 24 = .ok (.istore_n 2, 1) := by decide +kernel
theorem dX7_take_25 : decode cX7_take 25 = .ok (.iload_n 2, 1) := by decide +kernel
theorem dX7_take_26 : decode cX7_take 26 = .ok (.bipush 12, 2) := by decide +kernel
theorem dX7_take_28 : decode cX7_take 28 = .ok (.iload_n 1, 1) := by decide +kernel
theorem dX7_take_29 : decode cX7_take 29 = .ok (.imul, 1) := by decide +kernel
theorem dX7_take_30 : decode cX7_take 30 = .ok (.aload_n 0, 1) := by decide +kernel
theorem dX7_take_31 : decode cX7_take 31 = .ok (.getfield 65, 3) := by decide +kernel
theorem dX7_take_34 : decode cX7_take 34 = .ok (.iload_n 1, 1) := by decide +kernel
theorem dX7_take_35 : decode cX7_take 35 = .ok (.iaload, 1) := by decide +kernel
theorem dX7_take_36 : decode cX7_take 36 = .ok (.iadd, 1) := by decide +kernel
theorem dX7_take_37 : decode cX7_take 37 = .ok (.if_icmp .ge 17, 3) := by decide +kernel
theorem dX7_take_40 : decode cX7_take 40 = .ok (.aload_n 0, 1) := by decide +kernel
theorem dX7_take_41 : decode cX7_take 41 = .ok (.iload_n 2, 1) := by decide +kernel
theorem dX7_take_42 : decode cX7_take 42 = .ok (.iconst 1, 1) := by decide +kernel
theorem dX7_take_43 : decode cX7_take 43 = .ok (.iadd, 1) := by decide +kernel
theorem dX7_take_44 : decode cX7_take 44 = .ok (.iload_n 2, 1) := by decide +kernel
theorem dX7_take_45 : decode cX7_take 45 = .ok (.invokevirtual 128, 3) := by decide +kernel
theorem dX7_take_48 : decode cX7_take 48 = .ok (.iinc 2 1, 3) := by decide +kernel
theorem dX7_take_51 : decode cX7_take 51 = .ok (.goto (-26), 3) := by decide +kernel
theorem dX7_take_54 : decode cX7_take 54 = .ok (.return_, 1) := by decide +kernel
set_option maxRecDepth 20000 in
theorem ggX7_play_X7_useOf : GoodIn wsX7_play wsX7_useOf := goodIn_r _ [15, 16, 17, 18, 28, 29, 30, 31, 32, 33, 34, 35, 36, 37, 38, 39, 40, 41, 42, 43, 44, 45, 46, 47, 48, 49, 50, 51, 52, 53, 54, 55, 56] (by decide +kernel) (by decide +kernel)
set_option maxRecDepth 20000 in
theorem gX7_play_X7_useOf : GoodIn wsX7_play (wsV RX7 112 RX7 yX7_useOf wsX7_useOf) := goodIn_app (goodIn_of _ (by decide +kernel)) ggX7_play_X7_useOf
set_option maxRecDepth 20000 in
theorem ggX7_play_X7_move : GoodIn wsX7_play wsX7_move := goodIn_r _ [22, 23, 24, 25, 8, 26, 27, 4, 5, 28, 29, 30, 31, 32, 33, 34, 35, 36, 37, 38, 39, 40, 41, 42, 43, 44, 45, 46, 47, 48, 49, 50, 51, 52, 53, 54, 55, 56] (by decide +kernel) (by decide +kernel)
set_option maxRecDepth 20000 in
theorem gX7_play_X7_move : GoodIn wsX7_play (wsV RX7 116 RX7 yX7_move wsX7_move) := goodIn_app (goodIn_of _ (by decide +kernel)) ggX7_play_X7_move
theorem dX7_play_0 : decode cX7_play 0 = .ok (.sipush 600, 3) := by decide +kernel
theorem dX7_play_3 : decode cX7_play 3 = .ok (.iload_n 1, 1) := by decide +kernel
theorem dX7_play_4 : decode cX7_play 4 = .ok (.imul, 1) := by decide +kernel
theorem dX7_play_5 : decode cX7_play 5 = .ok (.iload_n 2, 1) := by decide +kernel
theorem dX7_play_6 : decode cX7_play 6 = .ok (.iadd, 1) := by decide +kernel
theorem dX7_play_7 : decode cX7_play 7 = .ok (.istore_n 3, 1) := by decide +kernel
theorem dX7_play_8 : decode cX7_play 8 = .ok (.aload_n 0, 1) := by decide +kernel
theorem dX7_play_9 : decode cX7_play 9 = .ok (.iload_n 1, 1) := by decide +kernel
theorem dX7_play_10 : decode cX7_play 10 = .ok (.iconst 0, 1) := by decide +kernel
theorem dX7_play_11 : decode cX7_play 11 = .ok (.iload_n 2, 1) := by decide +kernel
theorem dX7_play_12 : decode cX7_play 12 = .ok (.invokevirtual 112, 3) := by decide +kernel
theorem dX7_play_15 : decode cX7_play 15 = .ok (.istore 4, 2) := by decide +kernel
theorem dX7_play_17 : decode cX7_play 17 = .ok (.aload_n 0, 1) := by decide +kernel
theorem dX7_play_18 : decode cX7_play 18 = .ok (.iload_n 1, 1) := by decide +kernel
theorem dX7_play_19 : decode cX7_play 19 = .ok (.iconst 1, 1) := by decide +kernel
theorem dX7_play_20 : decode cX7_play 20 = .ok (.iload_n 2, 1) := by decide +kernel
theorem dX7_play_21 : decode cX7_play 21 = .ok (.invokevirtual 112, 3) := by decide +kernel
theorem dX7_play_24 : decode cX7_play 24 = .ok (.istore 5, 2) := by decide +kernel
theorem dX7_play_26 : decode cX7_play 26 = .ok (.aload_n 0, 1) := by decide +kernel
theorem dX7_play_27 : decode cX7_play 27 = .ok (.getfield 40, 3) := by decide +kernel
theorem dX7_play_30 : decode cX7_play 30 = .ok (.sipush 1200, 3) := by decide +kernel
theorem dX7_play_33 : decode cX7_play 33 = .ok (.iload_n 1, 1) := by decide +kernel
theorem dX7_play_34 : decode cX7_play 34 = .ok (.imul, 1) := by decide +kernel
theorem dX7_play_35 : decode cX7_play 35 = .ok (.iload_n 2, 1) := by decide +kernel
theorem dX7_play_36 : decode cX7_play 36 = .ok (.iadd, 1) := by decide +kernel
theorem dX7_play_37 : decode cX7_play 37 = .ok (.iload 4, 2) := by decide +kernel
theorem dX7_play_39 : decode cX7_play 39 = .ok (.iastore, 1) := by decide +kernel
theorem dX7_play_40 : decode cX7_play 40 = .ok (.aload_n 0, 1) := by decide +kernel
theorem dX7_play_41 : decode cX7_play 41 = .ok (.getfield 40, 3) := by decide +kernel
theorem dX7_play_44 : decode cX7_play 44 = .ok (.sipush 1200, 3) := by decide +kernel
theorem dX7_play_47 : decode cX7_play 47 = .ok (.iload_n 1, 1) := by decide +kernel
theorem dX7_play_48 : decode cX7_play 48 = .ok (.imul, 1) := by decide +kernel
theorem dX7_play_49 : decode cX7_play 49 = .ok (.sipush 600, 3) := by decide +kernel
theorem dX7_play_52 : decode cX7_play 52 = .ok (.iadd, 1) := by decide +kernel
theorem dX7_play_53 : decode cX7_play 53 = .ok (.iload_n 2, 1) := by decide +kernel
theorem dX7_play_54 : decode cX7_play 54 = .ok (.iadd, 1) := by decide +kernel
theorem dX7_play_55 : decode cX7_play 55 = .ok (.iload 5, 2) := by decide +kernel
theorem dX7_play_57 : decode cX7_play 57 = .ok (.iastore, 1) := by decide +kernel
theorem dX7_play_58 : decode cX7_play 58 = .ok (.aload_n 0, 1) := by decide +kernel
theorem dX7_play_59 : decode cX7_play 59 = .ok (.aload_n 0, 1) := by decide +kernel
theorem dX7_play_60 : decode cX7_play 60 = .ok (.getfield 46, 3) := by decide +kernel
theorem dX7_play_63 : decode cX7_play 63 = .ok (.iload_n 3, 1) := by decide +kernel
theorem dX7_play_64 : decode cX7_play 64 = .ok (.faload, 1) := by decide +kernel
theorem dX7_play_65 : decode cX7_play 65 = .ok (.aload_n 0, 1) := by decide +kernel
theorem dX7_play_66 : decode cX7_play 66 = .ok (.getfield 49, 3) := by decide +kernel
theorem dX7_play_69 : decode cX7_play 69 = .ok (.iload_n 3, 1) := by decide +kernel
theorem dX7_play_70 : decode cX7_play 70 = .ok (.faload, 1) := by decide +kernel
theorem dX7_play_71 : decode cX7_play 71 = .ok (.iload 4, 2) := by decide +kernel
theorem dX7_play_73 : decode cX7_play 73 = .ok (.invokevirtual 116, 3) := by decide +kernel
theorem dX7_play_76 : decode cX7_play 76 = .ok (.aload_n 0, 1) := by decide +kernel
theorem dX7_play_77 : decode cX7_play 77 = .ok (.getfield 105, 3) := by decide +kernel
theorem dX7_play_80 : decode cX7_play 80 = .ok (.fstore 6, 2) := by decide +kernel
theorem dX7_play_82 : decode cX7_play 82 = .ok (.aload_n 0, 1) := by decide +kernel
theorem dX7_play_83 : decode cX7_play 83 = .ok (.getfield 109, 3) := by decide +kernel
theorem dX7_play_86 : decode cX7_play 86 = .ok (.fstore 7, 2) := by decide +kernel
theorem dX7_play_88 : decode cX7_play 88 = .ok (.aload_n 0, 1) := by decide +kernel
theorem dX7_play_89 : decode cX7_play 89 = .ok (.aload_n 0, 1) := by decide +kernel
theorem dX7_play_90 : decode cX7_play 90 = .ok (.getfield 52, 3) := by decide +kernel
theorem dX7_play_93 : decode cX7_play 93 = .ok (.iload_n 3, 1) := by decide +kernel
theorem dX7_play_94 : decode cX7_play 94 = .ok (.faload, 1) := by decide +kernel
theorem dX7_play_95 : decode cX7_play 95 = .ok (.aload_n 0, 1) := by decide +kernel
theorem dX7_play_96 : decode cX7_play 96 = .ok (.getfield 55, 3) := by decide +kernel
theorem dX7_play_99 : decode cX7_play 99 = .ok (.iload_n 3, 1) := by decide +kernel
theorem dX7_play_100 : decode cX7_play 100 = .ok (.faload, 1) := by decide +kernel
theorem dX7_play_101 : decode cX7_play 101 = .ok (.iload 5, 2) := by decide +kernel
theorem dX7_play_103 : decode cX7_play 103 = .ok (.invokevirtual 116, 3) := by decide +kernel
theorem dX7_play_106 : decode cX7_play 106 = .ok (.aload_n 0, 1) := by decide +kernel
theorem dX7_play_107 : decode cX7_play 107 = .ok (.getfield 105, 3) := by decide +kernel
theorem dX7_play_110 : decode cX7_play 110 = .ok (.fstore 8, 2) := by decide +kernel
theorem dX7_play_112 : decode cX7_play 112 = .ok (.aload_n 0, 1) := by decide +kernel
theorem dX7_play_113 : decode cX7_play 113 = .ok (.getfield 109, 3) := by decide +kernel
theorem dX7_play_116 : decode cX7_play 116 = .ok (.fstore 9, 2) := by decide +kernel
theorem dX7_play_118 : decode cX7_play 118 = .ok (.iconst 0, 1) := by decide +kernel
theorem dX7_play_119 : decode cX7_play 119 = .ok (.istore 10, 2) := by decide +kernel
theorem dX7_play_121 : decode cX7_play 121 = .ok (.fload 8, 2) := by decide +kernel
theorem dX7_play_123 : decode cX7_play 123 = .ok (.fload 6, 2) := by decide +kernel
theorem dX7_play_125 : decode cX7_play 125 = .ok (.fsub, 1) := by decide +kernel
theorem dX7_play_126 : decode cX7_play 126 = .ok (.fconst 1, 1) := by decide +kernel
theorem dX7_play_127 : decode cX7_play 127 = .ok (.fcmp .g, 1) := by decide +kernel
theorem dX7_play_128 : decode cX7_play 128 = .ok (.ifCond .ge 42, 3) := by decide +kernel
theorem dX7_play_131 : decode cX7_play 131 = .ok (.fload 7, 2) := by decide +kernel
theorem dX7_play_133 : decode cX7_play 133 = .ok (.fstore 11, 2) := by decide +kernel
theorem dX7_play_135 : decode cX7_play 135 = .ok (.fload 9, 2) := by decide +kernel
theorem dX7_play_137 : decode cX7_play 137 = .ok (.fstore 7, 2) := by decide +kernel
theorem dX7_play_139 : decode cX7_play 139 = .ok (.fload 11, 2) := by decide +kernel
theorem dX7_play_141 : decode cX7_play 141 = .ok (.fstore 9, 2) := by decide +kernel
theorem dX7_play_143 : decode cX7_play 143 = .ok (.fload 6, 2) := by decide +kernel
theorem dX7_play_145 : decode cX7_play 145 = .ok (.fload 8, 2) := by decide +kernel
theorem dX7_play_147 : decode cX7_play 147 = .ok (.fadd, 1) := by decide +kernel
theorem dX7_play_148 : decode cX7_play 148 = .ok (.ldc 102, 2) := by decide +kernel
theorem dX7_play_150 : decode cX7_play 150 = .ok (.fmul, 1) := by decide +kernel
theorem dX7_play_151 : decode cX7_play 151 = .ok (.fstore 12, 2) := by decide +kernel
theorem dX7_play_153 : decode cX7_play 153 = .ok (.fload 12, 2) := by decide +kernel
theorem dX7_play_155 : decode cX7_play 155 = .ok (.ldc 102, 2) := by decide +kernel
theorem dX7_play_157 : decode cX7_play 157 = .ok (.fsub, 1) := by decide +kernel
theorem dX7_play_158 : decode cX7_play 158 = .ok (.fstore 6, 2) := by decide +kernel
theorem dX7_play_160 : decode cX7_play 160 = .ok (.fload 12, 2) := by decide +kernel
theorem dX7_play_162 : decode cX7_play 162 = .ok (.ldc 102, 2) := by decide +kernel
theorem dX7_play_164 : decode cX7_play 164 = .ok (.fadd, 1) := by decide +kernel
theorem dX7_play_165 : decode cX7_play 165 = .ok (.fstore 8, 2) := by decide +kernel
theorem dX7_play_167 : decode cX7_play 167 = .ok (.iconst 1, 1) := by decide +kernel
theorem dX7_play_168 : decode cX7_play 168 = .ok (.istore 10, 2) := by decide +kernel
theorem dX7_play_170 : decode cX7_play 170 = .ok (.aload_n 0, 1) := by decide +kernel
theorem dX7_play_171 : decode cX7_play 171 = .ok (.getfield 46, 3) := by decide +kernel
theorem dX7_play_174 : decode cX7_play 174 = .ok (.iload_n 3, 1) := by decide +kernel
theorem dX7_play_175 : decode cX7_play 175 = .ok (.iconst 1, 1) := by decide +kernel
theorem dX7_play_176 : decode cX7_play 176 = .ok (.iadd, 1) := by decide +kernel
theorem dX7_play_177 : decode cX7_play 177 = .ok (.fload 6, 2) := by decide +kernel
theorem dX7_play_179 : decode cX7_play 179 = .ok (.fastore, 1) := by decide +kernel
theorem dX7_play_180 : decode cX7_play 180 = .ok (.aload_n 0, 1) := by decide +kernel
theorem dX7_play_181 : decode cX7_play 181 = .ok (.getfield 49, 3) := by decide +kernel
theorem dX7_play_184 : decode cX7_play 184 = .ok (.iload_n 3, 1) := by decide +kernel
theorem dX7_play_185 : decode cX7_play 185 = .ok (.iconst 1, 1) := by decide +kernel
theorem dX7_play_186 : decode cX7_play 186 = .ok (.iadd, 1) := by decide +kernel
theorem dX7_play_187 : decode cX7_play 187 = .ok (.fload 7, 2) := by decide +kernel
theorem dX7_play_189 : decode cX7_play 189 = .ok (.fastore, 1) := by decide +kernel
theorem dX7_play_190 : decode cX7_play 190 = .ok (.aload_n 0, 1) := by decide +kernel
theorem dX7_play_191 : decode cX7_play 191 = .ok (.getfield 52, 3) := by decide +kernel
theorem dX7_play_194 : decode cX7_play 194 = .ok (.iload_n 3, 1) := by decide +kernel
theorem dX7_play_195 : decode cX7_play 195 = .ok (.iconst 1, 1) := by decide +kernel
theorem dX7_play_196 : decode cX7_play 196 = .ok (.iadd, 1) := by decide +kernel
theorem dX7_play_197 : decode cX7_play 197 = .ok (.fload 8, 2) := by decide +kernel
theorem dX7_play_199 : decode cX7_play 199 = .ok (.fastore, 1) := by decide +kernel
theorem dX7_play_200 : decode cX7_play 200 = .ok (.aload_n 0, 1) := by decide +kernel
theorem dX7_play_201 : decode cX7_play 201 = .ok (.getfield 55, 3) := by decide +kernel
theorem dX7_play_204 : decode cX7_play 204 = .ok (.iload_n 3, 1) := by decide +kernel
theorem dX7_play_205 : decode cX7_play 205 = .ok (.iconst 1, 1) := by decide +kernel
theorem dX7_play_206 : decode cX7_play 206 = .ok (.iadd, 1) := by decide +kernel
theorem dX7_play_207 : decode cX7_play 207 = .ok (.fload 9, 2) := by decide +kernel
theorem dX7_play_209 : decode cX7_play 209 = .ok (.fastore, 1) := by decide +kernel
theorem dX7_play_210 : decode cX7_play 210 = .ok (.aload_n 0, 1) := by decide +kernel
theorem dX7_play_211 : decode cX7_play 211 = .ok (.getfield 58, 3) := by decide +kernel
theorem dX7_play_214 : decode cX7_play 214 = .ok (.iload_n 3, 1) := by decide +kernel
theorem dX7_play_215 : decode cX7_play 215 = .ok (.iconst 1, 1) := by decide +kernel
theorem dX7_play_216 : decode cX7_play 216 = .ok (.iadd, 1) := by decide +kernel
theorem dX7_play_217 : decode cX7_play 217 = .ok (.aload_n 0, 1) := by decide +kernel
theorem dX7_play_218 : decode cX7_play 218 = .ok (.getfield 58, 3) := by decide +kernel
theorem dX7_play_221 : decode cX7_play 221 = .ok (.iload_n 3, 1) := by decide +kernel
theorem dX7_play_222 : decode cX7_play 222 = .ok (.iaload, 1) := by decide +kernel
theorem dX7_play_223 : decode cX7_play 223 = .ok (.iload 10, 2) := by decide +kernel
theorem dX7_play_225 : decode cX7_play 225 = .ok (.iadd, 1) := by decide +kernel
theorem dX7_play_226 : decode cX7_play 226 = .ok (.iastore, 1) := by decide +kernel
theorem dX7_play_227 : decode cX7_play 227 = .ok (.fload 7, 2) := by decide +kernel
theorem dX7_play_229 : decode cX7_play 229 = .ok (.f2d, 1) := by decide +kernel
theorem dX7_play_230 : decode cX7_play 230 = .ok (.dstore 11, 2) := by decide +kernel
theorem dX7_play_232 : decode cX7_play 232 = .ok (.fload 9, 2) := by decide +kernel
theorem dX7_play_234 : decode cX7_play 234 = .ok (.f2d, 1) := by decide +kernel
theorem dX7_play_235 : decode cX7_play 235 = .ok (.dstore 13, 2) := by decide +kernel
theorem dX7_play_237 : decode cX7_play 237 = .ok (.aload_n 0, 1) := by decide +kernel
theorem dX7_play_238 : decode cX7_play 238 = .ok (.getfield 61, 3) := by decide +kernel
theorem dX7_play_241 : decode cX7_play 241 = .ok (.iload_n 3, 1) := by decide +kernel
theorem dX7_play_242 : decode cX7_play 242 = .ok (.iconst 1, 1) := by decide +kernel
theorem dX7_play_243 : decode cX7_play 243 = .ok (.iadd, 1) := by decide +kernel
theorem dX7_play_244 : decode cX7_play 244 = .ok (.aload_n 0, 1) := by decide +kernel
theorem dX7_play_245 : decode cX7_play 245 = .ok (.getfield 61, 3) := by decide +kernel
theorem dX7_play_248 : decode cX7_play 248 = .ok (.iload_n 3, 1) := by decide +kernel
theorem dX7_play_249 : decode cX7_play 249 = .ok (.daload, 1) := by decide +kernel
theorem dX7_play_250 : decode cX7_play 250 = .ok (.dload 11, 2) := by decide +kernel
theorem dX7_play_252 : decode cX7_play 252 = .ok (.dload 11, 2) := by decide +kernel
theorem dX7_play_254 : decode cX7_play 254 = .ok (.dmul, 1) := by decide +kernel
theorem dX7_play_255 : decode cX7_play 255 = .ok (.dload 13, 2) := by decide +kernel
theorem dX7_play_257 : decode cX7_play 257 = .ok (.dload 13, 2) := by decide +kernel
theorem dX7_play_259 : decode cX7_play 259 = .ok (.dmul, 1) := by decide +kernel
theorem dX7_play_260 : decode cX7_play 260 = .ok (.dadd, 1) := by decide +kernel
theorem dX7_play_261 : decode cX7_play 261 = .ok (.dadd, 1) := by decide +kernel
theorem dX7_play_262 : decode cX7_play 262 = .ok (.dastore, 1) := by decide +kernel
theorem dX7_play_263 : decode cX7_play 263 = .ok (.return_, 1) := by decide +kernel
set_option maxRecDepth 20000 in
theorem ggX7_again_X7_useOf : GoodIn wsX7_again wsX7_useOf := goodIn_r _ [7, 8, 9, 10, 33, 34, 35, 36, 37, 38, 39, 40, 41, 42, 43, 44, 45, 46, 47, 48, 49, 50, 51, 52, 53, 54, 55, 56, 57, 58, 59, 60, 61] (by decide +kernel) (by decide +kernel)
set_option maxRecDepth 20000 in
theorem gX7_again_X7_useOf : GoodIn wsX7_again (wsV RX7 112 RX7 yX7_useOf wsX7_useOf) := goodIn_app (goodIn_of _ (by decide +kernel)) ggX7_again_X7_useOf
set_option maxRecDepth 20000 in
theorem ggX7_again_X7_play : GoodIn wsX7_again wsX7_play := goodIn_r _ [14, 2, 15, 16, 17, 18, 19, 20, 21, 22, 23, 3, 4, 5, 6, 7, 8, 9, 10, 24, 25, 26, 27, 28, 29, 30, 31, 32, 33, 34, 35, 36, 37, 38, 39, 40, 41, 42, 43, 44, 45, 46, 47, 48, 49, 50, 51, 52, 53, 54, 55, 56, 57, 58, 59, 60, 61] (by decide +kernel) (by decide +kernel)
set_option maxRecDepth 20000 in
theorem gX7_again_X7_play : GoodIn wsX7_again (wsV RX7 120 RX7 yX7_play wsX7_play) := goodIn_app (goodIn_of _ (by decide +kernel)) ggX7_again_X7_play
theorem dX7_again_0 : decode cX7_again 0 = .ok (.iconst 1, 1) := by decide +kernel
theorem dX7_again_1 : decode cX7_again 1 = .ok (.iload_n 1, 1) := by decide +kernel
theorem dX7_again_2 : decode cX7_again 2 = .ok (.isub, 1) := by decide +kernel
theorem dX7_again_3 : decode cX7_again 3 = .ok (.istore_n 3, 1) := by decide +kernel
theorem dX7_again_4 : decode cX7_again 4 = .ok (.iload_n 2, 1) := by decide +kernel
theorem dX7_again_5 : decode cX7_again 5 = .ok (.istore 4, 2) := by decide +kernel
theorem dX7_again_7 : decode cX7_again 7 = .ok (.iload 4, 2) := by decide +kernel
theorem dX7_again_9 : decode cX7_again 9 = .ok (.aload_n 0, 1) := by decide +kernel
theorem dX7_again_10 : decode cX7_again 10 = .ok (.getfield 7, 3) := by decide +kernel
theorem dX7_again_13 : decode cX7_again 13 = .ok (.iload_n 1, 1) := by decide +kernel
theorem dX7_again_14 : decode cX7_again 14 = .ok (.iaload, 1) := by decide +kernel
theorem dX7_again_15 : decode cX7_again 15 = .ok (.if_icmp .ge 39, 3) := by decide +kernel
theorem dX7_again_18 : decode cX7_again 18 = .ok (.aload_n 0, 1) := by decide +kernel
theorem dX7_again_19 : decode cX7_again 19 = .ok (.getfield 40, 3) := by decide +kernel
theorem dX7_again_22 : decode cX7_again 22 = .ok (.sipush 1200, 3) := by decide +kernel
theorem dX7_again_25 : decode cX7_again 25 = .ok (.iload_n 1, 1) := by decide +kernel
theorem dX7_again_26 : decode cX7_again 26 = .ok (.imul, 1) := by decide +kernel
theorem dX7_again_27 : decode cX7_again 27 = .ok (.sipush 600, 3) := by decide +kernel
theorem dX7_again_30 : decode cX7_again 30 = .ok (.iload_n 3, 1) := by decide +kernel
theorem dX7_again_31 : decode cX7_again 31 = .ok (.imul, 1) := by decide +kernel
theorem dX7_again_32 : decode cX7_again 32 = .ok (.iadd, 1) := by decide +kernel
theorem dX7_again_33 : decode cX7_again 33 = .ok (.iload 4, 2) := by decide +kernel
theorem dX7_again_35 : decode cX7_again 35 = .ok (.iadd, 1) := by decide +kernel
theorem dX7_again_36 : decode cX7_again 36 = .ok (.iaload, 1) := by decide +kernel
theorem dX7_again_37 : decode cX7_again 37 = .ok (.aload_n 0, 1) := by decide +kernel
theorem dX7_again_38 : decode cX7_again 38 = .ok (.iload_n 1, 1) := by decide +kernel
theorem dX7_again_39 : decode cX7_again 39 = .ok (.iload_n 3, 1) := by decide +kernel
theorem dX7_again_40 : decode cX7_again 40 = .ok (.iload 4, 2) := by decide +kernel
theorem dX7_again_42 : decode cX7_again 42 = .ok (.invokevirtual 112, 3) := by decide +kernel
theorem dX7_again_45 : decode cX7_again 45 = .ok (.if_icmp .ne 9, 3) := by decide +kernel
theorem dX7_again_48 : decode cX7_again 48 = .ok (.iinc 4 1, 3) := by decide +kernel
theorem dX7_again_51 : decode cX7_again 51 = .ok (.goto (-44), 3) := by decide +kernel
theorem dX7_again_54 : decode cX7_again 54 = .ok (.aload_n 0, 1) := by decide +kernel
theorem dX7_again_55 : decode cX7_again 55 = .ok (.getfield 7, 3) := by decide +kernel
theorem dX7_again_58 : decode cX7_again 58 = .ok (.iload_n 1, 1) := by decide +kernel
theorem dX7_again_59 : decode cX7_again 59 = .ok (.iaload, 1) := by decide +kernel
theorem dX7_again_60 : decode cX7_again 60 = .ok (.iload 4, 2) := by decide +kernel
theorem dX7_again_62 : decode cX7_again 62 = .ok (.isub, 1) := by decide +kernel
theorem dX7_again_63 : decode cX7_again 63 = .ok (.istore 5, 2) := by decide +kernel
theorem dX7_again_65 : decode cX7_again 65 = .ok (.iload 4, 2) := by decide +kernel
theorem dX7_again_67 : decode cX7_again 67 = .ok (.istore 6, 2) := by decide +kernel
theorem dX7_again_69 : decode cX7_again 69 = .ok (.iload 6, 2) := by decide +kernel
theorem dX7_again_71 : decode cX7_again 71 = .ok (.aload_n 0, 1) := by decide +kernel
theorem dX7_again_72 : decode cX7_again 72 = .ok (.getfield 7, 3) := by decide +kernel
theorem dX7_again_75 : decode cX7_again 75 = .ok (.iload_n 1, 1) := by decide +kernel
theorem dX7_again_76 : decode cX7_again 76 = .ok (.iaload, 1) := by decide +kernel
theorem dX7_again_77 : decode cX7_again 77 = .ok (.if_icmp .ge 16, 3) := by decide +kernel
theorem dX7_again_80 : decode cX7_again 80 = .ok (.aload_n 0, 1) := by decide +kernel
theorem dX7_again_81 : decode cX7_again 81 = .ok (.iload_n 1, 1) := by decide +kernel
theorem dX7_again_82 : decode cX7_again 82 = .ok (.iload 6, 2) := by decide +kernel
theorem dX7_again_84 : decode cX7_again 84 = .ok (.invokevirtual 120, 3) := by decide +kernel
theorem dX7_again_87 : decode cX7_again 87 = .ok (.iinc 6 1, 3) := by decide +kernel
theorem dX7_again_90 : decode cX7_again 90 = .ok (.goto (-21), 3) := by decide +kernel
theorem dX7_again_93 : decode cX7_again 93 = .ok (.iload 5, 2) := by decide +kernel
theorem dX7_again_95 : decode cX7_again 95 = .ok (.ifCond .le 8, 3) := by decide +kernel
theorem dX7_again_98 : decode cX7_again 98 = .ok (.iload 5, 2) := by decide +kernel
theorem dX7_again_100 : decode cX7_again 100 = .ok (.goto 4, 3) := by decide +kernel
theorem dX7_again_103 : decode cX7_again 103 = .ok (.iconst 0, 1) := by decide +kernel
theorem dX7_again_104 : decode cX7_again 104 = .ok (.ireturn, 1) := by decide +kernel
