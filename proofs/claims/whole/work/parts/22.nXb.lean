set_option maxRecDepth 20000 in
theorem ggX2_carry_X1_use : GoodIn wsX2_carry wsX1_use := goodIn_r _ [13, 14, 15, 16, 24, 25, 26] (by decide +kernel) (by decide +kernel)
set_option maxRecDepth 20000 in
theorem gX2_carry_X1_use : GoodIn wsX2_carry (wsV RX2 31 RX1 yX1_use wsX1_use) := goodIn_app (goodIn_of _ (by decide +kernel)) ggX2_carry_X1_use
theorem dX2_carry_0 : decode cX2_carry 0 = .ok (.aload_n 0, 1) := by decide +kernel
theorem dX2_carry_1 : decode cX2_carry 1 = .ok (.iload_n 2, 1) := by decide +kernel
theorem dX2_carry_2 : decode cX2_carry 2 = .ok (.putfield 9, 3) := by decide +kernel
theorem dX2_carry_5 : decode cX2_carry 5 = .ok (.aload_n 0, 1) := by decide +kernel
theorem dX2_carry_6 : decode cX2_carry 6 = .ok (.bipush 16, 2) := by decide +kernel
theorem dX2_carry_8 : decode cX2_carry 8 = .ok (.aload_n 1, 1) := by decide +kernel
theorem dX2_carry_9 : decode cX2_carry 9 = .ok (.getfield 15, 3) := by decide +kernel
theorem dX2_carry_12 : decode cX2_carry 12 = .ok (.iload_n 2, 1) := by decide +kernel
theorem dX2_carry_13 : decode cX2_carry 13 = .ok (.isub, 1) := by decide +kernel
theorem dX2_carry_14 : decode cX2_carry 14 = .ok (.invokestatic 20, 3) := by decide +kernel
theorem dX2_carry_17 : decode cX2_carry 17 = .ok (.putfield 26, 3) := by decide +kernel
theorem dX2_carry_20 : decode cX2_carry 20 = .ok (.aload_n 0, 1) := by decide +kernel
theorem dX2_carry_21 : decode cX2_carry 21 = .ok (.lconst 0, 1) := by decide +kernel
theorem dX2_carry_22 : decode cX2_carry 22 = .ok (.putfield 27, 3) := by decide +kernel
theorem dX2_carry_25 : decode cX2_carry 25 = .ok (.iconst 0, 1) := by decide +kernel
theorem dX2_carry_26 : decode cX2_carry 26 = .ok (.istore_n 3, 1) := by decide +kernel
theorem dX2_carry_27 : decode cX2_carry 27 = .ok (.iload_n 3, 1) := by decide +kernel
theorem dX2_carry_28 : decode cX2_carry 28 = .ok (.aload_n 0, 1) := by decide +kernel
theorem dX2_carry_29 : decode cX2_carry 29 = .ok (.getfield 26, 3) := by decide +kernel
theorem dX2_carry_32 : decode cX2_carry 32 = .ok (.if_icmp .ge 30, 3) := by decide +kernel
theorem dX2_carry_35 : decode cX2_carry 35 = .ok (.aload_n 0, 1) := by decide +kernel
theorem dX2_carry_36 : decode cX2_carry 36 = .ok (.dup, 1) := by decide +kernel
theorem dX2_carry_37 : decode cX2_carry 37 = .ok (.getfield 27, 3) := by decide +kernel
theorem dX2_carry_40 : decode cX2_carry 40 = .ok (.aload_n 1, 1) := by decide +kernel
theorem dX2_carry_41 : decode cX2_carry 41 = .ok (.iload_n 2, 1) := by decide +kernel
theorem dX2_carry_42 : decode cX2_carry 42 = .ok (.iload_n 3, 1) := by decide +kernel
theorem dX2_carry_43 : decode cX2_carry 43 = .ok (.iadd, 1) := by decide +kernel
theorem dX2_carry_44 : decode cX2_carry 44 = .ok (.invokevirtual 31, 3) := by decide +kernel
theorem dX2_carry_47 : decode cX2_carry 47 = .ok (.i2l, 1) := by decide +kernel
theorem dX2_carry_48 : decode cX2_carry 48 = .ok (.iconst 3, 1) := by decide +kernel
theorem dX2_carry_49 : decode cX2_carry 49 = .ok (.iload_n 3, 1) := by decide +kernel
theorem dX2_carry_50 : decode cX2_carry 50 = .ok (.imul, 1) := by decide +kernel
theorem dX2_carry_51 : decode cX2_carry 51 = .ok (.lshl, 1) := by decide +kernel
theorem dX2_carry_52 : decode cX2_carry 52 = .ok (.lor, 1) := by decide +kernel
theorem dX2_carry_53 : decode cX2_carry 53 = .ok (.putfield 27, 3) := by decide +kernel
theorem dX2_carry_56 : decode cX2_carry 56 = .ok (.iinc 3 1, 3) := by decide +kernel
theorem dX2_carry_59 : decode cX2_carry 59 = .ok (.goto (-32), 3) := by decide +kernel
theorem dX2_carry_62 : decode cX2_carry 62 = .ok (.return_, 1) := by decide +kernel
theorem dX2_input_0 : decode cX2_input 0 = .ok (.aload_n 0, 1) := by decide +kernel
theorem dX2_input_1 : decode cX2_input 1 = .ok (.getfield 27, 3) := by decide +kernel
theorem dX2_input_4 : decode cX2_input 4 = .ok (.iconst 3, 1) := by decide +kernel
theorem dX2_input_5 : decode cX2_input 5 = .ok (.iload_n 1, 1) := by decide +kernel
theorem dX2_input_6 : decode cX2_input 6 = .ok (.imul, 1) := by decide +kernel
theorem dX2_input_7 : decode cX2_input 7 = .ok (.lushr, 1) := by decide +kernel
theorem dX2_input_8 : decode cX2_input 8 = .ok (.l2i, 1) := by decide +kernel
theorem dX2_input_9 : decode cX2_input 9 = .ok (.bipush 7, 2) := by decide +kernel
theorem dX2_input_11 : decode cX2_input 11 = .ok (.iand, 1) := by decide +kernel
theorem dX2_input_12 : decode cX2_input 12 = .ok (.ireturn, 1) := by decide +kernel
theorem dX2_rightCheck_0 : decode cX2_rightCheck 0 = .ok (.bipush 23, 2) := by decide +kernel
theorem dX2_rightCheck_2 : decode cX2_rightCheck 2 = .ok (.istore_n 1, 1) := by decide +kernel
theorem dX2_rightCheck_3 : decode cX2_rightCheck 3 = .ok (.iload_n 1, 1) := by decide +kernel
theorem dX2_rightCheck_4 : decode cX2_rightCheck 4 = .ok (.bipush 37, 2) := by decide +kernel
theorem dX2_rightCheck_6 : decode cX2_rightCheck 6 = .ok (.imul, 1) := by decide +kernel
theorem dX2_rightCheck_7 : decode cX2_rightCheck 7 = .ok (.aload_n 0, 1) := by decide +kernel
theorem dX2_rightCheck_8 : decode cX2_rightCheck 8 = .ok (.getfield 35, 3) := by decide +kernel
theorem dX2_rightCheck_11 : decode cX2_rightCheck 11 = .ok (.iadd, 1) := by decide +kernel
theorem dX2_rightCheck_12 : decode cX2_rightCheck 12 = .ok (.istore_n 1, 1) := by decide +kernel
theorem dX2_rightCheck_13 : decode cX2_rightCheck 13 = .ok (.iload_n 1, 1) := by decide +kernel
theorem dX2_rightCheck_14 : decode cX2_rightCheck 14 = .ok (.bipush 37, 2) := by decide +kernel
theorem dX2_rightCheck_16 : decode cX2_rightCheck 16 = .ok (.imul, 1) := by decide +kernel
theorem dX2_rightCheck_17 : decode cX2_rightCheck 17 = .ok (.aload_n 0, 1) := by decide +kernel
theorem dX2_rightCheck_18 : decode cX2_rightCheck 18 = .ok (.getfield 39, 3) := by decide +kernel
theorem dX2_rightCheck_21 : decode cX2_rightCheck 21 = .ok (.iadd, 1) := by decide +kernel
theorem dX2_rightCheck_22 : decode cX2_rightCheck 22 = .ok (.istore_n 1, 1) := by decide +kernel
theorem dX2_rightCheck_23 : decode cX2_rightCheck 23 = .ok (.iload_n 1, 1) := by decide +kernel
theorem dX2_rightCheck_24 : decode cX2_rightCheck 24 = .ok (.bipush 37, 2) := by decide +kernel
theorem dX2_rightCheck_26 : decode cX2_rightCheck 26 = .ok (.imul, 1) := by decide +kernel
theorem dX2_rightCheck_27 : decode cX2_rightCheck 27 = .ok (.aload_n 0, 1) := by decide +kernel
theorem dX2_rightCheck_28 : decode cX2_rightCheck 28 = .ok (.getfield 42, 3) := by decide +kernel
theorem dX2_rightCheck_31 : decode cX2_rightCheck 31 = .ok (.iadd, 1) := by decide +kernel
theorem dX2_rightCheck_32 : decode cX2_rightCheck 32 = .ok (.istore_n 1, 1) := by decide +kernel
theorem dX2_rightCheck_33 : decode cX2_rightCheck 33 = .ok (.iload_n 1, 1) := by decide +kernel
theorem dX2_rightCheck_34 : decode cX2_rightCheck 34 = .ok (.bipush 37, 2) := by decide +kernel
theorem dX2_rightCheck_36 : decode cX2_rightCheck 36 = .ok (.imul, 1) := by decide +kernel
theorem dX2_rightCheck_37 : decode cX2_rightCheck 37 = .ok (.aload_n 0, 1) := by decide +kernel
theorem dX2_rightCheck_38 : decode cX2_rightCheck 38 = .ok (.getfield 9, 3) := by decide +kernel
theorem dX2_rightCheck_41 : decode cX2_rightCheck 41 = .ok (.iadd, 1) := by decide +kernel
theorem dX2_rightCheck_42 : decode cX2_rightCheck 42 = .ok (.istore_n 1, 1) := by decide +kernel
theorem dX2_rightCheck_43 : decode cX2_rightCheck 43 = .ok (.iload_n 1, 1) := by decide +kernel
theorem dX2_rightCheck_44 : decode cX2_rightCheck 44 = .ok (.bipush 37, 2) := by decide +kernel
theorem dX2_rightCheck_46 : decode cX2_rightCheck 46 = .ok (.imul, 1) := by decide +kernel
theorem dX2_rightCheck_47 : decode cX2_rightCheck 47 = .ok (.aload_n 0, 1) := by decide +kernel
theorem dX2_rightCheck_48 : decode cX2_rightCheck 48 = .ok (.getfield 26, 3) := by decide +kernel
theorem dX2_rightCheck_51 : decode cX2_rightCheck 51 = .ok (.iadd, 1) := by decide +kernel
theorem dX2_rightCheck_52 : decode cX2_rightCheck 52 = .ok (.istore_n 1, 1) := by decide +kernel
theorem dX2_rightCheck_53 : decode cX2_rightCheck 53 = .ok (.iload_n 1, 1) := by decide +kernel
theorem dX2_rightCheck_54 : decode cX2_rightCheck 54 = .ok (.bipush 37, 2) := by decide +kernel
theorem dX2_rightCheck_56 : decode cX2_rightCheck 56 = .ok (.imul, 1) := by decide +kernel
theorem dX2_rightCheck_57 : decode cX2_rightCheck 57 = .ok (.aload_n 0, 1) := by decide +kernel
theorem dX2_rightCheck_58 : decode cX2_rightCheck 58 = .ok (.getfield 27, 3) := by decide +kernel
theorem dX2_rightCheck_61 : decode cX2_rightCheck 61 = .ok (.l2i, 1) := by decide +kernel
theorem dX2_rightCheck_62 : decode cX2_rightCheck 62 = .ok (.iadd, 1) := by decide +kernel
theorem dX2_rightCheck_63 : decode cX2_rightCheck 63 = .ok (.istore_n 1, 1) := by decide +kernel
theorem dX2_rightCheck_64 : decode cX2_rightCheck 64 = .ok (.iload_n 1, 1) := by decide +kernel
theorem dX2_rightCheck_65 : decode cX2_rightCheck 65 = .ok (.bipush 37, 2) := by decide +kernel
theorem dX2_rightCheck_67 : decode cX2_rightCheck 67 = .ok (.imul, 1) := by decide +kernel
theorem dX2_rightCheck_68 : decode cX2_rightCheck 68 = .ok (.aload_n 0, 1) := by decide +kernel
theorem dX2_rightCheck_69 : decode cX2_rightCheck 69 = .ok (.getfield 27, 3) := by decide +kernel
theorem dX2_rightCheck_72 : decode cX2_rightCheck 72 = .ok (.bipush 32, 2) := by decide +kernel
theorem dX2_rightCheck_74 : decode cX2_rightCheck 74 = .ok (.lushr, 1) := by decide +kernel
theorem dX2_rightCheck_75 : decode cX2_rightCheck 75 = .ok (.l2i, 1) := by decide +kernel
theorem dX2_rightCheck_76 : decode cX2_rightCheck 76 = .ok (.iadd, 1) := by decide +kernel
theorem dX2_rightCheck_77 : decode cX2_rightCheck 77 = .ok (.ireturn, 1) := by decide +kernel
theorem dX2_copyOf_0 : decode cX2_copyOf 0 = .ok (.aload_n 0, 1) := by decide +kernel
theorem dX2_copyOf_1 : decode cX2_copyOf 1 = .ok (.aload_n 1, 1) := by decide +kernel
theorem dX2_copyOf_2 : decode cX2_copyOf 2 = .ok (.getfield 35, 3) := by decide +kernel
theorem dX2_copyOf_5 : decode cX2_copyOf 5 = .ok (.putfield 35, 3) := by decide +kernel
theorem dX2_copyOf_8 : decode cX2_copyOf 8 = .ok (.aload_n 0, 1) := by decide +kernel
theorem dX2_copyOf_9 : decode cX2_copyOf 9 = .ok (.aload_n 1, 1) := by decide +kernel
theorem dX2_copyOf_10 : decode cX2_copyOf 10 = .ok (.getfield 39, 3) := by decide +kernel
theorem dX2_copyOf_13 : decode cX2_copyOf 13 = .ok (.putfield 39, 3) := by decide +kernel
theorem dX2_copyOf_16 : decode cX2_copyOf 16 = .ok (.aload_n 0, 1) := by decide +kernel
theorem dX2_copyOf_17 : decode cX2_copyOf 17 = .ok (.aload_n 1, 1) := by decide +kernel
theorem dX2_copyOf_18 : decode cX2_copyOf 18 = .ok (.getfield 42, 3) := by decide +kernel
theorem dX2_copyOf_21 : decode cX2_copyOf 21 = .ok (.putfield 42, 3) := by decide +kernel
theorem dX2_copyOf_24 : decode cX2_copyOf 24 = .ok (.aload_n 0, 1) := by decide +kernel
theorem dX2_copyOf_25 : decode cX2_copyOf 25 = .ok (.aload_n 1, 1) := by decide +kernel
theorem dX2_copyOf_26 : decode cX2_copyOf 26 = .ok (.getfield 9, 3) := by decide +kernel
theorem dX2_copyOf_29 : decode cX2_copyOf 29 = .ok (.putfield 9, 3) := by decide +kernel
theorem dX2_copyOf_32 : decode cX2_copyOf 32 = .ok (.aload_n 0, 1) := by decide +kernel
theorem dX2_copyOf_33 : decode cX2_copyOf 33 = .ok (.aload_n 1, 1) := by decide +kernel
theorem dX2_copyOf_34 : decode cX2_copyOf 34 = .ok (.getfield 26, 3) := by decide +kernel
theorem dX2_copyOf_37 : decode cX2_copyOf 37 = .ok (.putfield 26, 3) := by decide +kernel
theorem dX2_copyOf_40 : decode cX2_copyOf 40 = .ok (.aload_n 0, 1) := by decide +kernel
theorem dX2_copyOf_41 : decode cX2_copyOf 41 = .ok (.aload_n 1, 1) := by decide +kernel
theorem dX2_copyOf_42 : decode cX2_copyOf 42 = .ok (.getfield 27, 3) := by decide +kernel
theorem dX2_copyOf_45 : decode cX2_copyOf 45 = .ok (.putfield 27, 3) := by decide +kernel
theorem dX2_copyOf_48 : decode cX2_copyOf 48 = .ok (.aload_n 0, 1) := by decide +kernel
theorem dX2_copyOf_49 : decode cX2_copyOf 49 = .ok (.aload_n 1, 1) := by decide +kernel
theorem dX2_copyOf_50 : decode cX2_copyOf 50 = .ok (.getfield 45, 3) := by decide +kernel
theorem dX2_copyOf_53 : decode cX2_copyOf 53 = .ok (.putfield 45, 3) := by decide +kernel
theorem dX2_copyOf_56 : decode cX2_copyOf 56 = .ok (.return_, 1) := by decide +kernel
theorem dX2_flip_0 : decode cX2_flip 0 = .ok (.iload_n 1, 1) := by decide +kernel
theorem dX2_flip_1 : decode cX2_flip 1 = .ok (.tableswitch 133 0 6 #[43, 56, 68, 80, 92, 104, 121], 43) := by decide +kernel
theorem dX2_flip_44 : decode cX2_flip 44 = .ok (.aload_n 0, 1) := by decide +kernel
theorem dX2_flip_45 : decode cX2_flip 45 = .ok (.aload_n 0, 1) := by decide +kernel
theorem dX2_flip_46 : decode cX2_flip 46 = .ok (.getfield 35, 3) := by decide +kernel
theorem dX2_flip_49 : decode cX2_flip 49 = .ok (.iload_n 2, 1) := by decide +kernel
theorem dX2_flip_50 : decode cX2_flip 50 = .ok (.ixor, 1) := by decide +kernel
theorem dX2_flip_51 : decode cX2_flip 51 = .ok (.i2s, 1) := by decide +kernel
theorem dX2_flip_52 : decode cX2_flip 52 = .ok (.putfield 35, 3) := by decide +kernel
theorem dX2_flip_55 : decode cX2_flip 55 = .ok (.iconst 1, 1) := by decide +kernel
theorem dX2_flip_56 : decode cX2_flip 56 = .ok (.ireturn, 1) := by decide +kernel
theorem dX2_flip_57 : decode cX2_flip 57 = .ok (.aload_n 0, 1) := by decide +kernel
theorem dX2_flip_58 : decode cX2_flip 58 = .ok (.dup, 1) := by decide +kernel
theorem dX2_flip_59 : decode cX2_flip 59 = .ok (.getfield 39, 3) := by decide +kernel
theorem dX2_flip_62 : decode cX2_flip 62 = .ok (.iload_n 2, 1) := by decide +kernel
theorem dX2_flip_63 : decode cX2_flip 63 = .ok (.ixor, 1) := by decide +kernel
theorem dX2_flip_64 : decode cX2_flip 64 = .ok (.putfield 39, 3) := by decide +kernel
theorem dX2_flip_67 : decode cX2_flip 67 = .ok (.iconst 1, 1) := by decide +kernel
theorem dX2_flip_68 : decode cX2_flip 68 = .ok (.ireturn, 1) := by decide +kernel
theorem dX2_flip_69 : decode cX2_flip 69 = .ok (.aload_n 0, 1) := by decide +kernel
theorem dX2_flip_70 : decode cX2_flip 70 = .ok (.dup, 1) := by decide +kernel
theorem dX2_flip_71 : decode cX2_flip 71 = .ok (.getfield 42, 3) := by decide +kernel
theorem dX2_flip_74 : decode cX2_flip 74 = .ok (.iload_n 2, 1) := by decide +kernel
theorem dX2_flip_75 : decode cX2_flip 75 = .ok (.ixor, 1) := by decide +kernel
theorem dX2_flip_76 : decode cX2_flip 76 = .ok (.putfield 42, 3) := by decide +kernel
theorem dX2_flip_79 : decode cX2_flip 79 = .ok (.iconst 1, 1) := by decide +kernel
theorem dX2_flip_80 : decode cX2_flip 80 = .ok (.ireturn, 1) := by decide +kernel
theorem dX2_flip_81 : decode cX2_flip 81 = .ok (.aload_n 0, 1) := by decide +kernel
theorem dX2_flip_82 : decode cX2_flip 82 = .ok (.dup, 1) := by decide +kernel
theorem dX2_flip_83 : decode cX2_flip 83 = .ok (.getfield 9, 3) := by decide +kernel
theorem dX2_flip_86 : decode cX2_flip 86 = .ok (.iload_n 2, 1) := by decide +kernel
theorem dX2_flip_87 : decode cX2_flip 87 = .ok (.ixor, 1) := by decide +kernel
theorem dX2_flip_88 : decode cX2_flip 88 = .ok (.putfield 9, 3) := by decide +kernel
theorem dX2_flip_91 : decode cX2_flip 91 = .ok (.iconst 1, 1) := by decide +kernel
theorem dX2_flip_92 : decode cX2_flip 92 = .ok (.ireturn, 1) := by decide +kernel
theorem dX2_flip_93 : decode cX2_flip 93 = .ok (.aload_n 0, 1) := by decide +kernel
theorem dX2_flip_94 : decode cX2_flip 94 = .ok (.dup, 1) := by decide +kernel
theorem dX2_flip_95 : decode cX2_flip 95 = .ok (.getfield 26, 3) := by decide +kernel
theorem dX2_flip_98 : decode cX2_flip 98 = .ok (.iload_n 2, 1) := by decide +kernel
theorem dX2_flip_99 : decode cX2_flip 99 = .ok (.ixor, 1) := by decide +kernel
theorem dX2_flip_100 : decode cX2_flip 100 = .ok (.putfield 26, 3) := by decide +kernel
theorem dX2_flip_103 : decode cX2_flip 103 = .ok (.iconst 1, 1) := by decide +kernel
theorem dX2_flip_104 : decode cX2_flip 104 = .ok (.ireturn, 1) := by decide +kernel
theorem dX2_flip_105 : decode cX2_flip 105 = .ok (.aload_n 0, 1) := by decide +kernel
theorem dX2_flip_106 : decode cX2_flip 106 = .ok (.dup, 1) := by decide +kernel
theorem dX2_flip_107 : decode cX2_flip 107 = .ok (.getfield 27, 3) := by decide +kernel
theorem dX2_flip_110 : decode cX2_flip 110 = .ok (.iload_n 2, 1) := by decide +kernel
theorem dX2_flip_111 : decode cX2_flip 111 = .ok (.i2l, 1) := by decide +kernel
theorem dX2_flip_112 : decode cX2_flip 112 = .ok (.ldc2_w 48, 3) := by decide +kernel
theorem dX2_flip_115 : decode cX2_flip 115 = .ok (.land, 1) := by decide +kernel
theorem dX2_flip_116 : decode cX2_flip 116 = .ok (.lxor, 1) := by decide +kernel
theorem dX2_flip_117 : decode cX2_flip 117 = .ok (.putfield 27, 3) := by decide +kernel
theorem dX2_flip_120 : decode cX2_flip 120 = .ok (.iconst 1, 1) := by decide +kernel
theorem dX2_flip_121 : decode cX2_flip 121 = .ok (.ireturn, 1) := by decide +kernel
theorem dX2_flip_122 : decode cX2_flip 122 = .ok (.aload_n 0, 1) := by decide +kernel
theorem dX2_flip_123 : decode cX2_flip 123 = .ok (.dup, 1) := by decide +kernel
theorem dX2_flip_124 : decode cX2_flip 124 = .ok (.getfield 45, 3) := by decide +kernel
theorem dX2_flip_127 : decode cX2_flip 127 = .ok (.iload_n 2, 1) := by decide +kernel
theorem dX2_flip_128 : decode cX2_flip 128 = .ok (.ixor, 1) := by decide +kernel
theorem dX2_flip_129 : decode cX2_flip 129 = .ok (.putfield 45, 3) := by decide +kernel
theorem dX2_flip_132 : decode cX2_flip 132 = .ok (.iconst 1, 1) := by decide +kernel
theorem dX2_flip_133 : decode cX2_flip 133 = .ok (.ireturn, 1) := by decide +kernel
theorem dX2_flip_134 : decode cX2_flip 134 = .ok (.iconst 0, 1) := by decide +kernel
theorem dX2_flip_135 : decode cX2_flip 135 = .ok (.ireturn, 1) := by decide +kernel
theorem dX4_first_0 : decode cX4_first 0 = .ok (.aload_n 0, 1) := by decide +kernel
theorem dX4_first_1 : decode cX4_first 1 = .ok (.getfield 16, 3) := by decide +kernel
theorem dX4_first_4 : decode cX4_first 4 = .ok (.ifCond .ne 7, 3) := by decide +kernel
theorem dX4_first_7 : decode cX4_first 7 = .ok (.aconst_null, 1) := by decide +kernel
theorem dX4_first_8 : decode cX4_first 8 = .ok (.goto 9, 3) := by decide +kernel
theorem dX4_first_11 : decode cX4_first 11 = .ok (.aload_n 0, 1) := by decide +kernel
theorem dX4_first_12 : decode cX4_first 12 = .ok (.getfield 11, 3) := by decide +kernel
theorem dX4_first_15 : decode cX4_first 15 = .ok (.iconst 0, 1) := by decide +kernel
theorem dX4_first_16 : decode cX4_first 16 = .ok (.aaload, 1) := by decide +kernel
theorem dX4_first_17 : decode cX4_first 17 = .ok (.areturn, 1) := by decide +kernel
theorem dX4_addLast_0 : decode cX4_addLast 0 = .ok (.aload_n 0, 1) := by decide +kernel
theorem dX4_addLast_1 : decode cX4_addLast 1 = .ok (.getfield 16, 3) := by decide +kernel
theorem dX4_addLast_4 : decode cX4_addLast 4 = .ok (.bipush 12, 2) := by decide +kernel
theorem dX4_addLast_6 : decode cX4_addLast 6 = .ok (.if_icmp .ne 5, 3) := by decide +kernel
theorem dX4_addLast_9 : decode cX4_addLast 9 = .ok (.aconst_null, 1) := by decide +kernel
theorem dX4_addLast_10 : decode cX4_addLast 10 = .ok (.areturn, 1) := by decide +kernel
theorem dX4_addLast_11 : decode cX4_addLast 11 = .ok (.aload_n 0, 1) := by decide +kernel
theorem dX4_addLast_12 : decode cX4_addLast 12 = .ok (.dup, 1) := by decide +kernel
theorem dX4_addLast_13 : decode cX4_addLast 13 = .ok (.getfield 16, 3) := by decide +kernel
theorem dX4_addLast_16 : decode cX4_addLast 16 = .ok (.iconst 1, 1) := by decide +kernel
theorem dX4_addLast_17 : decode cX4_addLast 17 = .ok (.iadd, 1) := by decide +kernel
theorem dX4_addLast_18 : decode cX4_addLast 18 = .ok (.putfield 16, 3) := by decide +kernel
theorem dX4_addLast_21 : decode cX4_addLast 21 = .ok (.aload_n 0, 1) := by decide +kernel
theorem dX4_addLast_22 : decode cX4_addLast 22 = .ok (.getfield 11, 3) := by decide +kernel
theorem dX4_addLast_25 : decode cX4_addLast 25 = .ok (.aload_n 0, 1) := by decide +kernel
theorem dX4_addLast_26 : decode cX4_addLast 26 = .ok (.getfield 16, 3) := by decide +kernel
theorem dX4_addLast_29 : decode cX4_addLast 29 = .ok (.iconst 1, 1) := by decide +kernel
theorem dX4_addLast_30 : decode cX4_addLast 30 = .ok (.isub, 1) := by decide +kernel
theorem dX4_addLast_31 : decode cX4_addLast 31 = .ok (.aaload, 1) := by decide +kernel
theorem dX4_addLast_32 : decode cX4_addLast 32 = .ok (.areturn, 1) := by decide +kernel
set_option maxRecDepth 20000 in
theorem ggX4_takeFirst_X4_first : GoodIn wsX4_takeFirst wsX4_first := goodIn_r _ [6, 1, 7, 12, 13] (by decide +kernel) (by decide +kernel)
set_option maxRecDepth 20000 in
theorem gX4_takeFirst_X4_first : GoodIn wsX4_takeFirst (wsV RX4 20 RX4 yX4_first wsX4_first) := goodIn_app (goodIn_of _ (by decide +kernel)) ggX4_takeFirst_X4_first
set_option maxRecDepth 20000 in
theorem ggX4_takeFirst_X4_sendFirstToEnd : GoodIn wsX4_takeFirst wsX4_sendFirstToEnd := goodIn_r _ [11, 1, 7, 2, 3, 4, 5, 6, 12, 13] (by decide +kernel) (by decide +kernel)
set_option maxRecDepth 20000 in
theorem gX4_takeFirst_X4_sendFirstToEnd : GoodIn wsX4_takeFirst (wsV RX4 24 RX4 yX4_sendFirstToEnd wsX4_sendFirstToEnd) := goodIn_app (goodIn_of _ (by decide +kernel)) ggX4_takeFirst_X4_sendFirstToEnd
theorem dX4_takeFirst_0 : decode cX4_takeFirst 0 = .ok (.aload_n 0, 1) := by decide +kernel
theorem dX4_takeFirst_1 : decode cX4_takeFirst 1 = .ok (.invokevirtual 20, 3) := by decide +kernel
theorem dX4_takeFirst_4 : decode cX4_takeFirst 4 = .ok (.astore_n 1, 1) := by decide +kernel
theorem dX4_takeFirst_5 : decode cX4_takeFirst 5 = .ok (.aload_n 0, 1) := by decide +kernel
theorem dX4_takeFirst_6 : decode cX4_takeFirst 6 = .ok (.invokevirtual 24, 3) := by decide +kernel
theorem dX4_takeFirst_9 : decode cX4_takeFirst 9 = .ok (.ifCond .eq 13, 3) := by decide +kernel
theorem dX4_takeFirst_12 : decode cX4_takeFirst 12 = .ok (.aload_n 0, 1) := by decide +kernel
theorem dX4_takeFirst_13 : decode cX4_takeFirst 13 = .ok (.dup, 1) := by decide +kernel
theorem dX4_takeFirst_14 : decode cX4_takeFirst 14 = .ok (.getfield 16, 3) := by decide +kernel
theorem dX4_takeFirst_17 : decode cX4_takeFirst 17 = .ok (.iconst 1, 1) := by decide +kernel
theorem dX4_takeFirst_18 : decode cX4_takeFirst 18 = .ok (.isub, 1) := by decide +kernel
theorem dX4_takeFirst_19 : decode cX4_takeFirst 19 = .ok (.putfield 16, 3) := by decide +kernel
theorem dX4_takeFirst_22 : decode cX4_takeFirst 22 = .ok (.aload_n 1, 1) := by decide +kernel
theorem dX4_takeFirst_23 : decode cX4_takeFirst 23 = .ok (.areturn, 1) := by decide +kernel
set_option maxRecDepth 20000 in
theorem ggX4_doubleFirst_X4_first : GoodIn wsX4_doubleFirst wsX4_first := goodIn_r _ [5, 6, 7, 24, 25] (by decide +kernel) (by decide +kernel)
set_option maxRecDepth 20000 in
theorem gX4_doubleFirst_X4_first : GoodIn wsX4_doubleFirst (wsV RX4 20 RX4 yX4_first wsX4_first) := goodIn_app (goodIn_of _ (by decide +kernel)) ggX4_doubleFirst_X4_first
set_option maxRecDepth 20000 in
theorem ggX4_doubleFirst_X4_addLast : GoodIn wsX4_doubleFirst wsX4_addLast := goodIn_r _ [11, 6, 7, 24, 25] (by decide +kernel) (by decide +kernel)
set_option maxRecDepth 20000 in
theorem gX4_doubleFirst_X4_addLast : GoodIn wsX4_doubleFirst (wsV RX4 28 RX4 yX4_addLast wsX4_addLast) := goodIn_app (goodIn_of _ (by decide +kernel)) ggX4_doubleFirst_X4_addLast
set_option maxRecDepth 20000 in
theorem ggX4_doubleFirst_X2_copyOf : GoodIn wsX4_doubleFirst wsX2_copyOf := goodIn_r _ [16, 17, 18, 19, 20, 21, 22, 23, 26, 27, 28, 29, 30, 31, 32] (by decide +kernel) (by decide +kernel)
set_option maxRecDepth 20000 in
theorem gX4_doubleFirst_X2_copyOf : GoodIn wsX4_doubleFirst (wsV RX4 31 RX2 yX2_copyOf wsX2_copyOf) := goodIn_app (goodIn_of _ (by decide +kernel)) ggX4_doubleFirst_X2_copyOf
theorem dX4_doubleFirst_0 : decode cX4_doubleFirst 0 = .ok (.aload_n 0, 1) := by decide +kernel
theorem dX4_doubleFirst_1 : decode cX4_doubleFirst 1 = .ok (.invokevirtual 20, 3) := by decide +kernel
theorem dX4_doubleFirst_4 : decode cX4_doubleFirst 4 = .ok (.astore_n 1, 1) := by decide +kernel
theorem dX4_doubleFirst_5 : decode cX4_doubleFirst 5 = .ok (.aload_n 1, 1) := by decide +kernel
theorem dX4_doubleFirst_6 : decode cX4_doubleFirst 6 = .ok (.ifnonnull 5, 3) := by decide +kernel
theorem dX4_doubleFirst_9 : decode cX4_doubleFirst 9 = .ok (.iconst 0, 1) := by decide +kernel
theorem dX4_doubleFirst_10 : decode cX4_doubleFirst 10 = .ok (.ireturn, 1) := by decide +kernel
theorem dX4_doubleFirst_11 : decode cX4_doubleFirst 11 = .ok (.aload_n 0, 1) := by decide +kernel
theorem dX4_doubleFirst_12 : decode cX4_doubleFirst 12 = .ok (.invokevirtual 28, 3) := by decide +kernel
theorem dX4_doubleFirst_15 : decode cX4_doubleFirst 15 = .ok (.astore_n 2, 1) := by decide +kernel
theorem dX4_doubleFirst_16 : decode cX4_doubleFirst 16 = .ok (.aload_n 2, 1) := by decide +kernel
theorem dX4_doubleFirst_17 : decode cX4_doubleFirst 17 = .ok (.ifnonnull 5, 3) := by decide +kernel
theorem dX4_doubleFirst_20 : decode cX4_doubleFirst 20 = .ok (.iconst 0, 1) := by decide +kernel
theorem dX4_doubleFirst_21 : decode cX4_doubleFirst 21 = .ok (.ireturn, 1) := by decide +kernel
theorem dX4_doubleFirst_22 : decode cX4_doubleFirst 22 = .ok (.aload_n 2, 1) := by decide +kernel
theorem dX4_doubleFirst_23 : decode cX4_doubleFirst 23 = .ok (.aload_n 1, 1) := by decide +kernel
theorem dX4_doubleFirst_24 : decode cX4_doubleFirst 24 = .ok (.invokevirtual 31, 3) := by decide +kernel
theorem dX4_doubleFirst_27 : decode cX4_doubleFirst 27 = .ok (.iconst 1, 1) := by decide +kernel
theorem dX4_doubleFirst_28 : decode cX4_doubleFirst 28 = .ok (.ireturn, 1) := by decide +kernel
set_option maxRecDepth 20000 in
theorem ggX4_sendFirstToEnd_X4_first : GoodIn wsX4_sendFirstToEnd wsX4_first := goodIn_r _ [7, 1, 2, 8, 9] (by decide +kernel) (by decide +kernel)
set_option maxRecDepth 20000 in
theorem gX4_sendFirstToEnd_X4_first : GoodIn wsX4_sendFirstToEnd (wsV RX4 20 RX4 yX4_first wsX4_first) := goodIn_app (goodIn_of _ (by decide +kernel)) ggX4_sendFirstToEnd_X4_first
theorem dX4_sendFirstToEnd_0 : decode cX4_sendFirstToEnd 0 = .ok (.aload_n 0, 1) := by decide +kernel
theorem dX4_sendFirstToEnd_1 : decode cX4_sendFirstToEnd 1 = .ok (.invokevirtual 20, 3) := by decide +kernel
theorem dX4_sendFirstToEnd_4 : decode cX4_sendFirstToEnd 4 = .ok (.astore_n 1, 1) := by decide +kernel
theorem dX4_sendFirstToEnd_5 : decode cX4_sendFirstToEnd 5 = .ok (.aload_n 1, 1) := by decide +kernel
theorem dX4_sendFirstToEnd_6 : decode cX4_sendFirstToEnd 6 = .ok (.ifnonnull 5, 3) := by decide +kernel
theorem dX4_sendFirstToEnd_9 : decode cX4_sendFirstToEnd 9 = .ok (.iconst 0, 1) := by decide +kernel
theorem dX4_sendFirstToEnd_10 : decode cX4_sendFirstToEnd 10 = .ok (.ireturn, 1) := by decide +kernel
theorem dX4_sendFirstToEnd_11 : decode cX4_sendFirstToEnd 11 = .ok (.iconst 1, 1) := by decide +kernel
theorem dX4_sendFirstToEnd_12 : decode cX4_sendFirstToEnd 12 = .ok (.istore_n 2, 1) := by decide +kernel
theorem dX4_sendFirstToEnd_13 : decode cX4_sendFirstToEnd 13 = .ok (.iload_n 2, 1) := by decide +kernel
theorem dX4_sendFirstToEnd_14 : decode cX4_sendFirstToEnd 14 = .ok (.aload_n 0, 1) := by decide +kernel
theorem dX4_sendFirstToEnd_15 : decode cX4_sendFirstToEnd 15 = .ok (.getfield 16, 3) := by decide +kernel
theorem dX4_sendFirstToEnd_18 : decode cX4_sendFirstToEnd 18 = .ok (.if_icmp .ge 23, 3) := by decide +kernel
theorem dX4_sendFirstToEnd_21 : decode cX4_sendFirstToEnd 21 = .ok (.aload_n 0, 1) := by decide +kernel
theorem dX4_sendFirstToEnd_22 : decode cX4_sendFirstToEnd 22 = .ok (.getfield 11, 3) := by decide +kernel
theorem dX4_sendFirstToEnd_25 : decode cX4_sendFirstToEnd 25 = .ok (.iload_n 2, 1) := by decide +kernel
theorem dX4_sendFirstToEnd_26 : decode cX4_sendFirstToEnd 26 = .ok (.iconst 1, 1) := by decide +kernel
theorem dX4_sendFirstToEnd_27 : decode cX4_sendFirstToEnd 27 = .ok (.isub, 1) := by decide +kernel
theorem dX4_sendFirstToEnd_28 : decode cX4_sendFirstToEnd 28 = .ok (.aload_n 0, 1) := by decide +kernel
theorem dX4_sendFirstToEnd_29 : decode cX4_sendFirstToEnd 29 = .ok (.getfield 11, 3) := by decide +kernel
theorem dX4_sendFirstToEnd_32 : decode cX4_sendFirstToEnd 32 = .ok (.iload_n 2, 1) := by decide +kernel
theorem dX4_sendFirstToEnd_33 : decode cX4_sendFirstToEnd 33 = .ok (.aaload, 1) := by decide +kernel
theorem dX4_sendFirstToEnd_34 : decode cX4_sendFirstToEnd 34 = .ok (.aastore, 1) := by decide +kernel
theorem dX4_sendFirstToEnd_35 : decode cX4_sendFirstToEnd 35 = .ok (.iinc 2 1, 3) := by decide +kernel
theorem dX4_sendFirstToEnd_38 : decode cX4_sendFirstToEnd 38 = .ok (.goto (-25), 3) := by decide +kernel
theorem dX4_sendFirstToEnd_41 : decode cX4_sendFirstToEnd 41 = .ok (.aload_n 0, 1) := by decide +kernel
theorem dX4_sendFirstToEnd_42 : decode cX4_sendFirstToEnd 42 = .ok (.getfield 11, 3) := by decide +kernel
theorem dX4_sendFirstToEnd_45 : decode cX4_sendFirstToEnd 45 = .ok (.aload_n 0, 1) := by decide +kernel
theorem dX4_sendFirstToEnd_46 : decode cX4_sendFirstToEnd 46 = .ok (.getfield 16, 3) := by decide +kernel
theorem dX4_sendFirstToEnd_49 : decode cX4_sendFirstToEnd 49 = .ok (.iconst 1, 1) := by decide +kernel
theorem dX4_sendFirstToEnd_50 : decode cX4_sendFirstToEnd 50 = .ok (.isub, 1) := by decide +kernel
theorem dX4_sendFirstToEnd_51 : decode cX4_sendFirstToEnd 51 = .ok (.aload_n 1, 1) := by decide +kernel
theorem dX4_sendFirstToEnd_52 : decode cX4_sendFirstToEnd 52 = .ok (.aastore, 1) := by decide +kernel
theorem dX4_sendFirstToEnd_53 : decode cX4_sendFirstToEnd 53 = .ok (.iconst 1, 1) := by decide +kernel
theorem dX4_sendFirstToEnd_54 : decode cX4_sendFirstToEnd 54 = .ok (.ireturn, 1) := by decide +kernel
