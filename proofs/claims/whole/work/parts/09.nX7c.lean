set_option maxRecDepth 20000 in
theorem ggX7_alter_X7_isTwo : GoodIn wsX7_alter wsX7_isTwo := goodIn_r _ [5] (by decide +kernel) (by decide +kernel)
set_option maxRecDepth 20000 in
theorem gX7_alter_X7_isTwo : GoodIn wsX7_alter (va_wsS RX7 131 yX7_isTwo wsX7_isTwo) := goodIn_app (goodIn_of _ (by decide +kernel)) ggX7_alter_X7_isTwo
set_option maxRecDepth 20000 in
theorem ggX7_alter_X7_copy : GoodIn wsX7_alter wsX7_copy := goodIn_r _ [9, 10, 11, 12, 13, 14, 15, 16, 21, 22, 23, 24, 25, 26, 27, 28, 29, 30, 31, 32, 33, 34, 35, 36, 37, 38, 39, 40, 41, 42, 43, 44, 45, 46, 47, 48, 49] (by decide +kernel) (by decide +kernel)
set_option maxRecDepth 20000 in
theorem gX7_alter_X7_copy : GoodIn wsX7_alter (wsV RX7 128 RX7 yX7_copy wsX7_copy) := goodIn_app (goodIn_of _ (by decide +kernel)) ggX7_alter_X7_copy
set_option maxRecDepth 20000 in
theorem ggX7_alter_X7_take : GoodIn wsX7_alter wsX7_take := goodIn_r _ [20, 1, 6, 7, 8, 4, 9, 10, 11, 12, 13, 14, 15, 16, 21, 22, 23, 24, 25, 26, 27, 28, 29, 30, 31, 32, 33, 34, 35, 36, 37, 38, 39, 40, 41, 42, 43, 44, 45, 46, 47, 48, 49] (by decide +kernel) (by decide +kernel)
set_option maxRecDepth 20000 in
theorem gX7_alter_X7_take : GoodIn wsX7_alter (wsV RX7 143 RX7 yX7_take wsX7_take) := goodIn_app (goodIn_of _ (by decide +kernel)) ggX7_alter_X7_take
theorem dX7_alter_0 : decode cX7_alter 0 = .ok (.iload_n 1, 1) := by decide +kernel
theorem dX7_alter_1 : decode cX7_alter 1 = .ok (.invokestatic 131, 3) := by decide +kernel
theorem dX7_alter_4 : decode cX7_alter 4 = .ok (.ifCond .eq 37, 3) := by decide +kernel
theorem dX7_alter_7 : decode cX7_alter 7 = .ok (.iload_n 2, 1) := by decide +kernel
theorem dX7_alter_8 : decode cX7_alter 8 = .ok (.ifCond .lt 33, 3) := by decide +kernel
theorem dX7_alter_11 : decode cX7_alter 11 = .ok (.iload_n 2, 1) := by decide +kernel
theorem dX7_alter_12 : decode cX7_alter 12 = .ok (.iconst 2, 1) := by decide +kernel
theorem dX7_alter_13 : decode cX7_alter 13 = .ok (.if_icmp .gt 28, 3) := by decide +kernel
theorem dX7_alter_16 : decode cX7_alter 16 = .ok (.aload_n 0, 1) := by decide +kernel
theorem dX7_alter_17 : decode cX7_alter 17 = .ok (.getfield 65, 3) := by decide +kernel
theorem dX7_alter_20 : decode cX7_alter 20 = .ok (.iload_n 1, 1) := by decide +kernel
theorem dX7_alter_21 : decode cX7_alter 21 = .ok (.iaload, 1) := by decide +kernel
theorem dX7_alter_22 : decode cX7_alter 22 = .ok (.ifCond .eq 19, 3) := by decide +kernel
theorem dX7_alter_25 : decode cX7_alter 25 = .ok (.iload_n 2, 1) := by decide +kernel
theorem dX7_alter_26 : decode cX7_alter 26 = .ok (.iconst 1, 1) := by decide +kernel
theorem dX7_alter_27 : decode cX7_alter 27 = .ok (.if_icmp .ne 16, 3) := by decide +kernel
theorem dX7_alter_30 : decode cX7_alter 30 = .ok (.aload_n 0, 1) := by decide +kernel
theorem dX7_alter_31 : decode cX7_alter 31 = .ok (.getfield 65, 3) := by decide +kernel
theorem dX7_alter_34 : decode cX7_alter 34 = .ok (.iload_n 1, 1) := by decide +kernel
theorem dX7_alter_35 : decode cX7_alter 35 = .ok (.iaload, 1) := by decide +kernel
theorem dX7_alter_36 : decode cX7_alter 36 = .ok (.bipush 12, 2) := by decide +kernel
theorem dX7_alter_38 : decode cX7_alter 38 = .ok (.if_icmp .ne 5, 3) := by decide +kernel
theorem dX7_alter_41 : decode cX7_alter 41 = .ok (.iconst 0, 1) := by decide +kernel
theorem dX7_alter_42 : decode cX7_alter 42 = .ok (.ireturn, 1) := by decide +kernel
theorem dX7_alter_43 : decode cX7_alter 43 = .ok (.iload_n 2, 1) := by decide +kernel
theorem dX7_alter_44 : decode cX7_alter 44 = .ok (.iconst 1, 1) := by decide +kernel
theorem dX7_alter_45 : decode cX7_alter 45 = .ok (.if_icmp .ne 34, 3) := by decide +kernel
theorem dX7_alter_48 : decode cX7_alter 48 = .ok (.aload_n 0, 1) := by decide +kernel
theorem dX7_alter_49 : decode cX7_alter 49 = .ok (.bipush 12, 2) := by decide +kernel
theorem dX7_alter_51 : decode cX7_alter 51 = .ok (.iload_n 1, 1) := by decide +kernel
theorem dX7_alter_52 : decode cX7_alter 52 = .ok (.imul, 1) := by decide +kernel
theorem dX7_alter_53 : decode cX7_alter 53 = .ok (.bipush 12, 2) := by decide +kernel
theorem dX7_alter_55 : decode cX7_alter 55 = .ok (.iload_n 1, 1) := by decide +kernel
theorem dX7_alter_56 : decode cX7_alter 56 = .ok (.imul, 1) := by decide +kernel
theorem dX7_alter_57 : decode cX7_alter 57 = .ok (.aload_n 0, 1) := by decide +kernel
theorem dX7_alter_58 : decode cX7_alter 58 = .ok (.getfield 65, 3) := by decide +kernel
theorem dX7_alter_61 : decode cX7_alter 61 = .ok (.iload_n 1, 1) := by decide +kernel
theorem dX7_alter_62 : decode cX7_alter 62 = .ok (.iaload, 1) := by decide +kernel
theorem dX7_alter_63 : decode cX7_alter 63 = .ok (.iadd, 1) := by decide +kernel
theorem dX7_alter_64 : decode cX7_alter 64 = .ok (.invokevirtual 128, 3) := by decide +kernel
theorem dX7_alter_67 : decode cX7_alter 67 = .ok (.aload_n 0, 1) := by decide +kernel
theorem dX7_alter_68 : decode cX7_alter 68 = .ok (.getfield 65, 3) := by decide +kernel
theorem dX7_alter_71 : decode cX7_alter 71 = .ok (.iload_n 1, 1) := by decide +kernel
theorem dX7_alter_72 : decode cX7_alter 72 = .ok (.dup2, 1) := by decide +kernel
theorem dX7_alter_73 : decode cX7_alter 73 = .ok (.iaload, 1) := by decide +kernel
theorem dX7_alter_74 : decode cX7_alter 74 = .ok (.iconst 1, 1) := by decide +kernel
theorem dX7_alter_75 : decode cX7_alter 75 = .ok (.iadd, 1) := by decide +kernel
theorem dX7_alter_76 : decode cX7_alter 76 = .ok (.iastore, 1) := by decide +kernel
theorem dX7_alter_77 : decode cX7_alter 77 = .ok (.iconst 1, 1) := by decide +kernel
theorem dX7_alter_78 : decode cX7_alter 78 = .ok (.ireturn, 1) := by decide +kernel
theorem dX7_alter_79 : decode cX7_alter 79 = .ok (.aload_n 0, 1) := by decide +kernel
theorem dX7_alter_80 : decode cX7_alter 80 = .ok (.iload_n 1, 1) := by decide +kernel
theorem dX7_alter_81 : decode cX7_alter 81 = .ok (.invokevirtual 143, 3) := by decide +kernel
theorem dX7_alter_84 : decode cX7_alter 84 = .ok (.iload_n 2, 1) := by decide +kernel
theorem dX7_alter_85 : decode cX7_alter 85 = .ok (.iconst 2, 1) := by decide +kernel
theorem dX7_alter_86 : decode cX7_alter 86 = .ok (.if_icmp .ne 30, 3) := by decide +kernel
theorem dX7_alter_89 : decode cX7_alter 89 = .ok (.aload_n 0, 1) := by decide +kernel
theorem dX7_alter_90 : decode cX7_alter 90 = .ok (.bipush 24, 2) := by decide +kernel
theorem dX7_alter_92 : decode cX7_alter 92 = .ok (.bipush 12, 2) := by decide +kernel
theorem dX7_alter_94 : decode cX7_alter 94 = .ok (.iload_n 1, 1) := by decide +kernel
theorem dX7_alter_95 : decode cX7_alter 95 = .ok (.imul, 1) := by decide +kernel
theorem dX7_alter_96 : decode cX7_alter 96 = .ok (.aload_n 0, 1) := by decide +kernel
theorem dX7_alter_97 : decode cX7_alter 97 = .ok (.getfield 65, 3) := by decide +kernel
theorem dX7_alter_100 : decode cX7_alter 100 = .ok (.iload_n 1, 1) := by decide +kernel
theorem dX7_alter_101 : decode cX7_alter 101 = .ok (.iaload, 1) := by decide +kernel
theorem dX7_alter_102 : decode cX7_alter 102 = .ok (.iadd, 1) := by decide +kernel
theorem dX7_alter_103 : decode cX7_alter 103 = .ok (.invokevirtual 128, 3) := by decide +kernel
theorem dX7_alter_106 : decode cX7_alter 106 = .ok (.aload_n 0, 1) := by decide +kernel
theorem dX7_alter_107 : decode cX7_alter 107 = .ok (.getfield 65, 3) := by decide +kernel
theorem dX7_alter_110 : decode cX7_alter 110 = .ok (.iload_n 1, 1) := by decide +kernel
theorem dX7_alter_111 : decode cX7_alter 111 = .ok (.dup2, 1) := by decide +kernel
theorem dX7_alter_112 : decode cX7_alter 112 = .ok (.iaload, 1) := by decide +kernel
theorem dX7_alter_113 : decode cX7_alter 113 = .ok (.iconst 1, 1) := by decide +kernel
theorem dX7_alter_114 : decode cX7_alter 114 = .ok (.iadd, 1) := by decide +kernel
theorem dX7_alter_115 : decode cX7_alter 115 = .ok (.iastore, 1) := by decide +kernel
theorem dX7_alter_116 : decode cX7_alter 116 = .ok (.iconst 1, 1) := by decide +kernel
theorem dX7_alter_117 : decode cX7_alter 117 = .ok (.ireturn, 1) := by decide +kernel
set_option maxRecDepth 20000 in
theorem ggX7_spoil_X7_isTwo : GoodIn wsX7_spoil wsX7_isTwo := goodIn_r _ [13] (by decide +kernel) (by decide +kernel)
set_option maxRecDepth 20000 in
theorem gX7_spoil_X7_isTwo : GoodIn wsX7_spoil (va_wsS RX7 131 yX7_isTwo wsX7_isTwo) := goodIn_app (goodIn_of _ (by decide +kernel)) ggX7_spoil_X7_isTwo
theorem dX7_spoil_0 : decode cX7_spoil 0 = .ok (.iload_n 1, 1) := by decide +kernel
theorem dX7_spoil_1 : decode cX7_spoil 1 = .ok (.invokestatic 131, 3) := by decide +kernel
theorem dX7_spoil_4 : decode cX7_spoil 4 = .ok (.ifCond .eq 22, 3) := by decide +kernel
theorem dX7_spoil_7 : decode cX7_spoil 7 = .ok (.iload_n 2, 1) := by decide +kernel
theorem dX7_spoil_8 : decode cX7_spoil 8 = .ok (.ifCond .lt 18, 3) := by decide +kernel
theorem dX7_spoil_11 : decode cX7_spoil 11 = .ok (.iload_n 2, 1) := by decide +kernel
theorem dX7_spoil_12 : decode cX7_spoil 12 = .ok (.bipush 6, 2) := by decide +kernel
theorem dX7_spoil_14 : decode cX7_spoil 14 = .ok (.if_icmp .gt 12, 3) := by decide +kernel
theorem dX7_spoil_17 : decode cX7_spoil 17 = .ok (.aload_n 0, 1) := by decide +kernel
theorem dX7_spoil_18 : decode cX7_spoil 18 = .ok (.getfield 65, 3) := by decide +kernel
theorem dX7_spoil_21 : decode cX7_spoil 21 = .ok (.iload_n 1, 1) := by decide +kernel
theorem dX7_spoil_22 : decode cX7_spoil 22 = .ok (.iaload, 1) := by decide +kernel
theorem dX7_spoil_23 : decode cX7_spoil 23 = .ok (.ifCond .ne 5, 3) := by decide +kernel
theorem dX7_spoil_26 : decode cX7_spoil 26 = .ok (.iconst 0, 1) := by decide +kernel
theorem dX7_spoil_27 : decode cX7_spoil 27 = .ok (.ireturn, 1) := by decide +kernel
theorem dX7_spoil_28 : decode cX7_spoil 28 = .ok (.bipush 12, 2) := by decide +kernel
theorem dX7_spoil_30 : decode cX7_spoil 30 = .ok (.iload_n 1, 1) := by decide +kernel
theorem dX7_spoil_31 : decode cX7_spoil 31 = .ok (.imul, 1) := by decide +kernel
theorem dX7_spoil_32 : decode cX7_spoil 32 = .ok (.istore 4, 2) := by decide +kernel
theorem dX7_spoil_34 : decode cX7_spoil 34 = .ok (.aload_n 0, 1) := by decide +kernel
theorem dX7_spoil_35 : decode cX7_spoil 35 = .ok (.getfield 68, 3) := by decide +kernel
theorem dX7_spoil_38 : decode cX7_spoil 38 = .ok (.iload 4, 2) := by decide +kernel
theorem dX7_spoil_40 : decode cX7_spoil 40 = .ok (.iload_n 2, 1) := by decide +kernel
theorem dX7_spoil_41 : decode cX7_spoil 41 = .ok (.ifCond .ne 16, 3) := by decide +kernel
theorem dX7_spoil_44 : decode cX7_spoil 44 = .ok (.aload_n 0, 1) := by decide +kernel
theorem dX7_spoil_45 : decode cX7_spoil 45 = .ok (.getfield 68, 3) := by decide +kernel
theorem dX7_spoil_48 : decode cX7_spoil 48 = .ok (.iload 4, 2) := by decide +kernel
theorem dX7_spoil_50 : decode cX7_spoil 50 = .ok (.saload, 1) := by decide +kernel
theorem dX7_spoil_51 : decode cX7_spoil 51 = .ok (.iload_n 3, 1) := by decide +kernel
theorem dX7_spoil_52 : decode cX7_spoil 52 = .ok (.ixor, 1) := by decide +kernel
theorem dX7_spoil_53 : decode cX7_spoil 53 = .ok (.i2s, 1) := by decide +kernel
theorem dX7_spoil_54 : decode cX7_spoil 54 = .ok (.goto 10, 3) := by decide +kernel
theorem dX7_spoil_57 : decode cX7_spoil 57 = .ok (.aload_n 0, 1) := by decide +kernel
theorem dX7_spoil_58 : decode cX7_spoil 58 = .ok (.getfield 68, 3) := by decide +kernel
theorem dX7_spoil_61 : decode cX7_spoil 61 = .ok (.iload 4, 2) := by decide +kernel
theorem dX7_spoil_63 : decode cX7_spoil 63 = .ok (.saload, 1) := by decide +kernel
theorem dX7_spoil_64 : decode cX7_spoil 64 = .ok (.sastore, 1) := by decide +kernel
theorem dX7_spoil_65 : decode cX7_spoil 65 = .ok (.aload_n 0, 1) := by decide +kernel
theorem dX7_spoil_66 : decode cX7_spoil 66 = .ok (.getfield 71, 3) := by decide +kernel
theorem dX7_spoil_69 : decode cX7_spoil 69 = .ok (.iload 4, 2) := by decide +kernel
theorem dX7_spoil_71 : decode cX7_spoil 71 = .ok (.iload_n 2, 1) := by decide +kernel
theorem dX7_spoil_72 : decode cX7_spoil 72 = .ok (.iconst 1, 1) := by decide +kernel
theorem dX7_spoil_73 : decode cX7_spoil 73 = .ok (.if_icmp .ne 15, 3) := by decide +kernel
theorem dX7_spoil_76 : decode cX7_spoil 76 = .ok (.aload_n 0, 1) := by decide +kernel
theorem dX7_spoil_77 : decode cX7_spoil 77 = .ok (.getfield 71, 3) := by decide +kernel
theorem dX7_spoil_80 : decode cX7_spoil 80 = .ok (.iload 4, 2) := by decide +kernel
theorem dX7_spoil_82 : decode cX7_spoil 82 = .ok (.iaload, 1) := by decide +kernel
theorem dX7_spoil_83 : decode cX7_spoil 83 = .ok (.iload_n 3, 1) := by decide +kernel
theorem dX7_spoil_84 : decode cX7_spoil 84 = .ok (.ixor, 1) := by decide +kernel
theorem dX7_spoil_85 : decode cX7_spoil 85 = .ok (.goto 10, 3) := by decide +kernel
theorem dX7_spoil_88 : decode cX7_spoil 88 = .ok (.aload_n 0, 1) := by decide +kernel
theorem dX7_spoil_89 : decode cX7_spoil 89 = .ok (.getfield 71, 3) := by decide +kernel
theorem dX7_spoil_92 : decode cX7_spoil 92 = .ok (.iload 4, 2) := by decide +kernel
theorem dX7_spoil_94 : decode cX7_spoil 94 = .ok (.iaload, 1) := by decide +kernel
theorem dX7_spoil_95 : decode cX7_spoil 95 = .ok (.iastore, 1) := by decide +kernel
theorem dX7_spoil_96 : decode cX7_spoil 96 = .ok (.aload_n 0, 1) := by decide +kernel
theorem dX7_spoil_97 : decode cX7_spoil 97 = .ok (.getfield 74, 3) := by decide +kernel
theorem dX7_spoil_100 : decode cX7_spoil 100 = .ok (.iload 4, 2) := by decide +kernel
theorem dX7_spoil_102 : decode cX7_spoil 102 = .ok (.iload_n 2, 1) := by decide +kernel
theorem dX7_spoil_103 : decode cX7_spoil 103 = .ok (.iconst 2, 1) := by decide +kernel
theorem dX7_spoil_104 : decode cX7_spoil 104 = .ok (.if_icmp .ne 15, 3) := by decide +kernel
theorem dX7_spoil_107 : decode cX7_spoil 107 = .ok (.aload_n 0, 1) := by decide +kernel
theorem dX7_spoil_108 : decode cX7_spoil 108 = .ok (.getfield 74, 3) := by decide +kernel
theorem dX7_spoil_111 : decode cX7_spoil 111 = .ok (.iload 4, 2) := by decide +kernel
theorem dX7_spoil_113 : decode cX7_spoil 113 = .ok (.iaload, 1) := by decide +kernel
theorem dX7_spoil_114 : decode cX7_spoil 114 = .ok (.iload_n 3, 1) := by decide +kernel
theorem dX7_spoil_115 : decode cX7_spoil 115 = .ok (.ixor, 1) := by decide +kernel
theorem dX7_spoil_116 : decode cX7_spoil 116 = .ok (.goto 10, 3) := by decide +kernel
theorem dX7_spoil_119 : decode cX7_spoil 119 = .ok (.aload_n 0, 1) := by decide +kernel
theorem dX7_spoil_120 : decode cX7_spoil 120 = .ok (.getfield 74, 3) := by decide +kernel
theorem dX7_spoil_123 : decode cX7_spoil 123 = .ok (.iload 4, 2) := by decide +kernel
theorem dX7_spoil_125 : decode cX7_spoil 125 = .ok (.iaload, 1) := by decide +kernel
theorem dX7_spoil_126 : decode cX7_spoil 126 = .ok (.iastore, 1) := by decide +kernel
theorem dX7_spoil_127 : decode cX7_spoil 127 = .ok (.aload_n 0, 1) := by decide +kernel
theorem dX7_spoil_128 : decode cX7_spoil 128 = .ok (.getfield 77, 3) := by decide +kernel
theorem dX7_spoil_131 : decode cX7_spoil 131 = .ok (.iload 4, 2) := by decide +kernel
theorem dX7_spoil_133 : decode cX7_spoil 133 = .ok (.iload_n 2, 1) := by decide +kernel
theorem dX7_spoil_134 : decode cX7_spoil 134 = .ok (.iconst 3, 1) := by decide +kernel
theorem dX7_spoil_135 : decode cX7_spoil 135 = .ok (.if_icmp .ne 15, 3) := by decide +kernel
theorem dX7_spoil_138 : decode cX7_spoil 138 = .ok (.aload_n 0, 1) := by decide +kernel
theorem dX7_spoil_139 : decode cX7_spoil 139 = .ok (.getfield 77, 3) := by decide +kernel
theorem dX7_spoil_142 : decode cX7_spoil 142 = .ok (.iload 4, 2) := by decide +kernel
theorem dX7_spoil_144 : decode cX7_spoil 144 = .ok (.iaload, 1) := by decide +kernel
theorem dX7_spoil_145 : decode cX7_spoil 145 = .ok (.iload_n 3, 1) := by decide +kernel
theorem dX7_spoil_146 : decode cX7_spoil 146 = .ok (.ixor, 1) := by decide +kernel
theorem dX7_spoil_147 : decode cX7_spoil 147 = .ok (.goto 10, 3) := by decide +kernel
theorem dX7_spoil_150 : decode cX7_spoil 150 = .ok (.aload_n 0, 1) := by decide +kernel
theorem dX7_spoil_151 : decode cX7_spoil 151 = .ok (.getfield 77, 3) := by decide +kernel
theorem dX7_spoil_154 : decode cX7_spoil 154 = .ok (.iload 4, 2) := by decide +kernel
theorem dX7_spoil_156 : decode cX7_spoil 156 = .ok (.iaload, 1) := by decide +kernel
theorem dX7_spoil_157 : decode cX7_spoil 157 = .ok (.iastore, 1) := by decide +kernel
theorem dX7_spoil_158 : decode cX7_spoil 158 = .ok (.aload_n 0, 1) := by decide +kernel
theorem dX7_spoil_159 : decode cX7_spoil 159 = .ok (.getfield 80, 3) := by decide +kernel
theorem dX7_spoil_162 : decode cX7_spoil 162 = .ok (.iload 4, 2) := by decide +kernel
theorem dX7_spoil_164 : decode cX7_spoil 164 = .ok (.iload_n 2, 1) := by decide +kernel
theorem dX7_spoil_165 : decode cX7_spoil 165 = .ok (.iconst 4, 1) := by decide +kernel
theorem dX7_spoil_166 : decode cX7_spoil 166 = .ok (.if_icmp .ne 15, 3) := by decide +kernel
theorem dX7_spoil_169 : decode cX7_spoil 169 = .ok (.aload_n 0, 1) := by decide +kernel
theorem dX7_spoil_170 : decode cX7_spoil 170 = .ok (.getfield 80, 3) := by decide +kernel
theorem dX7_spoil_173 : decode cX7_spoil 173 = .ok (.iload 4, 2) := by decide +kernel
theorem dX7_spoil_175 : decode cX7_spoil 175 = .ok (.iaload, 1) := by decide +kernel
theorem dX7_spoil_176 : decode cX7_spoil 176 = .ok (.iload_n 3, 1) := by decide +kernel
theorem dX7_spoil_177 : decode cX7_spoil 177 = .ok (.ixor, 1) := by decide +kernel
theorem dX7_spoil_178 : decode cX7_spoil 178 = .ok (.goto 10, 3) := by decide +kernel
theorem dX7_spoil_181 : decode cX7_spoil 181 = .ok (.aload_n 0, 1) := by decide +kernel
theorem dX7_spoil_182 : decode cX7_spoil 182 = .ok (.getfield 80, 3) := by decide +kernel
theorem dX7_spoil_185 : decode cX7_spoil 185 = .ok (.iload 4, 2) := by decide +kernel
theorem dX7_spoil_187 : decode cX7_spoil 187 = .ok (.iaload, 1) := by decide +kernel
theorem dX7_spoil_188 : decode cX7_spoil 188 = .ok (.iastore, 1) := by decide +kernel
theorem dX7_spoil_189 : decode cX7_spoil 189 = .ok (.aload_n 0, 1) := by decide +kernel
theorem dX7_spoil_190 : decode cX7_spoil 190 = .ok (.getfield 83, 3) := by decide +kernel
theorem dX7_spoil_193 : decode cX7_spoil 193 = .ok (.iload 4, 2) := by decide +kernel
theorem dX7_spoil_195 : decode cX7_spoil 195 = .ok (.iload_n 2, 1) := by decide +kernel
theorem dX7_spoil_196 : decode cX7_spoil 196 = .ok (.iconst 5, 1) := by decide +kernel
theorem dX7_spoil_197 : decode cX7_spoil 197 = .ok (.if_icmp .ne 20, 3) := by decide +kernel
theorem dX7_spoil_200 : decode cX7_spoil 200 = .ok (.aload_n 0, 1) := by decide +kernel
theorem dX7_spoil_201 : decode cX7_spoil 201 = .ok (.getfield 83, 3) := by decide +kernel
theorem dX7_spoil_204 : decode cX7_spoil 204 = .ok (.iload 4, 2) := by decide +kernel
theorem dX7_spoil_206 : decode cX7_spoil 206 = .ok (.laload, 1) := by decide +kernel
theorem dX7_spoil_207 : decode cX7_spoil 207 = .ok (.iload_n 3, 1) := by decide +kernel
theorem dX7_spoil_208 : decode cX7_spoil 208 = .ok (.i2l, 1) := by decide +kernel
theorem dX7_spoil_209 : decode cX7_spoil 209 = .ok (.ldc2_w 153, 3) := by decide +kernel
theorem dX7_spoil_212 : decode cX7_spoil 212 = .ok (.land, 1) := by decide +kernel
theorem dX7_spoil_213 : decode cX7_spoil 213 = .ok (.lxor, 1) := by decide +kernel
theorem dX7_spoil_214 : decode cX7_spoil 214 = .ok (.goto 10, 3) := by decide +kernel
theorem dX7_spoil_217 : decode cX7_spoil 217 = .ok (.aload_n 0, 1) := by decide +kernel
theorem dX7_spoil_218 : decode cX7_spoil 218 = .ok (.getfield 83, 3) := by decide +kernel
theorem dX7_spoil_221 : decode cX7_spoil 221 = .ok (.iload 4, 2) := by decide +kernel
theorem dX7_spoil_223 : decode cX7_spoil 223 = .ok (.laload, 1) := by decide +kernel
theorem dX7_spoil_224 : decode cX7_spoil 224 = .ok (.lastore, 1) := by decide +kernel
theorem dX7_spoil_225 : decode cX7_spoil 225 = .ok (.aload_n 0, 1) := by decide +kernel
theorem dX7_spoil_226 : decode cX7_spoil 226 = .ok (.getfield 87, 3) := by decide +kernel
theorem dX7_spoil_229 : decode cX7_spoil 229 = .ok (.iload 4, 2) := by decide +kernel
theorem dX7_spoil_231 : decode cX7_spoil 231 = .ok (.iload_n 2, 1) := by decide +kernel
theorem dX7_spoil_232 : decode cX7_spoil 232 = .ok (.bipush 6, 2) := by decide +kernel
theorem dX7_spoil_234 : decode cX7_spoil 234 = .ok (.if_icmp .ne 15, 3) := by decide +kernel
theorem dX7_spoil_237 : decode cX7_spoil 237 = .ok (.aload_n 0, 1) := by decide +kernel
theorem dX7_spoil_238 : decode cX7_spoil 238 = .ok (.getfield 87, 3) := by decide +kernel
theorem dX7_spoil_241 : decode cX7_spoil 241 = .ok (.iload 4, 2) := by decide +kernel
theorem dX7_spoil_243 : decode cX7_spoil 243 = .ok (.iaload, 1) := by decide +kernel
theorem dX7_spoil_244 : decode cX7_spoil 244 = .ok (.iload_n 3, 1) := by decide +kernel
theorem dX7_spoil_245 : decode cX7_spoil 245 = .ok (.ixor, 1) := by decide +kernel
theorem dX7_spoil_246 : decode cX7_spoil 246 = .ok (.goto 10, 3) := by decide +kernel
theorem dX7_spoil_249 : decode cX7_spoil 249 = .ok (.aload_n 0, 1) := by decide +kernel
theorem dX7_spoil_250 : decode cX7_spoil 250 = .ok (.getfield 87, 3) := by decide +kernel
theorem dX7_spoil_253 : decode cX7_spoil 253 = .ok (.iload 4, 2) := by decide +kernel
theorem dX7_spoil_255 : decode cX7_spoil 255 = .ok (.iaload, 1) := by decide +kernel
theorem dX7_spoil_256 : decode cX7_spoil 256 = .ok (.iastore, 1) := by decide +kernel
theorem dX7_spoil_257 : decode cX7_spoil 257 = .ok (.iconst 1, 1) := by decide +kernel
theorem dX7_spoil_258 : decode cX7_spoil 258 = .ok (.ireturn, 1) := by decide +kernel
set_option maxRecDepth 20000 in
theorem ggX7_about_X7_isTwo : GoodIn wsX7_about wsX7_isTwo := goodIn_r _ [10] (by decide +kernel) (by decide +kernel)
set_option maxRecDepth 20000 in
theorem gX7_about_X7_isTwo : GoodIn wsX7_about (va_wsS RX7 131 yX7_isTwo wsX7_isTwo) := goodIn_app (goodIn_of _ (by decide +kernel)) ggX7_about_X7_isTwo
theorem dX7_about_0 : decode cX7_about 0 = .ok (.iload_n 1, 1) := by decide +kernel
theorem dX7_about_1 : decode cX7_about 1 = .ok (.invokestatic 131, 3) := by decide +kernel
theorem dX7_about_4 : decode cX7_about 4 = .ok (.ifCond .eq 12, 3) := by decide +kernel
theorem dX7_about_7 : decode cX7_about 7 = .ok (.iload_n 2, 1) := by decide +kernel
theorem dX7_about_8 : decode cX7_about 8 = .ok (.ifCond .lt 8, 3) := by decide +kernel
theorem dX7_about_11 : decode cX7_about 11 = .ok (.iload_n 2, 1) := by decide +kernel
theorem dX7_about_12 : decode cX7_about 12 = .ok (.iconst 5, 1) := by decide +kernel
theorem dX7_about_13 : decode cX7_about 13 = .ok (.if_icmp .le 5, 3) := by decide +kernel
theorem dX7_about_16 : decode cX7_about 16 = .ok (.iconst (-1), 1) := by decide +kernel
theorem dX7_about_17 : decode cX7_about 17 = .ok (.ireturn, 1) := by decide +kernel
theorem dX7_about_18 : decode cX7_about 18 = .ok (.iload_n 2, 1) := by decide +kernel
theorem dX7_about_19 : decode cX7_about 19 = .ok (.iconst 1, 1) := by decide +kernel
theorem dX7_about_20 : decode cX7_about 20 = .ok (.if_icmp .ne 46, 3) := by decide +kernel
theorem dX7_about_23 : decode cX7_about 23 = .ok (.aload_n 0, 1) := by decide +kernel
theorem dX7_about_24 : decode cX7_about 24 = .ok (.getfield 43, 3) := by decide +kernel
theorem dX7_about_27 : decode cX7_about 27 = .ok (.iconst 2, 1) := by decide +kernel
theorem dX7_about_28 : decode cX7_about 28 = .ok (.iload_n 1, 1) := by decide +kernel
theorem dX7_about_29 : decode cX7_about 29 = .ok (.imul, 1) := by decide +kernel
theorem dX7_about_30 : decode cX7_about 30 = .ok (.iconst 1, 1) := by decide +kernel
theorem dX7_about_31 : decode cX7_about 31 = .ok (.iadd, 1) := by decide +kernel
theorem dX7_about_32 : decode cX7_about 32 = .ok (.iload_n 1, 1) := by decide +kernel
theorem dX7_about_33 : decode cX7_about 33 = .ok (.isub, 1) := by decide +kernel
theorem dX7_about_34 : decode cX7_about 34 = .ok (.iaload, 1) := by decide +kernel
theorem dX7_about_35 : decode cX7_about 35 = .ok (.istore_n 3, 1) := by decide +kernel
theorem dX7_about_36 : decode cX7_about 36 = .ok (.aload_n 0, 1) := by decide +kernel
theorem dX7_about_37 : decode cX7_about 37 = .ok (.getfield 16, 3) := by decide +kernel
theorem dX7_about_40 : decode cX7_about 40 = .ok (.iload_n 1, 1) := by decide +kernel
theorem dX7_about_41 : decode cX7_about 41 = .ok (.iaload, 1) := by decide +kernel
theorem dX7_about_42 : decode cX7_about 42 = .ok (.ifCond .ge 17, 3) := by decide +kernel
theorem dX7_about_45 : decode cX7_about 45 = .ok (.iload_n 3, 1) := by decide +kernel
theorem dX7_about_46 : decode cX7_about 46 = .ok (.aload_n 0, 1) := by decide +kernel
theorem dX7_about_47 : decode cX7_about 47 = .ok (.getfield 7, 3) := by decide +kernel
theorem dX7_about_50 : decode cX7_about 50 = .ok (.iload_n 1, 1) := by decide +kernel
theorem dX7_about_51 : decode cX7_about 51 = .ok (.iaload, 1) := by decide +kernel
theorem dX7_about_52 : decode cX7_about 52 = .ok (.if_icmp .ge 7, 3) := by decide +kernel
theorem dX7_about_55 : decode cX7_about 55 = .ok (.iload_n 3, 1) := by decide +kernel
theorem dX7_about_56 : decode cX7_about 56 = .ok (.goto 9, 3) := by decide +kernel
theorem dX7_about_59 : decode cX7_about 59 = .ok (.aload_n 0, 1) := by decide +kernel
theorem dX7_about_60 : decode cX7_about 60 = .ok (.getfield 7, 3) := by decide +kernel
theorem dX7_about_63 : decode cX7_about 63 = .ok (.iload_n 1, 1) := by decide +kernel
theorem dX7_about_64 : decode cX7_about 64 = .ok (.iaload, 1) := by decide +kernel
theorem dX7_about_65 : decode cX7_about 65 = .ok (.ireturn, 1) := by decide +kernel
theorem dX7_about_66 : decode cX7_about 66 = .ok (.iload_n 2, 1) := by decide +kernel
theorem dX7_about_67 : decode cX7_about 67 = .ok (.ifCond .ne 12, 3) := by decide +kernel
theorem dX7_about_70 : decode cX7_about 70 = .ok (.aload_n 0, 1) := by decide +kernel
theorem dX7_about_71 : decode cX7_about 71 = .ok (.getfield 7, 3) := by decide +kernel
theorem dX7_about_74 : decode cX7_about 74 = .ok (.iload_n 1, 1) := by decide +kernel
theorem dX7_about_75 : decode cX7_about 75 = .ok (.iaload, 1) := by decide +kernel
theorem dX7_about_76 : decode cX7_about 76 = .ok (.goto 51, 3) := by decide +kernel
theorem dX7_about_79 : decode cX7_about 79 = .ok (.iload_n 2, 1) := by decide +kernel
theorem dX7_about_80 : decode cX7_about 80 = .ok (.iconst 2, 1) := by decide +kernel
theorem dX7_about_81 : decode cX7_about 81 = .ok (.if_icmp .ne 12, 3) := by decide +kernel
theorem dX7_about_84 : decode cX7_about 84 = .ok (.aload_n 0, 1) := by decide +kernel
theorem dX7_about_85 : decode cX7_about 85 = .ok (.getfield 13, 3) := by decide +kernel
theorem dX7_about_88 : decode cX7_about 88 = .ok (.iload_n 1, 1) := by decide +kernel
theorem dX7_about_89 : decode cX7_about 89 = .ok (.iaload, 1) := by decide +kernel
theorem dX7_about_90 : decode cX7_about 90 = .ok (.goto 37, 3) := by decide +kernel
theorem dX7_about_93 : decode cX7_about 93 = .ok (.iload_n 2, 1) := by decide +kernel
theorem dX7_about_94 : decode cX7_about 94 = .ok (.iconst 3, 1) := by decide +kernel
theorem dX7_about_95 : decode cX7_about 95 = .ok (.if_icmp .ne 12, 3) := by decide +kernel
theorem dX7_about_98 : decode cX7_about 98 = .ok (.aload_n 0, 1) := by decide +kernel
theorem dX7_about_99 : decode cX7_about 99 = .ok (.getfield 16, 3) := by decide +kernel
theorem dX7_about_102 : decode cX7_about 102 = .ok (.iload_n 1, 1) := by decide +kernel
theorem dX7_about_103 : decode cX7_about 103 = .ok (.iaload, 1) := by decide +kernel
theorem dX7_about_104 : decode cX7_about 104 = .ok (.goto 23, 3) := by decide +kernel
theorem dX7_about_107 : decode cX7_about 107 = .ok (.iload_n 2, 1) := by decide +kernel
theorem dX7_about_108 : decode cX7_about 108 = .ok (.iconst 4, 1) := by decide +kernel
theorem dX7_about_109 : decode cX7_about 109 = .ok (.if_icmp .ne 12, 3) := by decide +kernel
theorem dX7_about_112 : decode cX7_about 112 = .ok (.aload_n 0, 1) := by decide +kernel
theorem dX7_about_113 : decode cX7_about 113 = .ok (.getfield 65, 3) := by decide +kernel
theorem dX7_about_116 : decode cX7_about 116 = .ok (.iload_n 1, 1) := by decide +kernel
theorem dX7_about_117 : decode cX7_about 117 = .ok (.iaload, 1) := by decide +kernel
theorem dX7_about_118 : decode cX7_about 118 = .ok (.goto 9, 3) := by decide +kernel
theorem dX7_about_121 : decode cX7_about 121 = .ok (.aload_n 0, 1) := by decide +kernel
theorem dX7_about_122 : decode cX7_about 122 = .ok (.getfield 19, 3) := by decide +kernel
theorem dX7_about_125 : decode cX7_about 125 = .ok (.iload_n 1, 1) := by decide +kernel
theorem dX7_about_126 : decode cX7_about 126 = .ok (.iaload, 1) := by decide +kernel
theorem dX7_about_127 : decode cX7_about 127 = .ok (.ireturn, 1) := by decide +kernel
set_option maxRecDepth 20000 in
theorem ggX7_known_X7_isTwo : GoodIn wsX7_known wsX7_isTwo := goodIn_r _ [5] (by decide +kernel) (by decide +kernel)
set_option maxRecDepth 20000 in
theorem gX7_known_X7_isTwo : GoodIn wsX7_known (va_wsS RX7 131 yX7_isTwo wsX7_isTwo) := goodIn_app (goodIn_of _ (by decide +kernel)) ggX7_known_X7_isTwo
theorem dX7_known_0 : decode cX7_known 0 = .ok (.iload_n 1, 1) := by decide +kernel
theorem dX7_known_1 : decode cX7_known 1 = .ok (.invokestatic 131, 3) := by decide +kernel
theorem dX7_known_4 : decode cX7_known 4 = .ok (.ifCond .eq 23, 3) := by decide +kernel
theorem dX7_known_7 : decode cX7_known 7 = .ok (.iload_n 2, 1) := by decide +kernel
theorem dX7_known_8 : decode cX7_known 8 = .ok (.invokestatic 131, 3) := by decide +kernel
theorem dX7_known_11 : decode cX7_known 11 = .ok (.ifCond .eq 16, 3) := by decide +kernel
theorem dX7_known_14 : decode cX7_known 14 = .ok (.aload_n 0, 1) := by decide +kernel
theorem dX7_known_15 : decode cX7_known 15 = .ok (.getfield 43, 3) := by decide +kernel
theorem dX7_known_18 : decode cX7_known 18 = .ok (.iconst 2, 1) := by decide +kernel
theorem dX7_known_19 : decode cX7_known 19 = .ok (.iload_n 1, 1) := by decide +kernel
theorem dX7_known_20 : decode cX7_known 20 = .ok (.imul, 1) := by decide +kernel
theorem dX7_known_21 : decode cX7_known 21 = .ok (.iload_n 2, 1) := by decide +kernel
theorem dX7_known_22 : decode cX7_known 22 = .ok (.iadd, 1) := by decide +kernel
theorem dX7_known_23 : decode cX7_known 23 = .ok (.iaload, 1) := by decide +kernel
theorem dX7_known_24 : decode cX7_known 24 = .ok (.goto 4, 3) := by decide +kernel
theorem dX7_known_27 : decode cX7_known 27 = .ok (.iconst (-1), 1) := by decide +kernel
theorem dX7_known_28 : decode cX7_known 28 = .ok (.ireturn, 1) := by decide +kernel
set_option maxRecDepth 20000 in
theorem ggX7_used_X7_isTwo : GoodIn wsX7_used wsX7_isTwo := goodIn_r _ [6] (by decide +kernel) (by decide +kernel)
set_option maxRecDepth 20000 in
theorem gX7_used_X7_isTwo : GoodIn wsX7_used (va_wsS RX7 131 yX7_isTwo wsX7_isTwo) := goodIn_app (goodIn_of _ (by decide +kernel)) ggX7_used_X7_isTwo
theorem dX7_used_0 : decode cX7_used 0 = .ok (.iload_n 1, 1) := by decide +kernel
theorem dX7_used_1 : decode cX7_used 1 = .ok (.invokestatic 131, 3) := by decide +kernel
theorem dX7_used_4 : decode cX7_used 4 = .ok (.ifCond .eq 37, 3) := by decide +kernel
theorem dX7_used_7 : decode cX7_used 7 = .ok (.iload_n 2, 1) := by decide +kernel
theorem dX7_used_8 : decode cX7_used 8 = .ok (.invokestatic 131, 3) := by decide +kernel
theorem dX7_used_11 : decode cX7_used 11 = .ok (.ifCond .eq 30, 3) := by decide +kernel
theorem dX7_used_14 : decode cX7_used 14 = .ok (.iload_n 3, 1) := by decide +kernel
theorem dX7_used_15 : decode cX7_used 15 = .ok (.ifCond .lt 26, 3) := by decide +kernel
theorem dX7_used_18 : decode cX7_used 18 = .ok (.iload_n 3, 1) := by decide +kernel
theorem dX7_used_19 : decode cX7_used 19 = .ok (.aload_n 0, 1) := by decide +kernel
theorem dX7_used_20 : decode cX7_used 20 = .ok (.getfield 7, 3) := by decide +kernel
theorem dX7_used_23 : decode cX7_used 23 = .ok (.iload_n 1, 1) := by decide +kernel
theorem dX7_used_24 : decode cX7_used 24 = .ok (.iaload, 1) := by decide +kernel
theorem dX7_used_25 : decode cX7_used 25 = .ok (.if_icmp .ge 16, 3) := by decide +kernel
theorem dX7_used_28 : decode cX7_used 28 = .ok (.iload_n 3, 1) := by decide +kernel
theorem dX7_used_29 : decode cX7_used 29 = .ok (.aload_n 0, 1) := by decide +kernel
theorem dX7_used_30 : decode cX7_used 30 = .ok (.getfield 7, 3) := by decide +kernel
theorem dX7_used_33 : decode cX7_used 33 = .ok (.iload_n 1, 1) := by decide +kernel
theorem dX7_used_34 : decode cX7_used 34 = .ok (.iaload, 1) := by decide +kernel
theorem dX7_used_35 : decode cX7_used 35 = .ok (.bipush 15, 2) := by decide +kernel
theorem dX7_used_37 : decode cX7_used 37 = .ok (.isub, 1) := by decide +kernel
theorem dX7_used_38 : decode cX7_used 38 = .ok (.if_icmp .ge 5, 3) := by decide +kernel
theorem dX7_used_41 : decode cX7_used 41 = .ok (.iconst (-1), 1) := by decide +kernel
theorem dX7_used_42 : decode cX7_used 42 = .ok (.ireturn, 1) := by decide +kernel
theorem dX7_used_43 : decode cX7_used 43 = .ok (.aload_n 0, 1) := by decide +kernel
theorem dX7_used_44 : decode cX7_used 44 = .ok (.getfield 40, 3) := by decide +kernel
theorem dX7_used_47 : decode cX7_used 47 = .ok (.sipush 1200, 3) := by decide +kernel
theorem dX7_used_50 : decode cX7_used 50 = .ok (.iload_n 1, 1) := by decide +kernel
theorem dX7_used_51 : decode cX7_used 51 = .ok (.imul, 1) := by decide +kernel
theorem dX7_used_52 : decode cX7_used 52 = .ok (.sipush 600, 3) := by decide +kernel
theorem dX7_used_55 : decode cX7_used 55 = .ok (.iload_n 2, 1) := by decide +kernel
theorem dX7_used_56 : decode cX7_used 56 = .ok (.imul, 1) := by decide +kernel
theorem dX7_used_57 : decode cX7_used 57 = .ok (.iadd, 1) := by decide +kernel
theorem dX7_used_58 : decode cX7_used 58 = .ok (.iload_n 3, 1) := by decide +kernel
theorem dX7_used_59 : decode cX7_used 59 = .ok (.iadd, 1) := by decide +kernel
theorem dX7_used_60 : decode cX7_used 60 = .ok (.iaload, 1) := by decide +kernel
theorem dX7_used_61 : decode cX7_used 61 = .ok (.ireturn, 1) := by decide +kernel
set_option maxRecDepth 20000 in
theorem ggX7_sum_X7_isTwo : GoodIn wsX7_sum wsX7_isTwo := goodIn_r _ [13] (by decide +kernel) (by decide +kernel)
set_option maxRecDepth 20000 in
theorem gX7_sum_X7_isTwo : GoodIn wsX7_sum (va_wsS RX7 131 yX7_isTwo wsX7_isTwo) := goodIn_app (goodIn_of _ (by decide +kernel)) ggX7_sum_X7_isTwo
theorem dX7_sum_0 : decode cX7_sum 0 = .ok (.iload_n 1, 1) := by decide +kernel
theorem dX7_sum_1 : decode cX7_sum 1 = .ok (.invokestatic 131, 3) := by decide +kernel
theorem dX7_sum_4 : decode cX7_sum 4 = .ok (.ifCond .eq 30, 3) := by decide +kernel
theorem dX7_sum_7 : decode cX7_sum 7 = .ok (.iload_n 2, 1) := by decide +kernel
theorem dX7_sum_8 : decode cX7_sum 8 = .ok (.ifCond .lt 26, 3) := by decide +kernel
theorem dX7_sum_11 : decode cX7_sum 11 = .ok (.iload_n 2, 1) := by decide +kernel
theorem dX7_sum_12 : decode cX7_sum 12 = .ok (.aload_n 0, 1) := by decide +kernel
theorem dX7_sum_13 : decode cX7_sum 13 = .ok (.getfield 7, 3) := by decide +kernel
theorem dX7_sum_16 : decode cX7_sum 16 = .ok (.iload_n 1, 1) := by decide +kernel
theorem dX7_sum_17 : decode cX7_sum 17 = .ok (.iaload, 1) := by decide +kernel
theorem dX7_sum_18 : decode cX7_sum 18 = .ok (.if_icmp .gt 16, 3) := by decide +kernel
theorem dX7_sum_21 : decode cX7_sum 21 = .ok (.iload_n 2, 1) := by decide +kernel
theorem dX7_sum_22 : decode cX7_sum 22 = .ok (.aload_n 0, 1) := by decide +kernel
theorem dX7_sum_23 : decode cX7_sum 23 = .ok (.getfield 7, 3) := by decide +kernel
theorem dX7_sum_26 : decode cX7_sum 26 = .ok (.iload_n 1, 1) := by decide +kernel
theorem dX7_sum_27 : decode cX7_sum 27 = .ok (.iaload, 1) := by decide +kernel
theorem dX7_sum_28 : decode cX7_sum 28 = .ok (.bipush 15, 2) := by decide +kernel
theorem dX7_sum_30 : decode cX7_sum 30 = .ok (.isub, 1) := by decide +kernel
theorem dX7_sum_31 : decode cX7_sum 31 = .ok (.if_icmp .ge 5, 3) := by decide +kernel
theorem dX7_sum_34 : decode cX7_sum 34 = .ok (.iconst 0, 1) := by decide +kernel
theorem dX7_sum_35 : decode cX7_sum 35 = .ok (.ireturn, 1) := by decide +kernel
theorem dX7_sum_36 : decode cX7_sum 36 = .ok (.sipush 600, 3) := by decide +kernel
theorem dX7_sum_39 : decode cX7_sum 39 = .ok (.iload_n 1, 1) := by decide +kernel
theorem dX7_sum_40 : decode cX7_sum 40 = .ok (.imul, 1) := by decide +kernel
theorem dX7_sum_41 : decode cX7_sum 41 = .ok (.iload_n 2, 1) := by decide +kernel
theorem dX7_sum_42 : decode cX7_sum 42 = .ok (.iadd, 1) := by decide +kernel
theorem dX7_sum_43 : decode cX7_sum 43 = .ok (.istore_n 3, 1) := by decide +kernel
theorem dX7_sum_44 : decode cX7_sum 44 = .ok (.bipush 17, 2) := by decide +kernel
theorem dX7_sum_46 : decode cX7_sum 46 = .ok (.istore 4, 2) := by decide +kernel
theorem dX7_sum_48 : decode cX7_sum 48 = .ok (.iload 4, 2) := by decide +kernel
theorem dX7_sum_50 : decode cX7_sum 50 = .ok (.bipush 31, 2) := by decide +kernel
theorem dX7_sum_52 : decode cX7_sum 52 = .ok (.imul, 1) := by decide +kernel
theorem dX7_sum_53 : decode cX7_sum 53 = .ok (.aload_n 0, 1) := by decide +kernel
theorem dX7_sum_54 : decode cX7_sum 54 = .ok (.getfield 46, 3) := by decide +kernel
theorem dX7_sum_57 : decode cX7_sum 57 = .ok (.iload_n 3, 1) := by decide +kernel
theorem dX7_sum_58 : decode cX7_sum 58 = .ok (.faload, 1) := by decide +kernel
theorem dX7_sum_59 : decode cX7_sum 59 = .ok (.ldc 155, 2) := by decide +kernel
theorem dX7_sum_61 : decode cX7_sum 61 = .ok (.fmul, 1) := by decide +kernel
theorem dX7_sum_62 : decode cX7_sum 62 = .ok (.f2i, 1) := by decide +kernel
theorem dX7_sum_63 : decode cX7_sum 63 = .ok (.iadd, 1) := by decide +kernel
theorem dX7_sum_64 : decode cX7_sum 64 = .ok (.istore 4, 2) := by decide +kernel
theorem dX7_sum_66 : decode cX7_sum 66 = .ok (.iload 4, 2) := by decide +kernel
theorem dX7_sum_68 : decode cX7_sum 68 = .ok (.bipush 31, 2) := by decide +kernel
theorem dX7_sum_70 : decode cX7_sum 70 = .ok (.imul, 1) := by decide +kernel
theorem dX7_sum_71 : decode cX7_sum 71 = .ok (.aload_n 0, 1) := by decide +kernel
theorem dX7_sum_72 : decode cX7_sum 72 = .ok (.getfield 49, 3) := by decide +kernel
theorem dX7_sum_75 : decode cX7_sum 75 = .ok (.iload_n 3, 1) := by decide +kernel
theorem dX7_sum_76 : decode cX7_sum 76 = .ok (.faload, 1) := by decide +kernel
theorem dX7_sum_77 : decode cX7_sum 77 = .ok (.ldc 155, 2) := by decide +kernel
theorem dX7_sum_79 : decode cX7_sum 79 = .ok (.fmul, 1) := by decide +kernel
theorem dX7_sum_80 : decode cX7_sum 80 = .ok (.f2i, 1) := by decide +kernel
theorem dX7_sum_81 : decode cX7_sum 81 = .ok (.iadd, 1) := by decide +kernel
theorem dX7_sum_82 : decode cX7_sum 82 = .ok (.istore 4, 2) := by decide +kernel
theorem dX7_sum_84 : decode cX7_sum 84 = .ok (.iload 4, 2) := by decide +kernel
theorem dX7_sum_86 : decode cX7_sum 86 = .ok (.bipush 31, 2) := by decide +kernel
theorem dX7_sum_88 : decode cX7_sum 88 = .ok (.imul, 1) := by decide +kernel
theorem dX7_sum_89 : decode cX7_sum 89 = .ok (.aload_n 0, 1) := by decide +kernel
theorem dX7_sum_90 : decode cX7_sum 90 = .ok (.getfield 52, 3) := by decide +kernel
theorem dX7_sum_93 : decode cX7_sum 93 = .ok (.iload_n 3, 1) := by decide +kernel
theorem dX7_sum_94 : decode cX7_sum 94 = .ok (.faload, 1) := by decide +kernel
theorem dX7_sum_95 : decode cX7_sum 95 = .ok (.ldc 155, 2) := by decide +kernel
theorem dX7_sum_97 : decode cX7_sum 97 = .ok (.fmul, 1) := by decide +kernel
theorem dX7_sum_98 : decode cX7_sum 98 = .ok (.f2i, 1) := by decide +kernel
theorem dX7_sum_99 : decode cX7_sum 99 = .ok (.iadd, 1) := by decide +kernel
theorem dX7_sum_100 : decode cX7_sum 100 = .ok (.istore 4, 2) := by decide +kernel
theorem dX7_sum_102 : decode cX7_sum 102 = .ok (.iload 4, 2) := by decide +kernel
theorem dX7_sum_104 : decode cX7_sum 104 = .ok (.bipush 31, 2) := by decide +kernel
theorem dX7_sum_106 : decode cX7_sum 106 = .ok (.imul, 1) := by decide +kernel
theorem dX7_sum_107 : decode cX7_sum 107 = .ok (.aload_n 0, 1) := by decide +kernel
theorem dX7_sum_108 : decode cX7_sum 108 = .ok (.getfield 55, 3) := by decide +kernel
theorem dX7_sum_111 : decode cX7_sum 111 = .ok (.iload_n 3, 1) := by decide +kernel
theorem dX7_sum_112 : decode cX7_sum 112 = .ok (.faload, 1) := by decide +kernel
theorem dX7_sum_113 : decode cX7_sum 113 = .ok (.ldc 155, 2) := by decide +kernel
theorem dX7_sum_115 : decode cX7_sum 115 = .ok (.fmul, 1) := by decide +kernel
theorem dX7_sum_116 : decode cX7_sum 116 = .ok (.f2i, 1) := by decide +kernel
theorem dX7_sum_117 : decode cX7_sum 117 = .ok (.iadd, 1) := by decide +kernel
theorem dX7_sum_118 : decode cX7_sum 118 = .ok (.istore 4, 2) := by decide +kernel
theorem dX7_sum_120 : decode cX7_sum 120 = .ok (.iload 4, 2) := by decide +kernel
theorem dX7_sum_122 : decode cX7_sum 122 = .ok (.bipush 31, 2) := by decide +kernel
theorem dX7_sum_124 : decode cX7_sum 124 = .ok (.imul, 1) := by decide +kernel
theorem dX7_sum_125 : decode cX7_sum 125 = .ok (.aload_n 0, 1) := by decide +kernel
theorem dX7_sum_126 : decode cX7_sum 126 = .ok (.getfield 58, 3) := by decide +kernel
theorem dX7_sum_129 : decode cX7_sum 129 = .ok (.iload_n 3, 1) := by decide +kernel
theorem dX7_sum_130 : decode cX7_sum 130 = .ok (.iaload, 1) := by decide +kernel
theorem dX7_sum_131 : decode cX7_sum 131 = .ok (.iadd, 1) := by decide +kernel
theorem dX7_sum_132 : decode cX7_sum 132 = .ok (.istore 4, 2) := by decide +kernel
theorem dX7_sum_134 : decode cX7_sum 134 = .ok (.iload 4, 2) := by decide +kernel
theorem dX7_sum_136 : decode cX7_sum 136 = .ok (.bipush 31, 2) := by decide +kernel
theorem dX7_sum_138 : decode cX7_sum 138 = .ok (.imul, 1) := by decide +kernel
theorem dX7_sum_139 : decode cX7_sum 139 = .ok (.aload_n 0, 1) := by decide +kernel
theorem dX7_sum_140 : decode cX7_sum 140 = .ok (.getfield 61, 3) := by decide +kernel
theorem dX7_sum_143 : decode cX7_sum 143 = .ok (.iload_n 3, 1) := by decide +kernel
theorem dX7_sum_144 : decode cX7_sum 144 = .ok (.daload, 1) := by decide +kernel
theorem dX7_sum_145 : decode cX7_sum 145 = .ok (.ldc2_w 156, 3) := by decide +kernel
theorem dX7_sum_148 : decode cX7_sum 148 = .ok (.dmul, 1) := by decide +kernel
theorem dX7_sum_149 : decode cX7_sum 149 = .ok (.d2i, 1) := by decide +kernel
theorem dX7_sum_150 : decode cX7_sum 150 = .ok (.iadd, 1) := by decide +kernel
theorem dX7_sum_151 : decode cX7_sum 151 = .ok (.ireturn, 1) := by decide +kernel
set_option maxRecDepth 20000 in
theorem ggX7_place_X7_isTwo : GoodIn wsX7_place wsX7_isTwo := goodIn_r _ [8] (by decide +kernel) (by decide +kernel)
set_option maxRecDepth 20000 in
theorem gX7_place_X7_isTwo : GoodIn wsX7_place (va_wsS RX7 131 yX7_isTwo wsX7_isTwo) := goodIn_app (goodIn_of _ (by decide +kernel)) ggX7_place_X7_isTwo
theorem dX7_place_0 : decode cX7_place 0 = .ok (.iload_n 1, 1) := by decide +kernel
theorem dX7_place_1 : decode cX7_place 1 = .ok (.invokestatic 131, 3) := by decide +kernel
theorem dX7_place_4 : decode cX7_place 4 = .ok (.ifCond .eq 10, 3) := by decide +kernel
theorem dX7_place_7 : decode cX7_place 7 = .ok (.iload_n 2, 1) := by decide +kernel
theorem dX7_place_8 : decode cX7_place 8 = .ok (.invokestatic 131, 3) := by decide +kernel
theorem dX7_place_11 : decode cX7_place 11 = .ok (.ifCond .ne 6, 3) := by decide +kernel
theorem dX7_place_14 : decode cX7_place 14 = .ok (.ldc 158, 2) := by decide +kernel
theorem dX7_place_16 : decode cX7_place 16 = .ok (.freturn, 1) := by decide +kernel
theorem dX7_place_17 : decode cX7_place 17 = .ok (.sipush 600, 3) := by decide +kernel
theorem dX7_place_20 : decode cX7_place 20 = .ok (.iload_n 1, 1) := by decide +kernel
theorem dX7_place_21 : decode cX7_place 21 = .ok (.imul, 1) := by decide +kernel
theorem dX7_place_22 : decode cX7_place 22 = .ok (.aload_n 0, 1) := by decide +kernel
theorem dX7_place_23 : decode cX7_place 23 = .ok (.getfield 7, 3) := by decide +kernel
theorem dX7_place_26 : decode cX7_place 26 = .ok (.iload_n 1, 1) := by decide +kernel
theorem dX7_place_27 : decode cX7_place 27 = .ok (.iaload, 1) := by decide +kernel
theorem dX7_place_28 : decode cX7_place 28 = .ok (.iadd, 1) := by decide +kernel
theorem dX7_place_29 : decode cX7_place 29 = .ok (.istore_n 3, 1) := by decide +kernel
theorem dX7_place_30 : decode cX7_place 30 = .ok (.iload_n 2, 1) := by decide +kernel
theorem dX7_place_31 : decode cX7_place 31 = .ok (.ifCond .ne 12, 3) := by decide +kernel
theorem dX7_place_34 : decode cX7_place 34 = .ok (.aload_n 0, 1) := by decide +kernel
theorem dX7_place_35 : decode cX7_place 35 = .ok (.getfield 46, 3) := by decide +kernel
theorem dX7_place_38 : decode cX7_place 38 = .ok (.iload_n 3, 1) := by decide +kernel
theorem dX7_place_39 : decode cX7_place 39 = .ok (.faload, 1) := by decide +kernel
theorem dX7_place_40 : decode cX7_place 40 = .ok (.goto 9, 3) := by decide +kernel
theorem dX7_place_43 : decode cX7_place 43 = .ok (.aload_n 0, 1) := by decide +kernel
theorem dX7_place_44 : decode cX7_place 44 = .ok (.getfield 52, 3) := by decide +kernel
theorem dX7_place_47 : decode cX7_place 47 = .ok (.iload_n 3, 1) := by decide +kernel
theorem dX7_place_48 : decode cX7_place 48 = .ok (.faload, 1) := by decide +kernel
theorem dX7_place_49 : decode cX7_place 49 = .ok (.freturn, 1) := by decide +kernel
set_option maxRecDepth 20000 in
theorem ggX7_speed_X7_isTwo : GoodIn wsX7_speed wsX7_isTwo := goodIn_r _ [7] (by decide +kernel) (by decide +kernel)
set_option maxRecDepth 20000 in
theorem gX7_speed_X7_isTwo : GoodIn wsX7_speed (va_wsS RX7 131 yX7_isTwo wsX7_isTwo) := goodIn_app (goodIn_of _ (by decide +kernel)) ggX7_speed_X7_isTwo
theorem dX7_speed_0 : decode cX7_speed 0 = .ok (.iload_n 1, 1) := by decide +kernel
theorem dX7_speed_1 : decode cX7_speed 1 = .ok (.invokestatic 131, 3) := by decide +kernel
theorem dX7_speed_4 : decode cX7_speed 4 = .ok (.ifCond .eq 10, 3) := by decide +kernel
theorem dX7_speed_7 : decode cX7_speed 7 = .ok (.iload_n 2, 1) := by decide +kernel
theorem dX7_speed_8 : decode cX7_speed 8 = .ok (.invokestatic 131, 3) := by decide +kernel
theorem dX7_speed_11 : decode cX7_speed 11 = .ok (.ifCond .ne 5, 3) := by decide +kernel
theorem dX7_speed_14 : decode cX7_speed 14 = .ok (.fconst 0, 1) := by decide +kernel
theorem dX7_speed_15 : decode cX7_speed 15 = .ok (.freturn, 1) := by decide +kernel
theorem dX7_speed_16 : decode cX7_speed 16 = .ok (.sipush 600, 3) := by decide +kernel
theorem dX7_speed_19 : decode cX7_speed 19 = .ok (.iload_n 1, 1) := by decide +kernel
theorem dX7_speed_20 : decode cX7_speed 20 = .ok (.imul, 1) := by decide +kernel
theorem dX7_speed_21 : decode cX7_speed 21 = .ok (.aload_n 0, 1) := by decide +kernel
theorem dX7_speed_22 : decode cX7_speed 22 = .ok (.getfield 7, 3) := by decide +kernel
theorem dX7_speed_25 : decode cX7_speed 25 = .ok (.iload_n 1, 1) := by decide +kernel
theorem dX7_speed_26 : decode cX7_speed 26 = .ok (.iaload, 1) := by decide +kernel
theorem dX7_speed_27 : decode cX7_speed 27 = .ok (.iadd, 1) := by decide +kernel
theorem dX7_speed_28 : decode cX7_speed 28 = .ok (.istore_n 3, 1) := by decide +kernel
theorem dX7_speed_29 : decode cX7_speed 29 = .ok (.iload_n 2, 1) := by decide +kernel
theorem dX7_speed_30 : decode cX7_speed 30 = .ok (.ifCond .ne 12, 3) := by decide +kernel
theorem dX7_speed_33 : decode cX7_speed 33 = .ok (.aload_n 0, 1) := by decide +kernel
theorem dX7_speed_34 : decode cX7_speed 34 = .ok (.getfield 49, 3) := by decide +kernel
theorem dX7_speed_37 : decode cX7_speed 37 = .ok (.iload_n 3, 1) := by decide +kernel
theorem dX7_speed_38 : decode cX7_speed 38 = .ok (.faload, 1) := by decide +kernel
theorem dX7_speed_39 : decode cX7_speed 39 = .ok (.goto 9, 3) := by decide +kernel
theorem dX7_speed_42 : decode cX7_speed 42 = .ok (.aload_n 0, 1) := by decide +kernel
theorem dX7_speed_43 : decode cX7_speed 43 = .ok (.getfield 55, 3) := by decide +kernel
theorem dX7_speed_46 : decode cX7_speed 46 = .ok (.iload_n 3, 1) := by decide +kernel
theorem dX7_speed_47 : decode cX7_speed 47 = .ok (.faload, 1) := by decide +kernel
theorem dX7_speed_48 : decode cX7_speed 48 = .ok (.freturn, 1) := by decide +kernel
set_option maxRecDepth 20000 in
theorem ggX7_hits_X7_isTwo : GoodIn wsX7_hits wsX7_isTwo := goodIn_r _ [6] (by decide +kernel) (by decide +kernel)
set_option maxRecDepth 20000 in
theorem gX7_hits_X7_isTwo : GoodIn wsX7_hits (va_wsS RX7 131 yX7_isTwo wsX7_isTwo) := goodIn_app (goodIn_of _ (by decide +kernel)) ggX7_hits_X7_isTwo
theorem dX7_hits_0 : decode cX7_hits 0 = .ok (.iload_n 1, 1) := by decide +kernel
theorem dX7_hits_1 : decode cX7_hits 1 = .ok (.invokestatic 131, 3) := by decide +kernel
theorem dX7_hits_4 : decode cX7_hits 4 = .ok (.ifCond .eq 23, 3) := by decide +kernel
theorem dX7_hits_7 : decode cX7_hits 7 = .ok (.aload_n 0, 1) := by decide +kernel
theorem dX7_hits_8 : decode cX7_hits 8 = .ok (.getfield 58, 3) := by decide +kernel
theorem dX7_hits_11 : decode cX7_hits 11 = .ok (.sipush 600, 3) := by decide +kernel
theorem dX7_hits_14 : decode cX7_hits 14 = .ok (.iload_n 1, 1) := by decide +kernel
theorem dX7_hits_15 : decode cX7_hits 15 = .ok (.imul, 1) := by decide +kernel
theorem dX7_hits_16 : decode cX7_hits 16 = .ok (.aload_n 0, 1) := by decide +kernel
theorem dX7_hits_17 : decode cX7_hits 17 = .ok (.getfield 7, 3) := by decide +kernel
theorem dX7_hits_20 : decode cX7_hits 20 = .ok (.iload_n 1, 1) := by decide +kernel
theorem dX7_hits_21 : decode cX7_hits 21 = .ok (.iaload, 1) := by decide +kernel
theorem dX7_hits_22 : decode cX7_hits 22 = .ok (.iadd, 1) := by decide +kernel
theorem dX7_hits_23 : decode cX7_hits 23 = .ok (.iaload, 1) := by decide +kernel
theorem dX7_hits_24 : decode cX7_hits 24 = .ok (.goto 4, 3) := by decide +kernel
theorem dX7_hits_27 : decode cX7_hits 27 = .ok (.iconst (-1), 1) := by decide +kernel
theorem dX7_hits_28 : decode cX7_hits 28 = .ok (.ireturn, 1) := by decide +kernel
set_option maxRecDepth 20000 in
theorem ggX7_work_X7_isTwo : GoodIn wsX7_work wsX7_isTwo := goodIn_r _ [7] (by decide +kernel) (by decide +kernel)
set_option maxRecDepth 20000 in
theorem gX7_work_X7_isTwo : GoodIn wsX7_work (va_wsS RX7 131 yX7_isTwo wsX7_isTwo) := goodIn_app (goodIn_of _ (by decide +kernel)) ggX7_work_X7_isTwo
theorem dX7_work_0 : decode cX7_work 0 = .ok (.iload_n 1, 1) := by decide +kernel
theorem dX7_work_1 : decode cX7_work 1 = .ok (.invokestatic 131, 3) := by decide +kernel
theorem dX7_work_4 : decode cX7_work 4 = .ok (.ifCond .eq 23, 3) := by decide +kernel
theorem dX7_work_7 : decode cX7_work 7 = .ok (.aload_n 0, 1) := by decide +kernel
theorem dX7_work_8 : decode cX7_work 8 = .ok (.getfield 61, 3) := by decide +kernel
theorem dX7_work_11 : decode cX7_work 11 = .ok (.sipush 600, 3) := by decide +kernel
theorem dX7_work_14 : decode cX7_work 14 = .ok (.iload_n 1, 1) := by decide +kernel
theorem dX7_work_15 : decode cX7_work 15 = .ok (.imul, 1) := by decide +kernel
theorem dX7_work_16 : decode cX7_work 16 = .ok (.aload_n 0, 1) := by decide +kernel
theorem dX7_work_17 : decode cX7_work 17 = .ok (.getfield 7, 3) := by decide +kernel
theorem dX7_work_20 : decode cX7_work 20 = .ok (.iload_n 1, 1) := by decide +kernel
theorem dX7_work_21 : decode cX7_work 21 = .ok (.iaload, 1) := by decide +kernel
theorem dX7_work_22 : decode cX7_work 22 = .ok (.iadd, 1) := by decide +kernel
theorem dX7_work_23 : decode cX7_work 23 = .ok (.daload, 1) := by decide +kernel
theorem dX7_work_24 : decode cX7_work 24 = .ok (.goto 6, 3) := by decide +kernel
theorem dX7_work_27 : decode cX7_work 27 = .ok (.ldc2_w 159, 3) := by decide +kernel
theorem dX7_work_30 : decode cX7_work 30 = .ok (.dreturn, 1) := by decide +kernel
set_option maxRecDepth 20000 in
theorem ggX7_advice_X7_isTwo : GoodIn wsX7_advice wsX7_isTwo := goodIn_r _ [5] (by decide +kernel) (by decide +kernel)
set_option maxRecDepth 20000 in
theorem gX7_advice_X7_isTwo : GoodIn wsX7_advice (va_wsS RX7 131 yX7_isTwo wsX7_isTwo) := goodIn_app (goodIn_of _ (by decide +kernel)) ggX7_advice_X7_isTwo
theorem dX7_advice_0 : decode cX7_advice 0 = .ok (.iload_n 1, 1) := by decide +kernel
theorem dX7_advice_1 : decode cX7_advice 1 = .ok (.invokestatic 131, 3) := by decide +kernel
theorem dX7_advice_4 : decode cX7_advice 4 = .ok (.ifCond .eq 12, 3) := by decide +kernel
theorem dX7_advice_7 : decode cX7_advice 7 = .ok (.aload_n 0, 1) := by decide +kernel
theorem dX7_advice_8 : decode cX7_advice 8 = .ok (.getfield 33, 3) := by decide +kernel
theorem dX7_advice_11 : decode cX7_advice 11 = .ok (.iload_n 1, 1) := by decide +kernel
theorem dX7_advice_12 : decode cX7_advice 12 = .ok (.faload, 1) := by decide +kernel
theorem dX7_advice_13 : decode cX7_advice 13 = .ok (.goto 4, 3) := by decide +kernel
theorem dX7_advice_16 : decode cX7_advice 16 = .ok (.fconst 0, 1) := by decide +kernel
theorem dX7_advice_17 : decode cX7_advice 17 = .ok (.freturn, 1) := by decide +kernel
