set_option maxRecDepth 20000 in
theorem ggX7_send_X7_check : GoodIn wsX7_send wsX7_check := goodIn_r _ [18, 3, 5, 7, 8, 10, 11, 19, 20, 21, 22, 23, 24, 25, 26, 27, 28, 29, 30, 31, 32, 33, 34, 35, 36, 37, 38, 39, 40, 41, 42, 43, 44, 45, 46, 47] (by decide +kernel) (by decide +kernel)
set_option maxRecDepth 20000 in
theorem gX7_send_X7_check : GoodIn wsX7_send (wsV RX7 124 RX7 yX7_check wsX7_check) := goodIn_app (goodIn_of _ (by decide +kernel)) ggX7_send_X7_check
theorem dX7_send_0 : decode cX7_send 0 = .ok (.iconst 1, 1) := by decide +kernel
theorem dX7_send_1 : decode cX7_send 1 = .ok (.iload_n 1, 1) := by decide +kernel
theorem dX7_send_2 : decode cX7_send 2 = .ok (.isub, 1) := by decide +kernel
theorem dX7_send_3 : decode cX7_send 3 = .ok (.istore_n 2, 1) := by decide +kernel
theorem dX7_send_4 : decode cX7_send 4 = .ok (.aload_n 0, 1) := by decide +kernel
theorem dX7_send_5 : decode cX7_send 5 = .ok (.getfield 65, 3) := by decide +kernel
theorem dX7_send_8 : decode cX7_send 8 = .ok (.iload_n 2, 1) := by decide +kernel
theorem dX7_send_9 : decode cX7_send 9 = .ok (.iaload, 1) := by decide +kernel
theorem dX7_send_10 : decode cX7_send 10 = .ok (.bipush 12, 2) := by decide +kernel
theorem dX7_send_12 : decode cX7_send 12 = .ok (.if_icmp .ge 206, 3) := by decide +kernel
theorem dX7_send_15 : decode cX7_send 15 = .ok (.bipush 12, 2) := by decide +kernel
theorem dX7_send_17 : decode cX7_send 17 = .ok (.iload_n 2, 1) := by decide +kernel
theorem dX7_send_18 : decode cX7_send 18 = .ok (.imul, 1) := by decide +kernel
theorem dX7_send_19 : decode cX7_send 19 = .ok (.aload_n 0, 1) := by decide +kernel
theorem dX7_send_20 : decode cX7_send 20 = .ok (.getfield 65, 3) := by decide +kernel
theorem dX7_send_23 : decode cX7_send 23 = .ok (.iload_n 2, 1) := by decide +kernel
theorem dX7_send_24 : decode cX7_send 24 = .ok (.iaload, 1) := by decide +kernel
theorem dX7_send_25 : decode cX7_send 25 = .ok (.iadd, 1) := by decide +kernel
theorem dX7_send_26 : decode cX7_send 26 = .ok (.istore_n 3, 1) := by decide +kernel
theorem dX7_send_27 : decode cX7_send 27 = .ok (.aload_n 0, 1) := by decide +kernel
theorem dX7_send_28 : decode cX7_send 28 = .ok (.getfield 43, 3) := by decide +kernel
theorem dX7_send_31 : decode cX7_send 31 = .ok (.iconst 2, 1) := by decide +kernel
theorem dX7_send_32 : decode cX7_send 32 = .ok (.iload_n 1, 1) := by decide +kernel
theorem dX7_send_33 : decode cX7_send 33 = .ok (.imul, 1) := by decide +kernel
theorem dX7_send_34 : decode cX7_send 34 = .ok (.iload_n 1, 1) := by decide +kernel
theorem dX7_send_35 : decode cX7_send 35 = .ok (.iadd, 1) := by decide +kernel
theorem dX7_send_36 : decode cX7_send 36 = .ok (.iaload, 1) := by decide +kernel
theorem dX7_send_37 : decode cX7_send 37 = .ok (.istore 4, 2) := by decide +kernel
theorem dX7_send_39 : decode cX7_send 39 = .ok (.aload_n 0, 1) := by decide +kernel
theorem dX7_send_40 : decode cX7_send 40 = .ok (.getfield 68, 3) := by decide +kernel
theorem dX7_send_43 : decode cX7_send 43 = .ok (.iload_n 3, 1) := by decide +kernel
theorem dX7_send_44 : decode cX7_send 44 = .ok (.aload_n 0, 1) := by decide +kernel
theorem dX7_send_45 : decode cX7_send 45 = .ok (.getfield 30, 3) := by decide +kernel
theorem dX7_send_48 : decode cX7_send 48 = .ok (.iload_n 1, 1) := by decide +kernel
theorem dX7_send_49 : decode cX7_send 49 = .ok (.saload, 1) := by decide +kernel
theorem dX7_send_50 : decode cX7_send 50 = .ok (.sastore, 1) := by decide +kernel
theorem dX7_send_51 : decode cX7_send 51 = .ok (.aload_n 0, 1) := by decide +kernel
theorem dX7_send_52 : decode cX7_send 52 = .ok (.getfield 71, 3) := by decide +kernel
theorem dX7_send_55 : decode cX7_send 55 = .ok (.iload_n 3, 1) := by decide +kernel
theorem dX7_send_56 : decode cX7_send 56 = .ok (.aload_n 0, 1) := by decide +kernel
theorem dX7_send_57 : decode cX7_send 57 = .ok (.getfield 7, 3) := by decide +kernel
theorem dX7_send_60 : decode cX7_send 60 = .ok (.iload_n 1, 1) := by decide +kernel
theorem dX7_send_61 : decode cX7_send 61 = .ok (.iaload, 1) := by decide +kernel
theorem dX7_send_62 : decode cX7_send 62 = .ok (.iastore, 1) := by decide +kernel
theorem dX7_send_63 : decode cX7_send 63 = .ok (.aload_n 0, 1) := by decide +kernel
theorem dX7_send_64 : decode cX7_send 64 = .ok (.getfield 74, 3) := by decide +kernel
theorem dX7_send_67 : decode cX7_send 67 = .ok (.iload_n 3, 1) := by decide +kernel
theorem dX7_send_68 : decode cX7_send 68 = .ok (.aload_n 0, 1) := by decide +kernel
theorem dX7_send_69 : decode cX7_send 69 = .ok (.getfield 43, 3) := by decide +kernel
theorem dX7_send_72 : decode cX7_send 72 = .ok (.iconst 2, 1) := by decide +kernel
theorem dX7_send_73 : decode cX7_send 73 = .ok (.iload_n 1, 1) := by decide +kernel
theorem dX7_send_74 : decode cX7_send 74 = .ok (.imul, 1) := by decide +kernel
theorem dX7_send_75 : decode cX7_send 75 = .ok (.iload_n 2, 1) := by decide +kernel
theorem dX7_send_76 : decode cX7_send 76 = .ok (.iadd, 1) := by decide +kernel
theorem dX7_send_77 : decode cX7_send 77 = .ok (.iaload, 1) := by decide +kernel
theorem dX7_send_78 : decode cX7_send 78 = .ok (.iastore, 1) := by decide +kernel
theorem dX7_send_79 : decode cX7_send 79 = .ok (.aload_n 0, 1) := by decide +kernel
theorem dX7_send_80 : decode cX7_send 80 = .ok (.getfield 77, 3) := by decide +kernel
theorem dX7_send_83 : decode cX7_send 83 = .ok (.iload_n 3, 1) := by decide +kernel
theorem dX7_send_84 : decode cX7_send 84 = .ok (.aload_n 0, 1) := by decide +kernel
theorem dX7_send_85 : decode cX7_send 85 = .ok (.getfield 19, 3) := by decide +kernel
theorem dX7_send_88 : decode cX7_send 88 = .ok (.iload_n 1, 1) := by decide +kernel
theorem dX7_send_89 : decode cX7_send 89 = .ok (.iaload, 1) := by decide +kernel
theorem dX7_send_90 : decode cX7_send 90 = .ok (.iastore, 1) := by decide +kernel
theorem dX7_send_91 : decode cX7_send 91 = .ok (.aload_n 0, 1) := by decide +kernel
theorem dX7_send_92 : decode cX7_send 92 = .ok (.getfield 80, 3) := by decide +kernel
theorem dX7_send_95 : decode cX7_send 95 = .ok (.iload_n 3, 1) := by decide +kernel
theorem dX7_send_96 : decode cX7_send 96 = .ok (.iload 4, 2) := by decide +kernel
theorem dX7_send_98 : decode cX7_send 98 = .ok (.aload_n 0, 1) := by decide +kernel
theorem dX7_send_99 : decode cX7_send 99 = .ok (.getfield 19, 3) := by decide +kernel
theorem dX7_send_102 : decode cX7_send 102 = .ok (.iload_n 1, 1) := by decide +kernel
theorem dX7_send_103 : decode cX7_send 103 = .ok (.iaload, 1) := by decide +kernel
theorem dX7_send_104 : decode cX7_send 104 = .ok (.isub, 1) := by decide +kernel
theorem dX7_send_105 : decode cX7_send 105 = .ok (.bipush 16, 2) := by decide +kernel
theorem dX7_send_107 : decode cX7_send 107 = .ok (.if_icmp .le 8, 3) := by decide +kernel
theorem dX7_send_110 : decode cX7_send 110 = .ok (.bipush 16, 2) := by decide +kernel
theorem dX7_send_112 : decode cX7_send 112 = .ok (.goto 12, 3) := by decide +kernel
theorem dX7_send_115 : decode cX7_send 115 = .ok (.iload 4, 2) := by decide +kernel
theorem dX7_send_117 : decode cX7_send 117 = .ok (.aload_n 0, 1) := by decide +kernel
theorem dX7_send_118 : decode cX7_send 118 = .ok (.getfield 19, 3) := by decide +kernel
theorem dX7_send_121 : decode cX7_send 121 = .ok (.iload_n 1, 1) := by decide +kernel
theorem dX7_send_122 : decode cX7_send 122 = .ok (.iaload, 1) := by decide +kernel
theorem dX7_send_123 : decode cX7_send 123 = .ok (.isub, 1) := by decide +kernel
theorem dX7_send_124 : decode cX7_send 124 = .ok (.iastore, 1) := by decide +kernel
theorem dX7_send_125 : decode cX7_send 125 = .ok (.aload_n 0, 1) := by decide +kernel
theorem dX7_send_126 : decode cX7_send 126 = .ok (.getfield 83, 3) := by decide +kernel
theorem dX7_send_129 : decode cX7_send 129 = .ok (.iload_n 3, 1) := by decide +kernel
theorem dX7_send_130 : decode cX7_send 130 = .ok (.lconst 0, 1) := by decide +kernel
theorem dX7_send_131 : decode cX7_send 131 = .ok (.lastore, 1) := by decide +kernel
theorem dX7_send_132 : decode cX7_send 132 = .ok (.iconst 0, 1) := by decide +kernel
theorem dX7_send_133 : decode cX7_send 133 = .ok (.istore 5, 2) := by decide +kernel
theorem dX7_send_135 : decode cX7_send 135 = .ok (.iload 5, 2) := by decide +kernel
theorem dX7_send_137 : decode cX7_send 137 = .ok (.aload_n 0, 1) := by decide +kernel
theorem dX7_send_138 : decode cX7_send 138 = .ok (.getfield 80, 3) := by decide +kernel
theorem dX7_send_141 : decode cX7_send 141 = .ok (.iload_n 3, 1) := by decide +kernel
theorem dX7_send_142 : decode cX7_send 142 = .ok (.iaload, 1) := by decide +kernel
theorem dX7_send_143 : decode cX7_send 143 = .ok (.if_icmp .ge 54, 3) := by decide +kernel
theorem dX7_send_146 : decode cX7_send 146 = .ok (.aload_n 0, 1) := by decide +kernel
theorem dX7_send_147 : decode cX7_send 147 = .ok (.getfield 83, 3) := by decide +kernel
theorem dX7_send_150 : decode cX7_send 150 = .ok (.iload_n 3, 1) := by decide +kernel
theorem dX7_send_151 : decode cX7_send 151 = .ok (.aload_n 0, 1) := by decide +kernel
theorem dX7_send_152 : decode cX7_send 152 = .ok (.getfield 83, 3) := by decide +kernel
theorem dX7_send_155 : decode cX7_send 155 = .ok (.iload_n 3, 1) := by decide +kernel
theorem dX7_send_156 : decode cX7_send 156 = .ok (.laload, 1) := by decide +kernel
theorem dX7_send_157 : decode cX7_send 157 = .ok (.aload_n 0, 1) := by decide +kernel
theorem dX7_send_158 : decode cX7_send 158 = .ok (.getfield 37, 3) := by decide +kernel
theorem dX7_send_161 : decode cX7_send 161 = .ok (.sipush 1200, 3) := by decide +kernel
theorem dX7_send_164 : decode cX7_send 164 = .ok (.iload_n 1, 1) := by decide +kernel
theorem dX7_send_165 : decode cX7_send 165 = .ok (.imul, 1) := by decide +kernel
theorem dX7_send_166 : decode cX7_send 166 = .ok (.sipush 600, 3) := by decide +kernel
theorem dX7_send_169 : decode cX7_send 169 = .ok (.iload_n 1, 1) := by decide +kernel
theorem dX7_send_170 : decode cX7_send 170 = .ok (.imul, 1) := by decide +kernel
theorem dX7_send_171 : decode cX7_send 171 = .ok (.iadd, 1) := by decide +kernel
theorem dX7_send_172 : decode cX7_send 172 = .ok (.aload_n 0, 1) := by decide +kernel
theorem dX7_send_173 : decode cX7_send 173 = .ok (.getfield 19, 3) := by decide +kernel
theorem dX7_send_176 : decode cX7_send 176 = .ok (.iload_n 1, 1) := by decide +kernel
theorem dX7_send_177 : decode cX7_send 177 = .ok (.iaload, 1) := by decide +kernel
theorem dX7_send_178 : decode cX7_send 178 = .ok (.iadd, 1) := by decide +kernel
theorem dX7_send_179 : decode cX7_send 179 = .ok (.iload 5, 2) := by decide +kernel
theorem dX7_send_181 : decode cX7_send 181 = .ok (.iadd, 1) := by decide +kernel
theorem dX7_send_182 : decode cX7_send 182 = .ok (.iaload, 1) := by decide +kernel
theorem dX7_send_183 : decode cX7_send 183 = .ok (.i2l, 1) := by decide +kernel
theorem dX7_send_184 : decode cX7_send 184 = .ok (.iconst 3, 1) := by decide +kernel
theorem dX7_send_185 : decode cX7_send 185 = .ok (.iload 5, 2) := by decide +kernel
theorem dX7_send_187 : decode cX7_send 187 = .ok (.imul, 1) := by decide +kernel
theorem dX7_send_188 : decode cX7_send 188 = .ok (.lshl, 1) := by decide +kernel
theorem dX7_send_189 : decode cX7_send 189 = .ok (.lor, 1) := by decide +kernel
theorem dX7_send_190 : decode cX7_send 190 = .ok (.lastore, 1) := by decide +kernel
theorem dX7_send_191 : decode cX7_send 191 = .ok (.iinc 5 1, 3) := by decide +kernel
theorem dX7_send_194 : decode cX7_send 194 = .ok (.goto (-59), 3) := by decide +kernel
theorem dX7_send_197 : decode cX7_send 197 = .ok (.aload_n 0, 1) := by decide +kernel
theorem dX7_send_198 : decode cX7_send 198 = .ok (.getfield 87, 3) := by decide +kernel
theorem dX7_send_201 : decode cX7_send 201 = .ok (.iload_n 3, 1) := by decide +kernel
theorem dX7_send_202 : decode cX7_send 202 = .ok (.aload_n 0, 1) := by decide +kernel
theorem dX7_send_203 : decode cX7_send 203 = .ok (.iload_n 3, 1) := by decide +kernel
theorem dX7_send_204 : decode cX7_send 204 = .ok (.invokevirtual 124, 3) := by decide +kernel
theorem dX7_send_207 : decode cX7_send 207 = .ok (.iastore, 1) := by decide +kernel
theorem dX7_send_208 : decode cX7_send 208 = .ok (.aload_n 0, 1) := by decide +kernel
theorem dX7_send_209 : decode cX7_send 209 = .ok (.getfield 65, 3) := by decide +kernel
theorem dX7_send_212 : decode cX7_send 212 = .ok (.iload_n 2, 1) := by decide +kernel
theorem dX7_send_213 : decode cX7_send 213 = .ok (.dup2, 1) := by decide +kernel
theorem dX7_send_214 : decode cX7_send 214 = .ok (.iaload, 1) := by decide +kernel
theorem dX7_send_215 : decode cX7_send 215 = .ok (.iconst 1, 1) := by decide +kernel
theorem dX7_send_216 : decode cX7_send 216 = .ok (.iadd, 1) := by decide +kernel
theorem dX7_send_217 : decode cX7_send 217 = .ok (.iastore, 1) := by decide +kernel
theorem dX7_send_218 : decode cX7_send 218 = .ok (.aload_n 0, 1) := by decide +kernel
theorem dX7_send_219 : decode cX7_send 219 = .ok (.getfield 30, 3) := by decide +kernel
theorem dX7_send_222 : decode cX7_send 222 = .ok (.iload_n 1, 1) := by decide +kernel
theorem dX7_send_223 : decode cX7_send 223 = .ok (.dup2, 1) := by decide +kernel
theorem dX7_send_224 : decode cX7_send 224 = .ok (.saload, 1) := by decide +kernel
theorem dX7_send_225 : decode cX7_send 225 = .ok (.iconst 1, 1) := by decide +kernel
theorem dX7_send_226 : decode cX7_send 226 = .ok (.iadd, 1) := by decide +kernel
theorem dX7_send_227 : decode cX7_send 227 = .ok (.i2s, 1) := by decide +kernel
theorem dX7_send_228 : decode cX7_send 228 = .ok (.sastore, 1) := by decide +kernel
theorem dX7_send_229 : decode cX7_send 229 = .ok (.return_, 1) := by decide +kernel
set_option maxRecDepth 20000 in
theorem ggX7_advance_X7_isTwo : GoodIn wsX7_advance wsX7_isTwo := goodIn_r _ [11] (by decide +kernel) (by decide +kernel)
set_option maxRecDepth 20000 in
theorem gX7_advance_X7_isTwo : GoodIn wsX7_advance (va_wsS RX7 131 yX7_isTwo wsX7_isTwo) := goodIn_app (goodIn_of _ (by decide +kernel)) ggX7_advance_X7_isTwo
set_option maxRecDepth 20000 in
theorem ggX7_advance_X7_again : GoodIn wsX7_advance wsX7_again := goodIn_r _ [15, 2, 16, 17, 18, 19, 10, 20, 3, 6, 1, 21, 22, 23, 24, 25, 26, 27, 28, 29, 30, 31, 32, 33, 34, 35, 36, 37, 38, 39, 40, 41, 42, 61, 62, 63, 64, 65, 66, 67, 68, 69, 70, 71, 72, 73, 74, 75, 76, 77, 78, 79, 80, 81, 82, 83, 84, 85, 86, 87, 88, 89] (by decide +kernel) (by decide +kernel)
set_option maxRecDepth 20000 in
theorem gX7_advance_X7_again : GoodIn wsX7_advance (wsV RX7 135 RX7 yX7_again wsX7_again) := goodIn_app (goodIn_of _ (by decide +kernel)) ggX7_advance_X7_again
set_option maxRecDepth 20000 in
theorem ggX7_advance_X7_play : GoodIn wsX7_advance wsX7_play := goodIn_r _ [24, 16, 25, 26, 27, 28, 29, 30, 31, 32, 33, 17, 18, 19, 10, 20, 3, 6, 1, 34, 35, 36, 37, 38, 39, 40, 41, 42, 61, 62, 63, 64, 65, 66, 67, 68, 69, 70, 71, 72, 73, 74, 75, 76, 77, 78, 79, 80, 81, 82, 83, 84, 85, 86, 87, 88, 89] (by decide +kernel) (by decide +kernel)
set_option maxRecDepth 20000 in
theorem gX7_advance_X7_play : GoodIn wsX7_advance (wsV RX7 120 RX7 yX7_play wsX7_play) := goodIn_app (goodIn_of _ (by decide +kernel)) ggX7_advance_X7_play
set_option maxRecDepth 20000 in
theorem ggX7_advance_X7_send : GoodIn wsX7_advance wsX7_send := goodIn_r _ [46, 47, 3, 48, 49, 50, 2, 51, 52, 53, 54, 55, 6, 56, 57, 58, 59, 10, 60, 61, 62, 63, 64, 65, 66, 67, 68, 69, 70, 71, 72, 73, 74, 75, 76, 77, 78, 79, 80, 81, 82, 83, 84, 85, 86, 87, 88, 89] (by decide +kernel) (by decide +kernel)
set_option maxRecDepth 20000 in
theorem gX7_advance_X7_send : GoodIn wsX7_advance (wsV RX7 139 RX7 yX7_send wsX7_send) := goodIn_app (goodIn_of _ (by decide +kernel)) ggX7_advance_X7_send
theorem dX7_advance_0 : decode cX7_advance 0 = .ok (.iload_n 1, 1) := by decide +kernel
theorem dX7_advance_1 : decode cX7_advance 1 = .ok (.invokestatic 131, 3) := by decide +kernel
theorem dX7_advance_4 : decode cX7_advance 4 = .ok (.ifCond .eq 13, 3) := by decide +kernel
theorem dX7_advance_7 : decode cX7_advance 7 = .ok (.iload_n 2, 1) := by decide +kernel
theorem dX7_advance_8 : decode cX7_advance 8 = .ok (.ifCond .lt 9, 3) := by decide +kernel
theorem dX7_advance_11 : decode cX7_advance 11 = .ok (.iload_n 2, 1) := by decide +kernel
theorem dX7_advance_12 : decode cX7_advance 12 = .ok (.bipush 7, 2) := by decide +kernel
theorem dX7_advance_14 : decode cX7_advance 14 = .ok (.if_icmp .le 6, 3) := by decide +kernel
theorem dX7_advance_17 : decode cX7_advance 17 = .ok (.bipush (-2), 2) := by decide +kernel
theorem dX7_advance_19 : decode cX7_advance 19 = .ok (.ireturn, 1) := by decide +kernel
theorem dX7_advance_20 : decode cX7_advance 20 = .ok (.iconst 1, 1) := by decide +kernel
theorem dX7_advance_21 : decode cX7_advance 21 = .ok (.iload_n 1, 1) := by decide +kernel
theorem dX7_advance_22 : decode cX7_advance 22 = .ok (.isub, 1) := by decide +kernel
theorem dX7_advance_23 : decode cX7_advance 23 = .ok (.istore_n 3, 1) := by decide +kernel
theorem dX7_advance_24 : decode cX7_advance 24 = .ok (.aload_n 0, 1) := by decide +kernel
theorem dX7_advance_25 : decode cX7_advance 25 = .ok (.getfield 16, 3) := by decide +kernel
theorem dX7_advance_28 : decode cX7_advance 28 = .ok (.iload_n 1, 1) := by decide +kernel
theorem dX7_advance_29 : decode cX7_advance 29 = .ok (.iaload, 1) := by decide +kernel
theorem dX7_advance_30 : decode cX7_advance 30 = .ok (.ifCond .ge 79, 3) := by decide +kernel
theorem dX7_advance_33 : decode cX7_advance 33 = .ok (.aload_n 0, 1) := by decide +kernel
theorem dX7_advance_34 : decode cX7_advance 34 = .ok (.getfield 7, 3) := by decide +kernel
theorem dX7_advance_37 : decode cX7_advance 37 = .ok (.iload_n 1, 1) := by decide +kernel
theorem dX7_advance_38 : decode cX7_advance 38 = .ok (.iaload, 1) := by decide +kernel
theorem dX7_advance_39 : decode cX7_advance 39 = .ok (.aload_n 0, 1) := by decide +kernel
theorem dX7_advance_40 : decode cX7_advance 40 = .ok (.getfield 43, 3) := by decide +kernel
theorem dX7_advance_43 : decode cX7_advance 43 = .ok (.iconst 2, 1) := by decide +kernel
theorem dX7_advance_44 : decode cX7_advance 44 = .ok (.iload_n 1, 1) := by decide +kernel
theorem dX7_advance_45 : decode cX7_advance 45 = .ok (.imul, 1) := by decide +kernel
theorem dX7_advance_46 : decode cX7_advance 46 = .ok (.iload_n 3, 1) := by decide +kernel
theorem dX7_advance_47 : decode cX7_advance 47 = .ok (.iadd, 1) := by decide +kernel
theorem dX7_advance_48 : decode cX7_advance 48 = .ok (.iaload, 1) := by decide +kernel
theorem dX7_advance_49 : decode cX7_advance 49 = .ok (.isub, 1) := by decide +kernel
theorem dX7_advance_50 : decode cX7_advance 50 = .ok (.aload_n 0, 1) := by decide +kernel
theorem dX7_advance_51 : decode cX7_advance 51 = .ok (.getfield 94, 3) := by decide +kernel
theorem dX7_advance_54 : decode cX7_advance 54 = .ok (.if_icmp .lt 55, 3) := by decide +kernel
theorem dX7_advance_57 : decode cX7_advance 57 = .ok (.aload_n 0, 1) := by decide +kernel
theorem dX7_advance_58 : decode cX7_advance 58 = .ok (.getfield 13, 3) := by decide +kernel
theorem dX7_advance_61 : decode cX7_advance 61 = .ok (.iload_n 1, 1) := by decide +kernel
theorem dX7_advance_62 : decode cX7_advance 62 = .ok (.dup2, 1) := by decide +kernel
theorem dX7_advance_63 : decode cX7_advance 63 = .ok (.iaload, 1) := by decide +kernel
theorem dX7_advance_64 : decode cX7_advance 64 = .ok (.iconst 1, 1) := by decide +kernel
theorem dX7_advance_65 : decode cX7_advance 65 = .ok (.iadd, 1) := by decide +kernel
theorem dX7_advance_66 : decode cX7_advance 66 = .ok (.iastore, 1) := by decide +kernel
theorem dX7_advance_67 : decode cX7_advance 67 = .ok (.aload_n 0, 1) := by decide +kernel
theorem dX7_advance_68 : decode cX7_advance 68 = .ok (.getfield 13, 3) := by decide +kernel
theorem dX7_advance_71 : decode cX7_advance 71 = .ok (.iload_n 1, 1) := by decide +kernel
theorem dX7_advance_72 : decode cX7_advance 72 = .ok (.iaload, 1) := by decide +kernel
theorem dX7_advance_73 : decode cX7_advance 73 = .ok (.bipush 12, 2) := by decide +kernel
theorem dX7_advance_75 : decode cX7_advance 75 = .ok (.if_icmp .ne 32, 3) := by decide +kernel
theorem dX7_advance_78 : decode cX7_advance 78 = .ok (.aload_n 0, 1) := by decide +kernel
theorem dX7_advance_79 : decode cX7_advance 79 = .ok (.getfield 16, 3) := by decide +kernel
theorem dX7_advance_82 : decode cX7_advance 82 = .ok (.iload_n 1, 1) := by decide +kernel
theorem dX7_advance_83 : decode cX7_advance 83 = .ok (.aload_n 0, 1) := by decide +kernel
theorem dX7_advance_84 : decode cX7_advance 84 = .ok (.getfield 43, 3) := by decide +kernel
theorem dX7_advance_87 : decode cX7_advance 87 = .ok (.iconst 2, 1) := by decide +kernel
theorem dX7_advance_88 : decode cX7_advance 88 = .ok (.iload_n 1, 1) := by decide +kernel
theorem dX7_advance_89 : decode cX7_advance 89 = .ok (.imul, 1) := by decide +kernel
theorem dX7_advance_90 : decode cX7_advance 90 = .ok (.iload_n 3, 1) := by decide +kernel
theorem dX7_advance_91 : decode cX7_advance 91 = .ok (.iadd, 1) := by decide +kernel
theorem dX7_advance_92 : decode cX7_advance 92 = .ok (.iaload, 1) := by decide +kernel
theorem dX7_advance_93 : decode cX7_advance 93 = .ok (.iastore, 1) := by decide +kernel
theorem dX7_advance_94 : decode cX7_advance 94 = .ok (.aload_n 0, 1) := by decide +kernel
theorem dX7_advance_95 : decode cX7_advance 95 = .ok (.iload_n 1, 1) := by decide +kernel
theorem dX7_advance_96 : decode cX7_advance 96 = .ok (.aload_n 0, 1) := by decide +kernel
theorem dX7_advance_97 : decode cX7_advance 97 = .ok (.getfield 16, 3) := by decide +kernel
theorem dX7_advance_100 : decode cX7_advance 100 = .ok (.iload_n 1, 1) := by decide +kernel
theorem dX7_advance_101 : decode cX7_advance 101 = .ok (.iaload, 1) := by decide +kernel
theorem dX7_advance_102 : decode cX7_advance 102 = .ok (.invokevirtual 135, 3) := by decide +kernel
theorem dX7_advance_105 : decode cX7_advance 105 = .ok (.istore 4, 2) := by decide +kernel
theorem dX7_advance_107 : decode cX7_advance 107 = .ok (.iconst (-1), 1) := by decide +kernel
theorem dX7_advance_108 : decode cX7_advance 108 = .ok (.ireturn, 1) := by decide +kernel
theorem dX7_advance_109 : decode cX7_advance 109 = .ok (.aload_n 0, 1) := by decide +kernel
theorem dX7_advance_110 : decode cX7_advance 110 = .ok (.getfield 37, 3) := by decide +kernel
theorem dX7_advance_113 : decode cX7_advance 113 = .ok (.sipush 1200, 3) := by decide +kernel
theorem dX7_advance_116 : decode cX7_advance 116 = .ok (.iload_n 1, 1) := by decide +kernel
theorem dX7_advance_117 : decode cX7_advance 117 = .ok (.imul, 1) := by decide +kernel
theorem dX7_advance_118 : decode cX7_advance 118 = .ok (.sipush 600, 3) := by decide +kernel
theorem dX7_advance_121 : decode cX7_advance 121 = .ok (.iload_n 1, 1) := by decide +kernel
theorem dX7_advance_122 : decode cX7_advance 122 = .ok (.imul, 1) := by decide +kernel
theorem dX7_advance_123 : decode cX7_advance 123 = .ok (.iadd, 1) := by decide +kernel
theorem dX7_advance_124 : decode cX7_advance 124 = .ok (.aload_n 0, 1) := by decide +kernel
theorem dX7_advance_125 : decode cX7_advance 125 = .ok (.getfield 7, 3) := by decide +kernel
theorem dX7_advance_128 : decode cX7_advance 128 = .ok (.iload_n 1, 1) := by decide +kernel
theorem dX7_advance_129 : decode cX7_advance 129 = .ok (.iaload, 1) := by decide +kernel
theorem dX7_advance_130 : decode cX7_advance 130 = .ok (.iadd, 1) := by decide +kernel
theorem dX7_advance_131 : decode cX7_advance 131 = .ok (.aload_n 0, 1) := by decide +kernel
theorem dX7_advance_132 : decode cX7_advance 132 = .ok (.getfield 90, 3) := by decide +kernel
theorem dX7_advance_135 : decode cX7_advance 135 = .ok (.iadd, 1) := by decide +kernel
theorem dX7_advance_136 : decode cX7_advance 136 = .ok (.iload_n 2, 1) := by decide +kernel
theorem dX7_advance_137 : decode cX7_advance 137 = .ok (.iastore, 1) := by decide +kernel
theorem dX7_advance_138 : decode cX7_advance 138 = .ok (.aload_n 0, 1) := by decide +kernel
theorem dX7_advance_139 : decode cX7_advance 139 = .ok (.getfield 43, 3) := by decide +kernel
theorem dX7_advance_142 : decode cX7_advance 142 = .ok (.iconst 2, 1) := by decide +kernel
theorem dX7_advance_143 : decode cX7_advance 143 = .ok (.iload_n 1, 1) := by decide +kernel
theorem dX7_advance_144 : decode cX7_advance 144 = .ok (.imul, 1) := by decide +kernel
theorem dX7_advance_145 : decode cX7_advance 145 = .ok (.iload_n 1, 1) := by decide +kernel
theorem dX7_advance_146 : decode cX7_advance 146 = .ok (.iadd, 1) := by decide +kernel
theorem dX7_advance_147 : decode cX7_advance 147 = .ok (.aload_n 0, 1) := by decide +kernel
theorem dX7_advance_148 : decode cX7_advance 148 = .ok (.getfield 7, 3) := by decide +kernel
theorem dX7_advance_151 : decode cX7_advance 151 = .ok (.iload_n 1, 1) := by decide +kernel
theorem dX7_advance_152 : decode cX7_advance 152 = .ok (.iaload, 1) := by decide +kernel
theorem dX7_advance_153 : decode cX7_advance 153 = .ok (.aload_n 0, 1) := by decide +kernel
theorem dX7_advance_154 : decode cX7_advance 154 = .ok (.getfield 90, 3) := by decide +kernel
theorem dX7_advance_157 : decode cX7_advance 157 = .ok (.iadd, 1) := by decide +kernel
theorem dX7_advance_158 : decode cX7_advance 158 = .ok (.iconst 1, 1) := by decide +kernel
theorem dX7_advance_159 : decode cX7_advance 159 = .ok (.iadd, 1) := by decide +kernel
theorem dX7_advance_160 : decode cX7_advance 160 = .ok (.iastore, 1) := by decide +kernel
theorem dX7_advance_161 : decode cX7_advance 161 = .ok (.aload_n 0, 1) := by decide +kernel
theorem dX7_advance_162 : decode cX7_advance 162 = .ok (.iload_n 1, 1) := by decide +kernel
theorem dX7_advance_163 : decode cX7_advance 163 = .ok (.aload_n 0, 1) := by decide +kernel
theorem dX7_advance_164 : decode cX7_advance 164 = .ok (.getfield 7, 3) := by decide +kernel
theorem dX7_advance_167 : decode cX7_advance 167 = .ok (.iload_n 1, 1) := by decide +kernel
theorem dX7_advance_168 : decode cX7_advance 168 = .ok (.iaload, 1) := by decide +kernel
theorem dX7_advance_169 : decode cX7_advance 169 = .ok (.invokevirtual 120, 3) := by decide +kernel
theorem dX7_advance_172 : decode cX7_advance 172 = .ok (.aload_n 0, 1) := by decide +kernel
theorem dX7_advance_173 : decode cX7_advance 173 = .ok (.getfield 7, 3) := by decide +kernel
theorem dX7_advance_176 : decode cX7_advance 176 = .ok (.iload_n 1, 1) := by decide +kernel
theorem dX7_advance_177 : decode cX7_advance 177 = .ok (.dup2, 1) := by decide +kernel
theorem dX7_advance_178 : decode cX7_advance 178 = .ok (.iaload, 1) := by decide +kernel
theorem dX7_advance_179 : decode cX7_advance 179 = .ok (.iconst 1, 1) := by decide +kernel
theorem dX7_advance_180 : decode cX7_advance 180 = .ok (.iadd, 1) := by decide +kernel
theorem dX7_advance_181 : decode cX7_advance 181 = .ok (.iastore, 1) := by decide +kernel
theorem dX7_advance_182 : decode cX7_advance 182 = .ok (.aload_n 0, 1) := by decide +kernel
theorem dX7_advance_183 : decode cX7_advance 183 = .ok (.iload_n 1, 1) := by decide +kernel
theorem dX7_advance_184 : decode cX7_advance 184 = .ok (.invokevirtual 139, 3) := by decide +kernel
theorem dX7_advance_187 : decode cX7_advance 187 = .ok (.aload_n 0, 1) := by decide +kernel
theorem dX7_advance_188 : decode cX7_advance 188 = .ok (.getfield 7, 3) := by decide +kernel
theorem dX7_advance_191 : decode cX7_advance 191 = .ok (.iload_n 1, 1) := by decide +kernel
theorem dX7_advance_192 : decode cX7_advance 192 = .ok (.iaload, 1) := by decide +kernel
theorem dX7_advance_193 : decode cX7_advance 193 = .ok (.iconst 1, 1) := by decide +kernel
theorem dX7_advance_194 : decode cX7_advance 194 = .ok (.isub, 1) := by decide +kernel
theorem dX7_advance_195 : decode cX7_advance 195 = .ok (.ireturn, 1) := by decide +kernel
set_option maxRecDepth 20000 in
theorem ggX7_deliver_X7_isTwo : GoodIn wsX7_deliver wsX7_isTwo := goodIn_r _ [24] (by decide +kernel) (by decide +kernel)
set_option maxRecDepth 20000 in
theorem gX7_deliver_X7_isTwo : GoodIn wsX7_deliver (va_wsS RX7 131 yX7_isTwo wsX7_isTwo) := goodIn_app (goodIn_of _ (by decide +kernel)) ggX7_deliver_X7_isTwo
set_option maxRecDepth 20000 in
theorem ggX7_deliver_X7_take : GoodIn wsX7_deliver wsX7_take := goodIn_r _ [28, 1, 29, 30, 31, 23, 32, 2, 12, 13, 17, 16, 19, 4, 72, 73, 74, 75, 76, 77, 78, 79, 80, 81, 82, 83, 84, 85, 86, 87, 88, 89, 90, 91, 92, 93, 94, 95, 96, 97, 98, 99, 100] (by decide +kernel) (by decide +kernel)
set_option maxRecDepth 20000 in
theorem gX7_deliver_X7_take : GoodIn wsX7_deliver (wsV RX7 143 RX7 yX7_take wsX7_take) := goodIn_app (goodIn_of _ (by decide +kernel)) ggX7_deliver_X7_take
set_option maxRecDepth 20000 in
theorem ggX7_deliver_X7_check : GoodIn wsX7_deliver wsX7_check := goodIn_r _ [36, 2, 12, 13, 17, 16, 19, 72, 73, 74, 75, 76, 77, 78, 79, 80, 81, 82, 83, 84, 85, 86, 87, 88, 89, 90, 91, 92, 93, 94, 95, 96, 97, 98, 99, 100] (by decide +kernel) (by decide +kernel)
set_option maxRecDepth 20000 in
theorem gX7_deliver_X7_check : GoodIn wsX7_deliver (wsV RX7 124 RX7 yX7_check wsX7_check) := goodIn_app (goodIn_of _ (by decide +kernel)) ggX7_deliver_X7_check
set_option maxRecDepth 20000 in
theorem ggX7_deliver_X7_replay : GoodIn wsX7_deliver wsX7_replay := goodIn_r _ [40, 15, 11, 41, 18, 42, 43, 44, 23, 45, 46, 47, 48, 49, 5, 50, 51, 52, 53, 54, 55, 56, 57, 58, 59, 60, 61, 62, 63, 64, 65, 66, 67, 68, 69, 70, 71, 72, 73, 74, 75, 76, 77, 78, 79, 80, 81, 82, 83, 84, 85, 86, 87, 88, 89, 90, 91, 92, 93, 94, 95, 96, 97, 98, 99, 100] (by decide +kernel) (by decide +kernel)
set_option maxRecDepth 20000 in
theorem gX7_deliver_X7_replay : GoodIn wsX7_deliver (wsV RX7 150 RX7 yX7_replay wsX7_replay) := goodIn_app (goodIn_of _ (by decide +kernel)) ggX7_deliver_X7_replay
theorem dX7_deliver_0 : decode cX7_deliver 0 = .ok (.iload_n 1, 1) := by decide +kernel
theorem dX7_deliver_1 : decode cX7_deliver 1 = .ok (.invokestatic 131, 3) := by decide +kernel
theorem dX7_deliver_4 : decode cX7_deliver 4 = .ok (.ifCond .eq 12, 3) := by decide +kernel
theorem dX7_deliver_7 : decode cX7_deliver 7 = .ok (.aload_n 0, 1) := by decide +kernel
theorem dX7_deliver_8 : decode cX7_deliver 8 = .ok (.getfield 65, 3) := by decide +kernel
theorem dX7_deliver_11 : decode cX7_deliver 11 = .ok (.iload_n 1, 1) := by decide +kernel
theorem dX7_deliver_12 : decode cX7_deliver 12 = .ok (.iaload, 1) := by decide +kernel
theorem dX7_deliver_13 : decode cX7_deliver 13 = .ok (.ifCond .ne 5, 3) := by decide +kernel
theorem dX7_deliver_16 : decode cX7_deliver 16 = .ok (.iconst (-1), 1) := by decide +kernel
theorem dX7_deliver_17 : decode cX7_deliver 17 = .ok (.ireturn, 1) := by decide +kernel
theorem dX7_deliver_18 : decode cX7_deliver 18 = .ok (.aload_n 0, 1) := by decide +kernel
theorem dX7_deliver_19 : decode cX7_deliver 19 = .ok (.iload_n 1, 1) := by decide +kernel
theorem dX7_deliver_20 : decode cX7_deliver 20 = .ok (.invokevirtual 143, 3) := by decide +kernel
theorem dX7_deliver_23 : decode cX7_deliver 23 = .ok (.aload_n 0, 1) := by decide +kernel
theorem dX7_deliver_24 : decode cX7_deliver 24 = .ok (.getfield 68, 3) := by decide +kernel
theorem dX7_deliver_27 : decode cX7_deliver 27 = .ok (.bipush 24, 2) := by decide +kernel
theorem dX7_deliver_29 : decode cX7_deliver 29 = .ok (.saload, 1) := by decide +kernel
theorem dX7_deliver_30 : decode cX7_deliver 30 = .ok (.aload_n 0, 1) := by decide +kernel
theorem dX7_deliver_31 : decode cX7_deliver 31 = .ok (.getfield 26, 3) := by decide +kernel
theorem dX7_deliver_34 : decode cX7_deliver 34 = .ok (.iload_n 1, 1) := by decide +kernel
theorem dX7_deliver_35 : decode cX7_deliver 35 = .ok (.saload, 1) := by decide +kernel
theorem dX7_deliver_36 : decode cX7_deliver 36 = .ok (.isub, 1) := by decide +kernel
theorem dX7_deliver_37 : decode cX7_deliver 37 = .ok (.i2s, 1) := by decide +kernel
theorem dX7_deliver_38 : decode cX7_deliver 38 = .ok (.istore_n 2, 1) := by decide +kernel
theorem dX7_deliver_39 : decode cX7_deliver 39 = .ok (.aload_n 0, 1) := by decide +kernel
theorem dX7_deliver_40 : decode cX7_deliver 40 = .ok (.getfield 87, 3) := by decide +kernel
theorem dX7_deliver_43 : decode cX7_deliver 43 = .ok (.bipush 24, 2) := by decide +kernel
theorem dX7_deliver_45 : decode cX7_deliver 45 = .ok (.iaload, 1) := by decide +kernel
theorem dX7_deliver_46 : decode cX7_deliver 46 = .ok (.aload_n 0, 1) := by decide +kernel
theorem dX7_deliver_47 : decode cX7_deliver 47 = .ok (.bipush 24, 2) := by decide +kernel
theorem dX7_deliver_49 : decode cX7_deliver 49 = .ok (.invokevirtual 124, 3) := by decide +kernel
theorem dX7_deliver_52 : decode cX7_deliver 52 = .ok (.if_icmp .ne 25, 3) := by decide +kernel
theorem dX7_deliver_55 : decode cX7_deliver 55 = .ok (.aload_n 0, 1) := by decide +kernel
theorem dX7_deliver_56 : decode cX7_deliver 56 = .ok (.getfield 16, 3) := by decide +kernel
theorem dX7_deliver_59 : decode cX7_deliver 59 = .ok (.iload_n 1, 1) := by decide +kernel
theorem dX7_deliver_60 : decode cX7_deliver 60 = .ok (.iaload, 1) := by decide +kernel
theorem dX7_deliver_61 : decode cX7_deliver 61 = .ok (.ifCond .ge 16, 3) := by decide +kernel
theorem dX7_deliver_64 : decode cX7_deliver 64 = .ok (.aload_n 0, 1) := by decide +kernel
theorem dX7_deliver_65 : decode cX7_deliver 65 = .ok (.getfield 22, 3) := by decide +kernel
theorem dX7_deliver_68 : decode cX7_deliver 68 = .ok (.iload_n 1, 1) := by decide +kernel
theorem dX7_deliver_69 : decode cX7_deliver 69 = .ok (.baload, 1) := by decide +kernel
theorem dX7_deliver_70 : decode cX7_deliver 70 = .ok (.ifCond .eq 10, 3) := by decide +kernel
theorem dX7_deliver_73 : decode cX7_deliver 73 = .ok (.iload_n 2, 1) := by decide +kernel
theorem dX7_deliver_74 : decode cX7_deliver 74 = .ok (.ifCond .gt 6, 3) := by decide +kernel
theorem dX7_deliver_77 : decode cX7_deliver 77 = .ok (.bipush (-2), 2) := by decide +kernel
theorem dX7_deliver_79 : decode cX7_deliver 79 = .ok (.ireturn, 1) := by decide +kernel
theorem dX7_deliver_80 : decode cX7_deliver 80 = .ok (.aload_n 0, 1) := by decide +kernel
theorem dX7_deliver_81 : decode cX7_deliver 81 = .ok (.getfield 22, 3) := by decide +kernel
theorem dX7_deliver_84 : decode cX7_deliver 84 = .ok (.iload_n 1, 1) := by decide +kernel
theorem dX7_deliver_85 : decode cX7_deliver 85 = .ok (.iconst 1, 1) := by decide +kernel
theorem dX7_deliver_86 : decode cX7_deliver 86 = .ok (.bastore, 1) := by decide +kernel
theorem dX7_deliver_87 : decode cX7_deliver 87 = .ok (.aload_n 0, 1) := by decide +kernel
theorem dX7_deliver_88 : decode cX7_deliver 88 = .ok (.getfield 26, 3) := by decide +kernel
theorem dX7_deliver_91 : decode cX7_deliver 91 = .ok (.iload_n 1, 1) := by decide +kernel
theorem dX7_deliver_92 : decode cX7_deliver 92 = .ok (.aload_n 0, 1) := by decide +kernel
theorem dX7_deliver_93 : decode cX7_deliver 93 = .ok (.getfield 68, 3) := by decide +kernel
theorem dX7_deliver_96 : decode cX7_deliver 96 = .ok (.bipush 24, 2) := by decide +kernel
theorem dX7_deliver_98 : decode cX7_deliver 98 = .ok (.saload, 1) := by decide +kernel
theorem dX7_deliver_99 : decode cX7_deliver 99 = .ok (.sastore, 1) := by decide +kernel
theorem dX7_deliver_100 : decode cX7_deliver 100 = .ok (.aload_n 0, 1) := by decide +kernel
theorem dX7_deliver_101 : decode cX7_deliver 101 = .ok (.getfield 13, 3) := by decide +kernel
theorem dX7_deliver_104 : decode cX7_deliver 104 = .ok (.iload_n 1, 1) := by decide +kernel
theorem dX7_deliver_105 : decode cX7_deliver 105 = .ok (.iconst 0, 1) := by decide +kernel
theorem dX7_deliver_106 : decode cX7_deliver 106 = .ok (.iastore, 1) := by decide +kernel
theorem dX7_deliver_107 : decode cX7_deliver 107 = .ok (.aload_n 0, 1) := by decide +kernel
theorem dX7_deliver_108 : decode cX7_deliver 108 = .ok (.getfield 33, 3) := by decide +kernel
theorem dX7_deliver_111 : decode cX7_deliver 111 = .ok (.iload_n 1, 1) := by decide +kernel
theorem dX7_deliver_112 : decode cX7_deliver 112 = .ok (.aload_n 0, 1) := by decide +kernel
theorem dX7_deliver_113 : decode cX7_deliver 113 = .ok (.getfield 33, 3) := by decide +kernel
theorem dX7_deliver_116 : decode cX7_deliver 116 = .ok (.iload_n 1, 1) := by decide +kernel
theorem dX7_deliver_117 : decode cX7_deliver 117 = .ok (.faload, 1) := by decide +kernel
theorem dX7_deliver_118 : decode cX7_deliver 118 = .ok (.ldc 146, 2) := by decide +kernel
theorem dX7_deliver_120 : decode cX7_deliver 120 = .ok (.fmul, 1) := by decide +kernel
theorem dX7_deliver_121 : decode cX7_deliver 121 = .ok (.ldc 147, 2) := by decide +kernel
theorem dX7_deliver_123 : decode cX7_deliver 123 = .ok (.aload_n 0, 1) := by decide +kernel
theorem dX7_deliver_124 : decode cX7_deliver 124 = .ok (.getfield 7, 3) := by decide +kernel
theorem dX7_deliver_127 : decode cX7_deliver 127 = .ok (.iload_n 1, 1) := by decide +kernel
theorem dX7_deliver_128 : decode cX7_deliver 128 = .ok (.iaload, 1) := by decide +kernel
theorem dX7_deliver_129 : decode cX7_deliver 129 = .ok (.aload_n 0, 1) := by decide +kernel
theorem dX7_deliver_130 : decode cX7_deliver 130 = .ok (.getfield 71, 3) := by decide +kernel
theorem dX7_deliver_133 : decode cX7_deliver 133 = .ok (.bipush 24, 2) := by decide +kernel
theorem dX7_deliver_135 : decode cX7_deliver 135 = .ok (.iaload, 1) := by decide +kernel
theorem dX7_deliver_136 : decode cX7_deliver 136 = .ok (.isub, 1) := by decide +kernel
theorem dX7_deliver_137 : decode cX7_deliver 137 = .ok (.i2f, 1) := by decide +kernel
theorem dX7_deliver_138 : decode cX7_deliver 138 = .ok (.fmul, 1) := by decide +kernel
theorem dX7_deliver_139 : decode cX7_deliver 139 = .ok (.fadd, 1) := by decide +kernel
theorem dX7_deliver_140 : decode cX7_deliver 140 = .ok (.fastore, 1) := by decide +kernel
theorem dX7_deliver_141 : decode cX7_deliver 141 = .ok (.aload_n 0, 1) := by decide +kernel
theorem dX7_deliver_142 : decode cX7_deliver 142 = .ok (.getfield 74, 3) := by decide +kernel
theorem dX7_deliver_145 : decode cX7_deliver 145 = .ok (.bipush 24, 2) := by decide +kernel
theorem dX7_deliver_147 : decode cX7_deliver 147 = .ok (.iaload, 1) := by decide +kernel
theorem dX7_deliver_148 : decode cX7_deliver 148 = .ok (.aload_n 0, 1) := by decide +kernel
theorem dX7_deliver_149 : decode cX7_deliver 149 = .ok (.getfield 19, 3) := by decide +kernel
theorem dX7_deliver_152 : decode cX7_deliver 152 = .ok (.iload_n 1, 1) := by decide +kernel
theorem dX7_deliver_153 : decode cX7_deliver 153 = .ok (.iaload, 1) := by decide +kernel
theorem dX7_deliver_154 : decode cX7_deliver 154 = .ok (.if_icmp .le 36, 3) := by decide +kernel
theorem dX7_deliver_157 : decode cX7_deliver 157 = .ok (.aload_n 0, 1) := by decide +kernel
theorem dX7_deliver_158 : decode cX7_deliver 158 = .ok (.getfield 74, 3) := by decide +kernel
theorem dX7_deliver_161 : decode cX7_deliver 161 = .ok (.bipush 24, 2) := by decide +kernel
theorem dX7_deliver_163 : decode cX7_deliver 163 = .ok (.iaload, 1) := by decide +kernel
theorem dX7_deliver_164 : decode cX7_deliver 164 = .ok (.aload_n 0, 1) := by decide +kernel
theorem dX7_deliver_165 : decode cX7_deliver 165 = .ok (.getfield 43, 3) := by decide +kernel
theorem dX7_deliver_168 : decode cX7_deliver 168 = .ok (.iconst 2, 1) := by decide +kernel
theorem dX7_deliver_169 : decode cX7_deliver 169 = .ok (.iload_n 1, 1) := by decide +kernel
theorem dX7_deliver_170 : decode cX7_deliver 170 = .ok (.imul, 1) := by decide +kernel
theorem dX7_deliver_171 : decode cX7_deliver 171 = .ok (.iload_n 1, 1) := by decide +kernel
theorem dX7_deliver_172 : decode cX7_deliver 172 = .ok (.iadd, 1) := by decide +kernel
theorem dX7_deliver_173 : decode cX7_deliver 173 = .ok (.iaload, 1) := by decide +kernel
theorem dX7_deliver_174 : decode cX7_deliver 174 = .ok (.if_icmp .gt 16, 3) := by decide +kernel
theorem dX7_deliver_177 : decode cX7_deliver 177 = .ok (.aload_n 0, 1) := by decide +kernel
theorem dX7_deliver_178 : decode cX7_deliver 178 = .ok (.getfield 19, 3) := by decide +kernel
theorem dX7_deliver_181 : decode cX7_deliver 181 = .ok (.iload_n 1, 1) := by decide +kernel
theorem dX7_deliver_182 : decode cX7_deliver 182 = .ok (.aload_n 0, 1) := by decide +kernel
theorem dX7_deliver_183 : decode cX7_deliver 183 = .ok (.getfield 74, 3) := by decide +kernel
theorem dX7_deliver_186 : decode cX7_deliver 186 = .ok (.bipush 24, 2) := by decide +kernel
theorem dX7_deliver_188 : decode cX7_deliver 188 = .ok (.iaload, 1) := by decide +kernel
theorem dX7_deliver_189 : decode cX7_deliver 189 = .ok (.iastore, 1) := by decide +kernel
theorem dX7_deliver_190 : decode cX7_deliver 190 = .ok (.iconst 1, 1) := by decide +kernel
theorem dX7_deliver_191 : decode cX7_deliver 191 = .ok (.iload_n 1, 1) := by decide +kernel
theorem dX7_deliver_192 : decode cX7_deliver 192 = .ok (.isub, 1) := by decide +kernel
theorem dX7_deliver_193 : decode cX7_deliver 193 = .ok (.istore_n 3, 1) := by decide +kernel
theorem dX7_deliver_194 : decode cX7_deliver 194 = .ok (.aload_n 0, 1) := by decide +kernel
theorem dX7_deliver_195 : decode cX7_deliver 195 = .ok (.getfield 43, 3) := by decide +kernel
theorem dX7_deliver_198 : decode cX7_deliver 198 = .ok (.iconst 2, 1) := by decide +kernel
theorem dX7_deliver_199 : decode cX7_deliver 199 = .ok (.iload_n 1, 1) := by decide +kernel
theorem dX7_deliver_200 : decode cX7_deliver 200 = .ok (.imul, 1) := by decide +kernel
theorem dX7_deliver_201 : decode cX7_deliver 201 = .ok (.iload_n 3, 1) := by decide +kernel
theorem dX7_deliver_202 : decode cX7_deliver 202 = .ok (.iadd, 1) := by decide +kernel
theorem dX7_deliver_203 : decode cX7_deliver 203 = .ok (.iaload, 1) := by decide +kernel
theorem dX7_deliver_204 : decode cX7_deliver 204 = .ok (.istore 4, 2) := by decide +kernel
theorem dX7_deliver_206 : decode cX7_deliver 206 = .ok (.aload_n 0, 1) := by decide +kernel
theorem dX7_deliver_207 : decode cX7_deliver 207 = .ok (.getfield 80, 3) := by decide +kernel
theorem dX7_deliver_210 : decode cX7_deliver 210 = .ok (.bipush 24, 2) := by decide +kernel
theorem dX7_deliver_212 : decode cX7_deliver 212 = .ok (.iaload, 1) := by decide +kernel
theorem dX7_deliver_213 : decode cX7_deliver 213 = .ok (.bipush 16, 2) := by decide +kernel
theorem dX7_deliver_215 : decode cX7_deliver 215 = .ok (.if_icmp .le 8, 3) := by decide +kernel
theorem dX7_deliver_218 : decode cX7_deliver 218 = .ok (.bipush 16, 2) := by decide +kernel
theorem dX7_deliver_220 : decode cX7_deliver 220 = .ok (.goto 10, 3) := by decide +kernel
theorem dX7_deliver_223 : decode cX7_deliver 223 = .ok (.aload_n 0, 1) := by decide +kernel
theorem dX7_deliver_224 : decode cX7_deliver 224 = .ok (.getfield 80, 3) := by decide +kernel
theorem dX7_deliver_227 : decode cX7_deliver 227 = .ok (.bipush 24, 2) := by decide +kernel
theorem dX7_deliver_229 : decode cX7_deliver 229 = .ok (.iaload, 1) := by decide +kernel
theorem dX7_deliver_230 : decode cX7_deliver 230 = .ok (.istore 5, 2) := by decide +kernel
theorem dX7_deliver_232 : decode cX7_deliver 232 = .ok (.iload 4, 2) := by decide +kernel
theorem dX7_deliver_234 : decode cX7_deliver 234 = .ok (.i2l, 1) := by decide +kernel
theorem dX7_deliver_235 : decode cX7_deliver 235 = .ok (.aload_n 0, 1) := by decide +kernel
theorem dX7_deliver_236 : decode cX7_deliver 236 = .ok (.getfield 77, 3) := by decide +kernel
theorem dX7_deliver_239 : decode cX7_deliver 239 = .ok (.bipush 24, 2) := by decide +kernel
theorem dX7_deliver_241 : decode cX7_deliver 241 = .ok (.iaload, 1) := by decide +kernel
theorem dX7_deliver_242 : decode cX7_deliver 242 = .ok (.i2l, 1) := by decide +kernel
theorem dX7_deliver_243 : decode cX7_deliver 243 = .ok (.lsub, 1) := by decide +kernel
theorem dX7_deliver_244 : decode cX7_deliver 244 = .ok (.lstore 6, 2) := by decide +kernel
theorem dX7_deliver_246 : decode cX7_deliver 246 = .ok (.lload 6, 2) := by decide +kernel
theorem dX7_deliver_248 : decode cX7_deliver 248 = .ok (.lconst 0, 1) := by decide +kernel
theorem dX7_deliver_249 : decode cX7_deliver 249 = .ok (.lcmp, 1) := by decide +kernel
theorem dX7_deliver_250 : decode cX7_deliver 250 = .ok (.ifCond .lt 102, 3) := by decide +kernel
theorem dX7_deliver_253 : decode cX7_deliver 253 = .ok (.lload 6, 2) := by decide +kernel
theorem dX7_deliver_255 : decode cX7_deliver 255 = .ok (.iload 5, 2) := by decide +kernel
theorem dX7_deliver_257 : decode cX7_deliver 257 = .ok (.i2l, 1) := by decide +kernel
theorem dX7_deliver_258 : decode cX7_deliver 258 = .ok (.lcmp, 1) := by decide +kernel
theorem dX7_deliver_259 : decode cX7_deliver 259 = .ok (.ifCond .ge 93, 3) := by decide +kernel
theorem dX7_deliver_262 : decode cX7_deliver 262 = .ok (.aload_n 0, 1) := by decide +kernel
theorem dX7_deliver_263 : decode cX7_deliver 263 = .ok (.getfield 43, 3) := by decide +kernel
theorem dX7_deliver_266 : decode cX7_deliver 266 = .ok (.iconst 2, 1) := by decide +kernel
theorem dX7_deliver_267 : decode cX7_deliver 267 = .ok (.iload_n 1, 1) := by decide +kernel
theorem dX7_deliver_268 : decode cX7_deliver 268 = .ok (.imul, 1) := by decide +kernel
theorem dX7_deliver_269 : decode cX7_deliver 269 = .ok (.iload_n 3, 1) := by decide +kernel
theorem dX7_deliver_270 : decode cX7_deliver 270 = .ok (.iadd, 1) := by decide +kernel
theorem dX7_deliver_271 : decode cX7_deliver 271 = .ok (.iaload, 1) := by decide +kernel
theorem dX7_deliver_272 : decode cX7_deliver 272 = .ok (.aload_n 0, 1) := by decide +kernel
theorem dX7_deliver_273 : decode cX7_deliver 273 = .ok (.getfield 7, 3) := by decide +kernel
theorem dX7_deliver_276 : decode cX7_deliver 276 = .ok (.iload_n 1, 1) := by decide +kernel
theorem dX7_deliver_277 : decode cX7_deliver 277 = .ok (.iaload, 1) := by decide +kernel
theorem dX7_deliver_278 : decode cX7_deliver 278 = .ok (.bipush 20, 2) := by decide +kernel
theorem dX7_deliver_280 : decode cX7_deliver 280 = .ok (.iadd, 1) := by decide +kernel
theorem dX7_deliver_281 : decode cX7_deliver 281 = .ok (.if_icmp .ge 71, 3) := by decide +kernel
theorem dX7_deliver_284 : decode cX7_deliver 284 = .ok (.aload_n 0, 1) := by decide +kernel
theorem dX7_deliver_285 : decode cX7_deliver 285 = .ok (.getfield 37, 3) := by decide +kernel
theorem dX7_deliver_288 : decode cX7_deliver 288 = .ok (.sipush 1200, 3) := by decide +kernel
theorem dX7_deliver_291 : decode cX7_deliver 291 = .ok (.iload_n 1, 1) := by decide +kernel
theorem dX7_deliver_292 : decode cX7_deliver 292 = .ok (.imul, 1) := by decide +kernel
theorem dX7_deliver_293 : decode cX7_deliver 293 = .ok (.sipush 600, 3) := by decide +kernel
theorem dX7_deliver_296 : decode cX7_deliver 296 = .ok (.iload_n 3, 1) := by decide +kernel
theorem dX7_deliver_297 : decode cX7_deliver 297 = .ok (.imul, 1) := by decide +kernel
theorem dX7_deliver_298 : decode cX7_deliver 298 = .ok (.iadd, 1) := by decide +kernel
theorem dX7_deliver_299 : decode cX7_deliver 299 = .ok (.aload_n 0, 1) := by decide +kernel
theorem dX7_deliver_300 : decode cX7_deliver 300 = .ok (.getfield 43, 3) := by decide +kernel
theorem dX7_deliver_303 : decode cX7_deliver 303 = .ok (.iconst 2, 1) := by decide +kernel
theorem dX7_deliver_304 : decode cX7_deliver 304 = .ok (.iload_n 1, 1) := by decide +kernel
theorem dX7_deliver_305 : decode cX7_deliver 305 = .ok (.imul, 1) := by decide +kernel
theorem dX7_deliver_306 : decode cX7_deliver 306 = .ok (.iload_n 3, 1) := by decide +kernel
theorem dX7_deliver_307 : decode cX7_deliver 307 = .ok (.iadd, 1) := by decide +kernel
theorem dX7_deliver_308 : decode cX7_deliver 308 = .ok (.iaload, 1) := by decide +kernel
theorem dX7_deliver_309 : decode cX7_deliver 309 = .ok (.iadd, 1) := by decide +kernel
theorem dX7_deliver_310 : decode cX7_deliver 310 = .ok (.aload_n 0, 1) := by decide +kernel
theorem dX7_deliver_311 : decode cX7_deliver 311 = .ok (.getfield 83, 3) := by decide +kernel
theorem dX7_deliver_314 : decode cX7_deliver 314 = .ok (.bipush 24, 2) := by decide +kernel
theorem dX7_deliver_316 : decode cX7_deliver 316 = .ok (.laload, 1) := by decide +kernel
theorem dX7_deliver_317 : decode cX7_deliver 317 = .ok (.iconst 3, 1) := by decide +kernel
theorem dX7_deliver_318 : decode cX7_deliver 318 = .ok (.lload 6, 2) := by decide +kernel
theorem dX7_deliver_320 : decode cX7_deliver 320 = .ok (.l2i, 1) := by decide +kernel
theorem dX7_deliver_321 : decode cX7_deliver 321 = .ok (.imul, 1) := by decide +kernel
theorem dX7_deliver_322 : decode cX7_deliver 322 = .ok (.lshr, 1) := by decide +kernel
theorem dX7_deliver_323 : decode cX7_deliver 323 = .ok (.ldc2_w 148, 3) := by decide +kernel
theorem dX7_deliver_326 : decode cX7_deliver 326 = .ok (.land, 1) := by decide +kernel
theorem dX7_deliver_327 : decode cX7_deliver 327 = .ok (.l2i, 1) := by decide +kernel
theorem dX7_deliver_328 : decode cX7_deliver 328 = .ok (.iastore, 1) := by decide +kernel
theorem dX7_deliver_329 : decode cX7_deliver 329 = .ok (.aload_n 0, 1) := by decide +kernel
theorem dX7_deliver_330 : decode cX7_deliver 330 = .ok (.getfield 43, 3) := by decide +kernel
theorem dX7_deliver_333 : decode cX7_deliver 333 = .ok (.iconst 2, 1) := by decide +kernel
theorem dX7_deliver_334 : decode cX7_deliver 334 = .ok (.iload_n 1, 1) := by decide +kernel
theorem dX7_deliver_335 : decode cX7_deliver 335 = .ok (.imul, 1) := by decide +kernel
theorem dX7_deliver_336 : decode cX7_deliver 336 = .ok (.iload_n 3, 1) := by decide +kernel
theorem dX7_deliver_337 : decode cX7_deliver 337 = .ok (.iadd, 1) := by decide +kernel
theorem dX7_deliver_338 : decode cX7_deliver 338 = .ok (.dup2, 1) := by decide +kernel
theorem dX7_deliver_339 : decode cX7_deliver 339 = .ok (.iaload, 1) := by decide +kernel
theorem dX7_deliver_340 : decode cX7_deliver 340 = .ok (.iconst 1, 1) := by decide +kernel
theorem dX7_deliver_341 : decode cX7_deliver 341 = .ok (.iadd, 1) := by decide +kernel
theorem dX7_deliver_342 : decode cX7_deliver 342 = .ok (.iastore, 1) := by decide +kernel
theorem dX7_deliver_343 : decode cX7_deliver 343 = .ok (.lload 6, 2) := by decide +kernel
theorem dX7_deliver_345 : decode cX7_deliver 345 = .ok (.lconst 1, 1) := by decide +kernel
theorem dX7_deliver_346 : decode cX7_deliver 346 = .ok (.ladd, 1) := by decide +kernel
theorem dX7_deliver_347 : decode cX7_deliver 347 = .ok (.lstore 6, 2) := by decide +kernel
theorem dX7_deliver_349 : decode cX7_deliver 349 = .ok (.goto (-103), 3) := by decide +kernel
theorem dX7_deliver_352 : decode cX7_deliver 352 = .ok (.aload_n 0, 1) := by decide +kernel
theorem dX7_deliver_353 : decode cX7_deliver 353 = .ok (.getfield 43, 3) := by decide +kernel
theorem dX7_deliver_356 : decode cX7_deliver 356 = .ok (.iconst 2, 1) := by decide +kernel
theorem dX7_deliver_357 : decode cX7_deliver 357 = .ok (.iload_n 1, 1) := by decide +kernel
theorem dX7_deliver_358 : decode cX7_deliver 358 = .ok (.imul, 1) := by decide +kernel
theorem dX7_deliver_359 : decode cX7_deliver 359 = .ok (.iload_n 3, 1) := by decide +kernel
theorem dX7_deliver_360 : decode cX7_deliver 360 = .ok (.iadd, 1) := by decide +kernel
theorem dX7_deliver_361 : decode cX7_deliver 361 = .ok (.iaload, 1) := by decide +kernel
theorem dX7_deliver_362 : decode cX7_deliver 362 = .ok (.iload 4, 2) := by decide +kernel
theorem dX7_deliver_364 : decode cX7_deliver 364 = .ok (.if_icmp .le 13, 3) := by decide +kernel
theorem dX7_deliver_367 : decode cX7_deliver 367 = .ok (.aload_n 0, 1) := by decide +kernel
theorem dX7_deliver_368 : decode cX7_deliver 368 = .ok (.iload_n 1, 1) := by decide +kernel
theorem dX7_deliver_369 : decode cX7_deliver 369 = .ok (.iload 4, 2) := by decide +kernel
theorem dX7_deliver_371 : decode cX7_deliver 371 = .ok (.invokevirtual 150, 3) := by decide +kernel
theorem dX7_deliver_374 : decode cX7_deliver 374 = .ok (.goto 4, 3) := by decide +kernel
theorem dX7_deliver_377 : decode cX7_deliver 377 = .ok (.iconst 0, 1) := by decide +kernel
theorem dX7_deliver_378 : decode cX7_deliver 378 = .ok (.ireturn, 1) := by decide +kernel
set_option maxRecDepth 20000 in
theorem ggX7_replay_X7_again : GoodIn wsX7_replay wsX7_again := goodIn_r _ [9, 2, 3, 10, 11, 12, 8, 13, 1, 4, 14, 15, 16, 17, 18, 19, 20, 21, 22, 23, 24, 25, 26, 27, 28, 29, 30, 31, 32, 33, 34, 35, 36, 37, 38, 39, 40, 41, 42, 43, 44, 45, 46, 47, 48, 49, 50, 51, 52, 53, 54, 55, 56, 57, 58, 59, 60, 61, 62, 63, 64, 65] (by decide +kernel) (by decide +kernel)
set_option maxRecDepth 20000 in
theorem gX7_replay_X7_again : GoodIn wsX7_replay (wsV RX7 135 RX7 yX7_again wsX7_again) := goodIn_app (goodIn_of _ (by decide +kernel)) ggX7_replay_X7_again
theorem dX7_replay_0 : decode cX7_replay 0 = .ok (.iconst 1, 1) := by decide +kernel
theorem dX7_replay_1 : decode cX7_replay 1 = .ok (.iload_n 1, 1) := by decide +kernel
theorem dX7_replay_2 : decode cX7_replay 2 = .ok (.isub, 1) := by decide +kernel
theorem dX7_replay_3 : decode cX7_replay 3 = .ok (.istore_n 3, 1) := by decide +kernel
theorem dX7_replay_4 : decode cX7_replay 4 = .ok (.iload_n 2, 1) := by decide +kernel
theorem dX7_replay_5 : decode cX7_replay 5 = .ok (.istore 4, 2) := by decide +kernel
theorem dX7_replay_7 : decode cX7_replay 7 = .ok (.iload 4, 2) := by decide +kernel
theorem dX7_replay_9 : decode cX7_replay 9 = .ok (.aload_n 0, 1) := by decide +kernel
theorem dX7_replay_10 : decode cX7_replay 10 = .ok (.getfield 43, 3) := by decide +kernel
theorem dX7_replay_13 : decode cX7_replay 13 = .ok (.iconst 2, 1) := by decide +kernel
theorem dX7_replay_14 : decode cX7_replay 14 = .ok (.iload_n 1, 1) := by decide +kernel
theorem dX7_replay_15 : decode cX7_replay 15 = .ok (.imul, 1) := by decide +kernel
theorem dX7_replay_16 : decode cX7_replay 16 = .ok (.iload_n 3, 1) := by decide +kernel
theorem dX7_replay_17 : decode cX7_replay 17 = .ok (.iadd, 1) := by decide +kernel
theorem dX7_replay_18 : decode cX7_replay 18 = .ok (.iaload, 1) := by decide +kernel
theorem dX7_replay_19 : decode cX7_replay 19 = .ok (.if_icmp .ge 69, 3) := by decide +kernel
theorem dX7_replay_22 : decode cX7_replay 22 = .ok (.iload 4, 2) := by decide +kernel
theorem dX7_replay_24 : decode cX7_replay 24 = .ok (.aload_n 0, 1) := by decide +kernel
theorem dX7_replay_25 : decode cX7_replay 25 = .ok (.getfield 7, 3) := by decide +kernel
theorem dX7_replay_28 : decode cX7_replay 28 = .ok (.iload_n 1, 1) := by decide +kernel
theorem dX7_replay_29 : decode cX7_replay 29 = .ok (.iaload, 1) := by decide +kernel
theorem dX7_replay_30 : decode cX7_replay 30 = .ok (.if_icmp .ge 58, 3) := by decide +kernel
theorem dX7_replay_33 : decode cX7_replay 33 = .ok (.aload_n 0, 1) := by decide +kernel
theorem dX7_replay_34 : decode cX7_replay 34 = .ok (.getfield 40, 3) := by decide +kernel
theorem dX7_replay_37 : decode cX7_replay 37 = .ok (.sipush 1200, 3) := by decide +kernel
theorem dX7_replay_40 : decode cX7_replay 40 = .ok (.iload_n 1, 1) := by decide +kernel
theorem dX7_replay_41 : decode cX7_replay 41 = .ok (.imul, 1) := by decide +kernel
theorem dX7_replay_42 : decode cX7_replay 42 = .ok (.sipush 600, 3) := by decide +kernel
theorem dX7_replay_45 : decode cX7_replay 45 = .ok (.iload_n 3, 1) := by decide +kernel
theorem dX7_replay_46 : decode cX7_replay 46 = .ok (.imul, 1) := by decide +kernel
theorem dX7_replay_47 : decode cX7_replay 47 = .ok (.iadd, 1) := by decide +kernel
theorem dX7_replay_48 : decode cX7_replay 48 = .ok (.iload 4, 2) := by decide +kernel
theorem dX7_replay_50 : decode cX7_replay 50 = .ok (.iadd, 1) := by decide +kernel
theorem dX7_replay_51 : decode cX7_replay 51 = .ok (.iaload, 1) := by decide +kernel
theorem dX7_replay_52 : decode cX7_replay 52 = .ok (.aload_n 0, 1) := by decide +kernel
theorem dX7_replay_53 : decode cX7_replay 53 = .ok (.getfield 37, 3) := by decide +kernel
theorem dX7_replay_56 : decode cX7_replay 56 = .ok (.sipush 1200, 3) := by decide +kernel
theorem dX7_replay_59 : decode cX7_replay 59 = .ok (.iload_n 1, 1) := by decide +kernel
theorem dX7_replay_60 : decode cX7_replay 60 = .ok (.imul, 1) := by decide +kernel
theorem dX7_replay_61 : decode cX7_replay 61 = .ok (.sipush 600, 3) := by decide +kernel
theorem dX7_replay_64 : decode cX7_replay 64 = .ok (.iload_n 3, 1) := by decide +kernel
theorem dX7_replay_65 : decode cX7_replay 65 = .ok (.imul, 1) := by decide +kernel
theorem dX7_replay_66 : decode cX7_replay 66 = .ok (.iadd, 1) := by decide +kernel
theorem dX7_replay_67 : decode cX7_replay 67 = .ok (.iload 4, 2) := by decide +kernel
theorem dX7_replay_69 : decode cX7_replay 69 = .ok (.iadd, 1) := by decide +kernel
theorem dX7_replay_70 : decode cX7_replay 70 = .ok (.iaload, 1) := by decide +kernel
theorem dX7_replay_71 : decode cX7_replay 71 = .ok (.if_icmp .eq 11, 3) := by decide +kernel
theorem dX7_replay_74 : decode cX7_replay 74 = .ok (.aload_n 0, 1) := by decide +kernel
theorem dX7_replay_75 : decode cX7_replay 75 = .ok (.iload_n 1, 1) := by decide +kernel
theorem dX7_replay_76 : decode cX7_replay 76 = .ok (.iload 4, 2) := by decide +kernel
theorem dX7_replay_78 : decode cX7_replay 78 = .ok (.invokevirtual 135, 3) := by decide +kernel
theorem dX7_replay_81 : decode cX7_replay 81 = .ok (.ireturn, 1) := by decide +kernel
theorem dX7_replay_82 : decode cX7_replay 82 = .ok (.iinc 4 1, 3) := by decide +kernel
theorem dX7_replay_85 : decode cX7_replay 85 = .ok (.goto (-78), 3) := by decide +kernel
theorem dX7_replay_88 : decode cX7_replay 88 = .ok (.iconst 0, 1) := by decide +kernel
theorem dX7_replay_89 : decode cX7_replay 89 = .ok (.ireturn, 1) := by decide +kernel
