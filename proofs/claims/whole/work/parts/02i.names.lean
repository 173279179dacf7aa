theorem dX5_ask_135 : decode cX5_ask 135 = .ok (.aload_n 0, 1) := by decide +kernel
theorem dX5_ask_136 : decode cX5_ask 136 = .ok (.getfield 32, 3) := by decide +kernel
theorem dX5_ask_139 : decode cX5_ask 139 = .ok (.iload_n 1, 1) := by decide +kernel
theorem dX5_ask_140 : decode cX5_ask 140 = .ok (.iload_n 2, 1) := by decide +kernel
theorem dX5_ask_141 : decode cX5_ask 141 = .ok (.iastore, 1) := by decide +kernel
theorem dX5_ask_142 : decode cX5_ask 142 = .ok (.aload_n 0, 1) := by decide +kernel
theorem dX5_ask_143 : decode cX5_ask 143 = .ok (.getfield 35, 3) := by decide +kernel
theorem dX5_ask_146 : decode cX5_ask 146 = .ok (.iload_n 1, 1) := by decide +kernel
theorem dX5_ask_147 : decode cX5_ask 147 = .ok (.iconst 0, 1) := by decide +kernel
theorem dX5_ask_148 : decode cX5_ask 148 = .ok (.bastore, 1) := by decide +kernel
theorem dX5_ask_149 : decode cX5_ask 149 = .ok (.aload_n 0, 1) := by decide +kernel
theorem dX5_ask_150 : decode cX5_ask 150 = .ok (.iload_n 1, 1) := by decide +kernel
theorem dX5_ask_151 : decode cX5_ask 151 = .ok (.iconst 1, 1) := by decide +kernel
theorem dX5_ask_152 : decode cX5_ask 152 = .ok (.invokevirtual 89, 3) := by decide +kernel
theorem dX5_ask_155 : decode cX5_ask 155 = .ok (.iconst 1, 1) := by decide +kernel
theorem dX5_ask_156 : decode cX5_ask 156 = .ok (.ireturn, 1) := by decide +kernel
theorem dX5_shrink_0 : decode cX5_shrink 0 = .ok (.iconst 0, 1) := by decide +kernel
theorem dX5_shrink_1 : decode cX5_shrink 1 = .ok (.istore_n 1, 1) := by decide +kernel
theorem dX5_shrink_2 : decode cX5_shrink 2 = .ok (.iconst 0, 1) := by decide +kernel
theorem dX5_shrink_3 : decode cX5_shrink 3 = .ok (.istore_n 2, 1) := by decide +kernel
theorem dX5_shrink_4 : decode cX5_shrink 4 = .ok (.iload_n 2, 1) := by decide +kernel
theorem dX5_shrink_5 : decode cX5_shrink 5 = .ok (.aload_n 0, 1) := by decide +kernel
theorem dX5_shrink_6 : decode cX5_shrink 6 = .ok (.getfield 93, 3) := by decide +kernel
theorem dX5_shrink_9 : decode cX5_shrink 9 = .ok (.if_icmp .ge 62, 3) := by decide +kernel
theorem dX5_shrink_12 : decode cX5_shrink 12 = .ok (.aload_n 0, 1) := by decide +kernel
theorem dX5_shrink_13 : decode cX5_shrink 13 = .ok (.getfield 16, 3) := by decide +kernel
theorem dX5_shrink_16 : decode cX5_shrink 16 = .ok (.aload_n 0, 1) := by decide +kernel
theorem dX5_shrink_17 : decode cX5_shrink 17 = .ok (.getfield 47, 3) := by decide +kernel
theorem dX5_shrink_20 : decode cX5_shrink 20 = .ok (.iload_n 2, 1) := by decide +kernel
theorem dX5_shrink_21 : decode cX5_shrink 21 = .ok (.iaload, 1) := by decide +kernel
theorem dX5_shrink_22 : decode cX5_shrink 22 = .ok (.baload, 1) := by decide +kernel
theorem dX5_shrink_23 : decode cX5_shrink 23 = .ok (.ifCond .eq 42, 3) := by decide +kernel
theorem dX5_shrink_26 : decode cX5_shrink 26 = .ok (.aload_n 0, 1) := by decide +kernel
theorem dX5_shrink_27 : decode cX5_shrink 27 = .ok (.getfield 44, 3) := by decide +kernel
theorem dX5_shrink_30 : decode cX5_shrink 30 = .ok (.iload_n 1, 1) := by decide +kernel
theorem dX5_shrink_31 : decode cX5_shrink 31 = .ok (.aload_n 0, 1) := by decide +kernel
theorem dX5_shrink_32 : decode cX5_shrink 32 = .ok (.getfield 44, 3) := by decide +kernel
theorem dX5_shrink_35 : decode cX5_shrink 35 = .ok (.iload_n 2, 1) := by decide +kernel
theorem dX5_shrink_36 : decode cX5_shrink 36 = .ok (.iaload, 1) := by decide +kernel
theorem dX5_shrink_37 : decode cX5_shrink 37 = .ok (.iastore, 1) := by decide +kernel
theorem dX5_shrink_38 : decode cX5_shrink 38 = .ok (.aload_n 0, 1) := by decide +kernel
theorem dX5_shrink_39 : decode cX5_shrink 39 = .ok (.getfield 47, 3) := by decide +kernel
theorem dX5_shrink_42 : decode cX5_shrink 42 = .ok (.iload_n 1, 1) := by decide +kernel
theorem dX5_shrink_43 : decode cX5_shrink 43 = .ok (.aload_n 0, 1) := by decide +kernel
theorem dX5_shrink_44 : decode cX5_shrink 44 = .ok (.getfield 47, 3) := by decide +kernel
theorem dX5_shrink_47 : decode cX5_shrink 47 = .ok (.iload_n 2, 1) := by decide +kernel
theorem dX5_shrink_48 : decode cX5_shrink 48 = .ok (.iaload, 1) := by decide +kernel
theorem dX5_shrink_49 : decode cX5_shrink 49 = .ok (.iastore, 1) := by decide +kernel
theorem dX5_shrink_50 : decode cX5_shrink 50 = .ok (.aload_n 0, 1) := by decide +kernel
theorem dX5_shrink_51 : decode cX5_shrink 51 = .ok (.getfield 50, 3) := by decide +kernel
theorem dX5_shrink_54 : decode cX5_shrink 54 = .ok (.iload_n 1, 1) := by decide +kernel
theorem dX5_shrink_55 : decode cX5_shrink 55 = .ok (.aload_n 0, 1) := by decide +kernel
theorem dX5_shrink_56 : decode cX5_shrink 56 = .ok (.getfield 50, 3) := by decide +kernel
theorem dX5_shrink_59 : decode cX5_shrink 59 = .ok (.iload_n 2, 1) := by decide +kernel
theorem dX5_shrink_60 : decode cX5_shrink 60 = .ok (.iaload, 1) := by decide +kernel
theorem dX5_shrink_61 : decode cX5_shrink 61 = .ok (.iastore, 1) := by decide +kernel
theorem dX5_shrink_62 : decode cX5_shrink 62 = .ok (.iinc 1 1, 3) := by decide +kernel
theorem dX5_shrink_65 : decode cX5_shrink 65 = .ok (.iinc 2 1, 3) := by decide +kernel
theorem dX5_shrink_68 : decode cX5_shrink 68 = .ok (.goto (-64), 3) := by decide +kernel
theorem dX5_shrink_71 : decode cX5_shrink 71 = .ok (.aload_n 0, 1) := by decide +kernel
theorem dX5_shrink_72 : decode cX5_shrink 72 = .ok (.iload_n 1, 1) := by decide +kernel
theorem dX5_shrink_73 : decode cX5_shrink 73 = .ok (.putfield 93, 3) := by decide +kernel
theorem dX5_shrink_76 : decode cX5_shrink 76 = .ok (.return_, 1) := by decide +kernel
set_option maxRecDepth 20000 in
theorem ggX5_lock_X5_isRunning : GoodIn wsX5_lock wsX5_isRunning := goodIn_r _ [11, 12, 13, 14, 15, 10, 16, 21, 22, 23, 24, 25, 26, 27, 28, 29, 30, 31, 32, 33, 34, 35, 36, 37] (by decide +kernel) (by decide +kernel)
set_option maxRecDepth 20000 in
theorem gX5_lock_X5_isRunning : GoodIn wsX5_lock (wsV RX5 65 RX5 yX5_isRunning wsX5_isRunning) := goodIn_app (goodIn_of _ (by decide +kernel)) ggX5_lock_X5_isRunning
set_option maxRecDepth 20000 in
theorem ggX5_lock_X5_in : GoodIn wsX5_lock wsX5_in := goodIn_r _ [16] (by decide +kernel) (by decide +kernel)
set_option maxRecDepth 20000 in
theorem gX5_lock_X5_in : GoodIn wsX5_lock (va_wsS RX5 53 yX5_in wsX5_in) := goodIn_app (goodIn_of _ (by decide +kernel)) ggX5_lock_X5_in
set_option maxRecDepth 20000 in
theorem ggX5_lock_X5_shrink : GoodIn wsX5_lock wsX5_shrink := goodIn_r _ [20, 3, 13, 5, 4, 6, 21, 22, 23, 24, 25, 26, 27, 28, 29, 30, 31, 32, 33, 34, 35, 36, 37] (by decide +kernel) (by decide +kernel)
set_option maxRecDepth 20000 in
theorem gX5_lock_X5_shrink : GoodIn wsX5_lock (wsV RX5 96 RX5 yX5_shrink wsX5_shrink) := goodIn_app (goodIn_of _ (by decide +kernel)) ggX5_lock_X5_shrink
theorem dX5_lock_0 : decode cX5_lock 0 = .ok (.aload_n 0, 1) := by decide +kernel
theorem dX5_lock_1 : decode cX5_lock 1 = .ok (.iload_n 1, 1) := by decide +kernel
theorem dX5_lock_2 : decode cX5_lock 2 = .ok (.invokevirtual 65, 3) := by decide +kernel
theorem dX5_lock_5 : decode cX5_lock 5 = .ok (.ifCond .eq 37, 3) := by decide +kernel
theorem dX5_lock_8 : decode cX5_lock 8 = .ok (.iload_n 2, 1) := by decide +kernel
theorem dX5_lock_9 : decode cX5_lock 9 = .ok (.iconst 0, 1) := by decide +kernel
theorem dX5_lock_10 : decode cX5_lock 10 = .ok (.sipush 1199, 3) := by decide +kernel
theorem dX5_lock_13 : decode cX5_lock 13 = .ok (.invokestatic 53, 3) := by decide +kernel
theorem dX5_lock_16 : decode cX5_lock 16 = .ok (.ifCond .eq 26, 3) := by decide +kernel
theorem dX5_lock_19 : decode cX5_lock 19 = .ok (.iload_n 3, 1) := by decide +kernel
theorem dX5_lock_20 : decode cX5_lock 20 = .ok (.iconst 1, 1) := by decide +kernel
theorem dX5_lock_21 : decode cX5_lock 21 = .ok (.iconst 2, 1) := by decide +kernel
theorem dX5_lock_22 : decode cX5_lock 22 = .ok (.invokestatic 53, 3) := by decide +kernel
theorem dX5_lock_25 : decode cX5_lock 25 = .ok (.ifCond .eq 17, 3) := by decide +kernel
theorem dX5_lock_28 : decode cX5_lock 28 = .ok (.aload_n 0, 1) := by decide +kernel
theorem dX5_lock_29 : decode cX5_lock 29 = .ok (.getfield 23, 3) := by decide +kernel
theorem dX5_lock_32 : decode cX5_lock 32 = .ok (.aload_n 0, 1) := by decide +kernel
theorem dX5_lock_33 : decode cX5_lock 33 = .ok (.getfield 13, 3) := by decide +kernel
theorem dX5_lock_36 : decode cX5_lock 36 = .ok (.iload_n 1, 1) := by decide +kernel
theorem dX5_lock_37 : decode cX5_lock 37 = .ok (.iaload, 1) := by decide +kernel
theorem dX5_lock_38 : decode cX5_lock 38 = .ok (.iaload, 1) := by decide +kernel
theorem dX5_lock_39 : decode cX5_lock 39 = .ok (.ifCond .eq 5, 3) := by decide +kernel
theorem dX5_lock_42 : decode cX5_lock 42 = .ok (.iconst (-1), 1) := by decide +kernel
theorem dX5_lock_43 : decode cX5_lock 43 = .ok (.ireturn, 1) := by decide +kernel
theorem dX5_lock_44 : decode cX5_lock 44 = .ok (.aload_n 0, 1) := by decide +kernel
theorem dX5_lock_45 : decode cX5_lock 45 = .ok (.invokevirtual 96, 3) := by decide +kernel
theorem dX5_lock_48 : decode cX5_lock 48 = .ok (.iconst 0, 1) := by decide +kernel
theorem dX5_lock_49 : decode cX5_lock 49 = .ok (.istore 4, 2) := by decide +kernel
theorem dX5_lock_51 : decode cX5_lock 51 = .ok (.iconst 0, 1) := by decide +kernel
theorem dX5_lock_52 : decode cX5_lock 52 = .ok (.istore 5, 2) := by decide +kernel
theorem dX5_lock_54 : decode cX5_lock 54 = .ok (.iconst (-1), 1) := by decide +kernel
theorem dX5_lock_55 : decode cX5_lock 55 = .ok (.istore 6, 2) := by decide +kernel
theorem dX5_lock_57 : decode cX5_lock 57 = .ok (.iconst 0, 1) := by decide +kernel
theorem dX5_lock_58 : decode cX5_lock 58 = .ok (.istore 7, 2) := by decide +kernel
theorem dX5_lock_60 : decode cX5_lock 60 = .ok (.iload 7, 2) := by decide +kernel
theorem dX5_lock_62 : decode cX5_lock 62 = .ok (.aload_n 0, 1) := by decide +kernel
theorem dX5_lock_63 : decode cX5_lock 63 = .ok (.getfield 93, 3) := by decide +kernel
theorem dX5_lock_66 : decode cX5_lock 66 = .ok (.if_icmp .ge 160, 3) := by decide +kernel
theorem dX5_lock_69 : decode cX5_lock 69 = .ok (.aload_n 0, 1) := by decide +kernel
theorem dX5_lock_70 : decode cX5_lock 70 = .ok (.getfield 44, 3) := by decide +kernel
theorem dX5_lock_73 : decode cX5_lock 73 = .ok (.iload 7, 2) := by decide +kernel
theorem dX5_lock_75 : decode cX5_lock 75 = .ok (.iaload, 1) := by decide +kernel
theorem dX5_lock_76 : decode cX5_lock 76 = .ok (.iload_n 2, 1) := by decide +kernel
theorem dX5_lock_77 : decode cX5_lock 77 = .ok (.if_icmp .ne 143, 3) := by decide +kernel
theorem dX5_lock_80 : decode cX5_lock 80 = .ok (.aload_n 0, 1) := by decide +kernel
theorem dX5_lock_81 : decode cX5_lock 81 = .ok (.getfield 13, 3) := by decide +kernel
theorem dX5_lock_84 : decode cX5_lock 84 = .ok (.aload_n 0, 1) := by decide +kernel
theorem dX5_lock_85 : decode cX5_lock 85 = .ok (.getfield 47, 3) := by decide +kernel
theorem dX5_lock_88 : decode cX5_lock 88 = .ok (.iload 7, 2) := by decide +kernel
theorem dX5_lock_90 : decode cX5_lock 90 = .ok (.iaload, 1) := by decide +kernel
theorem dX5_lock_91 : decode cX5_lock 91 = .ok (.iaload, 1) := by decide +kernel
theorem dX5_lock_92 : decode cX5_lock 92 = .ok (.aload_n 0, 1) := by decide +kernel
theorem dX5_lock_93 : decode cX5_lock 93 = .ok (.getfield 13, 3) := by decide +kernel
theorem dX5_lock_96 : decode cX5_lock 96 = .ok (.iload_n 1, 1) := by decide +kernel
theorem dX5_lock_97 : decode cX5_lock 97 = .ok (.iaload, 1) := by decide +kernel
theorem dX5_lock_98 : decode cX5_lock 98 = .ok (.if_icmp .ne 7, 3) := by decide +kernel
theorem dX5_lock_101 : decode cX5_lock 101 = .ok (.iconst 1, 1) := by decide +kernel
theorem dX5_lock_102 : decode cX5_lock 102 = .ok (.goto 4, 3) := by decide +kernel
theorem dX5_lock_105 : decode cX5_lock 105 = .ok (.iconst 0, 1) := by decide +kernel
theorem dX5_lock_106 : decode cX5_lock 106 = .ok (.istore 8, 2) := by decide +kernel
theorem dX5_lock_108 : decode cX5_lock 108 = .ok (.iload 8, 2) := by decide +kernel
theorem dX5_lock_110 : decode cX5_lock 110 = .ok (.ifCond .ne 23, 3) := by decide +kernel
theorem dX5_lock_113 : decode cX5_lock 113 = .ok (.iload_n 3, 1) := by decide +kernel
theorem dX5_lock_114 : decode cX5_lock 114 = .ok (.iconst 2, 1) := by decide +kernel
theorem dX5_lock_115 : decode cX5_lock 115 = .ok (.if_icmp .eq 14, 3) := by decide +kernel
theorem dX5_lock_118 : decode cX5_lock 118 = .ok (.aload_n 0, 1) := by decide +kernel
theorem dX5_lock_119 : decode cX5_lock 119 = .ok (.getfield 50, 3) := by decide +kernel
theorem dX5_lock_122 : decode cX5_lock 122 = .ok (.iload 7, 2) := by decide +kernel
theorem dX5_lock_124 : decode cX5_lock 124 = .ok (.iaload, 1) := by decide +kernel
theorem dX5_lock_125 : decode cX5_lock 125 = .ok (.iconst 2, 1) := by decide +kernel
theorem dX5_lock_126 : decode cX5_lock 126 = .ok (.if_icmp .ne 7, 3) := by decide +kernel
theorem dX5_lock_129 : decode cX5_lock 129 = .ok (.iconst 1, 1) := by decide +kernel
theorem dX5_lock_130 : decode cX5_lock 130 = .ok (.goto 4, 3) := by decide +kernel
theorem dX5_lock_133 : decode cX5_lock 133 = .ok (.iconst 0, 1) := by decide +kernel
theorem dX5_lock_134 : decode cX5_lock 134 = .ok (.istore 9, 2) := by decide +kernel
theorem dX5_lock_136 : decode cX5_lock 136 = .ok (.iload 9, 2) := by decide +kernel
theorem dX5_lock_138 : decode cX5_lock 138 = .ok (.ifCond .eq 30, 3) := by decide +kernel
theorem dX5_lock_141 : decode cX5_lock 141 = .ok (.iload 4, 2) := by decide +kernel
theorem dX5_lock_143 : decode cX5_lock 143 = .ok (.ifCond .eq 15, 3) := by decide +kernel
theorem dX5_lock_146 : decode cX5_lock 146 = .ok (.aload_n 0, 1) := by decide +kernel
theorem dX5_lock_147 : decode cX5_lock 147 = .ok (.getfield 47, 3) := by decide +kernel
theorem dX5_lock_150 : decode cX5_lock 150 = .ok (.iload 7, 2) := by decide +kernel
theorem dX5_lock_152 : decode cX5_lock 152 = .ok (.iaload, 1) := by decide +kernel
theorem dX5_lock_153 : decode cX5_lock 153 = .ok (.iload 4, 2) := by decide +kernel
theorem dX5_lock_155 : decode cX5_lock 155 = .ok (.if_icmp .ge 13, 3) := by decide +kernel
theorem dX5_lock_158 : decode cX5_lock 158 = .ok (.aload_n 0, 1) := by decide +kernel
theorem dX5_lock_159 : decode cX5_lock 159 = .ok (.getfield 47, 3) := by decide +kernel
theorem dX5_lock_162 : decode cX5_lock 162 = .ok (.iload 7, 2) := by decide +kernel
theorem dX5_lock_164 : decode cX5_lock 164 = .ok (.iaload, 1) := by decide +kernel
theorem dX5_lock_165 : decode cX5_lock 165 = .ok (.goto 5, 3) := by decide +kernel
theorem dX5_lock_168 : decode cX5_lock 168 = .ok (.iload 4, 2) := by decide +kernel
theorem dX5_lock_170 : decode cX5_lock 170 = .ok (.istore 4, 2) := by decide +kernel
theorem dX5_lock_172 : decode cX5_lock 172 = .ok (.iload 5, 2) := by decide +kernel
theorem dX5_lock_174 : decode cX5_lock 174 = .ok (.ifCond .ne 19, 3) := by decide +kernel
theorem dX5_lock_177 : decode cX5_lock 177 = .ok (.iload 8, 2) := by decide +kernel
theorem dX5_lock_179 : decode cX5_lock 179 = .ok (.ifCond .eq 18, 3) := by decide +kernel
theorem dX5_lock_182 : decode cX5_lock 182 = .ok (.aload_n 0, 1) := by decide +kernel
theorem dX5_lock_183 : decode cX5_lock 183 = .ok (.getfield 50, 3) := by decide +kernel
theorem dX5_lock_186 : decode cX5_lock 186 = .ok (.iload 7, 2) := by decide +kernel
theorem dX5_lock_188 : decode cX5_lock 188 = .ok (.iaload, 1) := by decide +kernel
theorem dX5_lock_189 : decode cX5_lock 189 = .ok (.iload_n 3, 1) := by decide +kernel
theorem dX5_lock_190 : decode cX5_lock 190 = .ok (.if_icmp .lt 7, 3) := by decide +kernel
theorem dX5_lock_193 : decode cX5_lock 193 = .ok (.iconst 1, 1) := by decide +kernel
theorem dX5_lock_194 : decode cX5_lock 194 = .ok (.goto 4, 3) := by decide +kernel
theorem dX5_lock_197 : decode cX5_lock 197 = .ok (.iconst 0, 1) := by decide +kernel
theorem dX5_lock_198 : decode cX5_lock 198 = .ok (.istore 5, 2) := by decide +kernel
theorem dX5_lock_200 : decode cX5_lock 200 = .ok (.aload_n 0, 1) := by decide +kernel
theorem dX5_lock_201 : decode cX5_lock 201 = .ok (.getfield 47, 3) := by decide +kernel
theorem dX5_lock_204 : decode cX5_lock 204 = .ok (.iload 7, 2) := by decide +kernel
theorem dX5_lock_206 : decode cX5_lock 206 = .ok (.iaload, 1) := by decide +kernel
theorem dX5_lock_207 : decode cX5_lock 207 = .ok (.iload_n 1, 1) := by decide +kernel
theorem dX5_lock_208 : decode cX5_lock 208 = .ok (.if_icmp .ne 8, 3) := by decide +kernel
theorem dX5_lock_211 : decode cX5_lock 211 = .ok (.iload 7, 2) := by decide +kernel
theorem dX5_lock_213 : decode cX5_lock 213 = .ok (.goto 5, 3) := by decide +kernel
theorem dX5_lock_216 : decode cX5_lock 216 = .ok (.iload 6, 2) := by decide +kernel
theorem dX5_lock_218 : decode cX5_lock 218 = .ok (.istore 6, 2) := by decide +kernel
theorem dX5_lock_220 : decode cX5_lock 220 = .ok (.iinc 7 1, 3) := by decide +kernel
theorem dX5_lock_223 : decode cX5_lock 223 = .ok (.goto (-163), 3) := by decide +kernel
theorem dX5_lock_226 : decode cX5_lock 226 = .ok (.iload 4, 2) := by decide +kernel
theorem dX5_lock_228 : decode cX5_lock 228 = .ok (.ifCond .gt 8, 3) := by decide +kernel
theorem dX5_lock_231 : decode cX5_lock 231 = .ok (.iload 5, 2) := by decide +kernel
theorem dX5_lock_233 : decode cX5_lock 233 = .ok (.ifCond .eq 15, 3) := by decide +kernel
theorem dX5_lock_236 : decode cX5_lock 236 = .ok (.iload 5, 2) := by decide +kernel
theorem dX5_lock_238 : decode cX5_lock 238 = .ok (.ifCond .eq 7, 3) := by decide +kernel
theorem dX5_lock_241 : decode cX5_lock 241 = .ok (.iconst 0, 1) := by decide +kernel
theorem dX5_lock_242 : decode cX5_lock 242 = .ok (.goto 5, 3) := by decide +kernel
theorem dX5_lock_245 : decode cX5_lock 245 = .ok (.iload 4, 2) := by decide +kernel
theorem dX5_lock_247 : decode cX5_lock 247 = .ok (.ireturn, 1) := by decide +kernel
theorem dX5_lock_248 : decode cX5_lock 248 = .ok (.iload 6, 2) := by decide +kernel
theorem dX5_lock_250 : decode cX5_lock 250 = .ok (.ifCond .ge 35, 3) := by decide +kernel
theorem dX5_lock_253 : decode cX5_lock 253 = .ok (.aload_n 0, 1) := by decide +kernel
theorem dX5_lock_254 : decode cX5_lock 254 = .ok (.getfield 93, 3) := by decide +kernel
theorem dX5_lock_257 : decode cX5_lock 257 = .ok (.istore 6, 2) := by decide +kernel
theorem dX5_lock_259 : decode cX5_lock 259 = .ok (.aload_n 0, 1) := by decide +kernel
theorem dX5_lock_260 : decode cX5_lock 260 = .ok (.getfield 44, 3) := by decide +kernel
theorem dX5_lock_263 : decode cX5_lock 263 = .ok (.iload 6, 2) := by decide +kernel
theorem dX5_lock_265 : decode cX5_lock 265 = .ok (.iload_n 2, 1) := by decide +kernel
theorem dX5_lock_266 : decode cX5_lock 266 = .ok (.iastore, 1) := by decide +kernel
theorem dX5_lock_267 : decode cX5_lock 267 = .ok (.aload_n 0, 1) := by decide +kernel
theorem dX5_lock_268 : decode cX5_lock 268 = .ok (.getfield 47, 3) := by decide +kernel
theorem dX5_lock_271 : decode cX5_lock 271 = .ok (.iload 6, 2) := by decide +kernel
theorem dX5_lock_273 : decode cX5_lock 273 = .ok (.iload_n 1, 1) := by decide +kernel
theorem dX5_lock_274 : decode cX5_lock 274 = .ok (.iastore, 1) := by decide +kernel
theorem dX5_lock_275 : decode cX5_lock 275 = .ok (.aload_n 0, 1) := by decide +kernel
theorem dX5_lock_276 : decode cX5_lock 276 = .ok (.dup, 1) := by decide +kernel
theorem dX5_lock_277 : decode cX5_lock 277 = .ok (.getfield 93, 3) := by decide +kernel
theorem dX5_lock_280 : decode cX5_lock 280 = .ok (.iconst 1, 1) := by decide +kernel
theorem dX5_lock_281 : decode cX5_lock 281 = .ok (.iadd, 1) := by decide +kernel
theorem dX5_lock_282 : decode cX5_lock 282 = .ok (.putfield 93, 3) := by decide +kernel
theorem dX5_lock_285 : decode cX5_lock 285 = .ok (.aload_n 0, 1) := by decide +kernel
theorem dX5_lock_286 : decode cX5_lock 286 = .ok (.getfield 50, 3) := by decide +kernel
theorem dX5_lock_289 : decode cX5_lock 289 = .ok (.iload 6, 2) := by decide +kernel
theorem dX5_lock_291 : decode cX5_lock 291 = .ok (.iload_n 3, 1) := by decide +kernel
theorem dX5_lock_292 : decode cX5_lock 292 = .ok (.iastore, 1) := by decide +kernel
theorem dX5_lock_293 : decode cX5_lock 293 = .ok (.iconst 0, 1) := by decide +kernel
theorem dX5_lock_294 : decode cX5_lock 294 = .ok (.ireturn, 1) := by decide +kernel
set_option maxRecDepth 20000 in
theorem ggX5_clear_X5_in : GoodIn wsX5_clear wsX5_in := goodIn_r _ [8] (by decide +kernel) (by decide +kernel)
set_option maxRecDepth 20000 in
theorem gX5_clear_X5_in : GoodIn wsX5_clear (va_wsS RX5 53 yX5_in wsX5_in) := goodIn_app (goodIn_of _ (by decide +kernel)) ggX5_clear_X5_in
theorem dX5_clear_0 : decode cX5_clear 0 = .ok (.iload_n 1, 1) := by decide +kernel
theorem dX5_clear_1 : decode cX5_clear 1 = .ok (.iconst 0, 1) := by decide +kernel
theorem dX5_clear_2 : decode cX5_clear 2 = .ok (.sipush 1199, 3) := by decide +kernel
theorem dX5_clear_5 : decode cX5_clear 5 = .ok (.invokestatic 53, 3) := by decide +kernel
theorem dX5_clear_8 : decode cX5_clear 8 = .ok (.ifCond .ne 5, 3) := by decide +kernel
theorem dX5_clear_11 : decode cX5_clear 11 = .ok (.iconst 0, 1) := by decide +kernel
theorem dX5_clear_12 : decode cX5_clear 12 = .ok (.ireturn, 1) := by decide +kernel
theorem dX5_clear_13 : decode cX5_clear 13 = .ok (.iconst 0, 1) := by decide +kernel
theorem dX5_clear_14 : decode cX5_clear 14 = .ok (.istore_n 2, 1) := by decide +kernel
theorem dX5_clear_15 : decode cX5_clear 15 = .ok (.iconst 0, 1) := by decide +kernel
theorem dX5_clear_16 : decode cX5_clear 16 = .ok (.istore_n 3, 1) := by decide +kernel
theorem dX5_clear_17 : decode cX5_clear 17 = .ok (.iload_n 3, 1) := by decide +kernel
theorem dX5_clear_18 : decode cX5_clear 18 = .ok (.aload_n 0, 1) := by decide +kernel
theorem dX5_clear_19 : decode cX5_clear 19 = .ok (.getfield 93, 3) := by decide +kernel
theorem dX5_clear_22 : decode cX5_clear 22 = .ok (.if_icmp .ge 58, 3) := by decide +kernel
theorem dX5_clear_25 : decode cX5_clear 25 = .ok (.aload_n 0, 1) := by decide +kernel
theorem dX5_clear_26 : decode cX5_clear 26 = .ok (.getfield 44, 3) := by decide +kernel
theorem dX5_clear_29 : decode cX5_clear 29 = .ok (.iload_n 3, 1) := by decide +kernel
theorem dX5_clear_30 : decode cX5_clear 30 = .ok (.iaload, 1) := by decide +kernel
theorem dX5_clear_31 : decode cX5_clear 31 = .ok (.iload_n 1, 1) := by decide +kernel
theorem dX5_clear_32 : decode cX5_clear 32 = .ok (.if_icmp .eq 42, 3) := by decide +kernel
theorem dX5_clear_35 : decode cX5_clear 35 = .ok (.aload_n 0, 1) := by decide +kernel
theorem dX5_clear_36 : decode cX5_clear 36 = .ok (.getfield 44, 3) := by decide +kernel
theorem dX5_clear_39 : decode cX5_clear 39 = .ok (.iload_n 2, 1) := by decide +kernel
theorem dX5_clear_40 : decode cX5_clear 40 = .ok (.aload_n 0, 1) := by decide +kernel
theorem dX5_clear_41 : decode cX5_clear 41 = .ok (.getfield 44, 3) := by decide +kernel
theorem dX5_clear_44 : decode cX5_clear 44 = .ok (.iload_n 3, 1) := by decide +kernel
theorem dX5_clear_45 : decode cX5_clear 45 = .ok (.iaload, 1) := by decide +kernel
theorem dX5_clear_46 : decode cX5_clear 46 = .ok (.iastore, 1) := by decide +kernel
theorem dX5_clear_47 : decode cX5_clear 47 = .ok (.aload_n 0, 1) := by decide +kernel
theorem dX5_clear_48 : decode cX5_clear 48 = .ok (.getfield 47, 3) := by decide +kernel
theorem dX5_clear_51 : decode cX5_clear 51 = .ok (.iload_n 2, 1) := by decide +kernel
theorem dX5_clear_52 : decode cX5_clear 52 = .ok (.aload_n 0, 1) := by decide +kernel
theorem dX5_clear_53 : decode cX5_clear 53 = .ok (.getfield 47, 3) := by decide +kernel
theorem dX5_clear_56 : decode cX5_clear 56 = .ok (.iload_n 3, 1) := by decide +kernel
theorem dX5_clear_57 : decode cX5_clear 57 = .ok (.iaload, 1) := by decide +kernel
theorem dX5_clear_58 : decode cX5_clear 58 = .ok (.iastore, 1) := by decide +kernel
theorem dX5_clear_59 : decode cX5_clear 59 = .ok (.aload_n 0, 1) := by decide +kernel
theorem dX5_clear_60 : decode cX5_clear 60 = .ok (.getfield 50, 3) := by decide +kernel
theorem dX5_clear_63 : decode cX5_clear 63 = .ok (.iload_n 2, 1) := by decide +kernel
theorem dX5_clear_64 : decode cX5_clear 64 = .ok (.aload_n 0, 1) := by decide +kernel
theorem dX5_clear_65 : decode cX5_clear 65 = .ok (.getfield 50, 3) := by decide +kernel
theorem dX5_clear_68 : decode cX5_clear 68 = .ok (.iload_n 3, 1) := by decide +kernel
theorem dX5_clear_69 : decode cX5_clear 69 = .ok (.iaload, 1) := by decide +kernel
theorem dX5_clear_70 : decode cX5_clear 70 = .ok (.iastore, 1) := by decide +kernel
theorem dX5_clear_71 : decode cX5_clear 71 = .ok (.iinc 2 1, 3) := by decide +kernel
theorem dX5_clear_74 : decode cX5_clear 74 = .ok (.iinc 3 1, 3) := by decide +kernel
theorem dX5_clear_77 : decode cX5_clear 77 = .ok (.goto (-60), 3) := by decide +kernel
theorem dX5_clear_80 : decode cX5_clear 80 = .ok (.aload_n 0, 1) := by decide +kernel
theorem dX5_clear_81 : decode cX5_clear 81 = .ok (.iload_n 2, 1) := by decide +kernel
theorem dX5_clear_82 : decode cX5_clear 82 = .ok (.putfield 93, 3) := by decide +kernel
theorem dX5_clear_85 : decode cX5_clear 85 = .ok (.iconst 1, 1) := by decide +kernel
theorem dX5_clear_86 : decode cX5_clear 86 = .ok (.ireturn, 1) := by decide +kernel
theorem dX5_locker_0 : decode cX5_locker 0 = .ok (.iconst 0, 1) := by decide +kernel
theorem dX5_locker_1 : decode cX5_locker 1 = .ok (.istore_n 3, 1) := by decide +kernel
theorem dX5_locker_2 : decode cX5_locker 2 = .ok (.iconst 0, 1) := by decide +kernel
theorem dX5_locker_3 : decode cX5_locker 3 = .ok (.istore 4, 2) := by decide +kernel
theorem dX5_locker_5 : decode cX5_locker 5 = .ok (.iconst 0, 1) := by decide +kernel
theorem dX5_locker_6 : decode cX5_locker 6 = .ok (.istore 5, 2) := by decide +kernel
theorem dX5_locker_8 : decode cX5_locker 8 = .ok (.iload 5, 2) := by decide +kernel
theorem dX5_locker_10 : decode cX5_locker 10 = .ok (.iload_n 2, 1) := by decide +kernel
theorem dX5_locker_11 : decode cX5_locker 11 = .ok (.if_icmp .gt 114, 3) := by decide +kernel
theorem dX5_locker_14 : decode cX5_locker 14 = .ok (.iload 5, 2) := by decide +kernel
theorem dX5_locker_16 : decode cX5_locker 16 = .ok (.ifCond .eq 7, 3) := by decide +kernel
theorem dX5_locker_19 : decode cX5_locker 19 = .ok (.iload_n 3, 1) := by decide +kernel
theorem dX5_locker_20 : decode cX5_locker 20 = .ok (.ifCond .le 105, 3) := by decide +kernel
theorem dX5_locker_23 : decode cX5_locker 23 = .ok (.iconst 0, 1) := by decide +kernel
theorem dX5_locker_24 : decode cX5_locker 24 = .ok (.istore 6, 2) := by decide +kernel
theorem dX5_locker_26 : decode cX5_locker 26 = .ok (.iconst 0, 1) := by decide +kernel
theorem dX5_locker_27 : decode cX5_locker 27 = .ok (.istore 7, 2) := by decide +kernel
theorem dX5_locker_29 : decode cX5_locker 29 = .ok (.iload 7, 2) := by decide +kernel
theorem dX5_locker_31 : decode cX5_locker 31 = .ok (.aload_n 0, 1) := by decide +kernel
theorem dX5_locker_32 : decode cX5_locker 32 = .ok (.getfield 93, 3) := by decide +kernel
