theorem dX6_readsStep_43 : decode cX6_readsStep 43 = .ok (.invokevirtual 106, 3) := by decide +kernel
theorem dX6_readsStep_46 : decode cX6_readsStep 46 = .ok (.goto 4, 3) := by decide +kernel
theorem dX6_readsStep_49 : decode cX6_readsStep 49 = .ok (.iconst 0, 1) := by decide +kernel
theorem dX6_readsStep_50 : decode cX6_readsStep 50 = .ok (.istore_n 2, 1) := by decide +kernel
theorem dX6_readsStep_51 : decode cX6_readsStep 51 = .ok (.iload_n 2, 1) := by decide +kernel
theorem dX6_readsStep_52 : decode cX6_readsStep 52 = .ok (.bipush 45, 2) := by decide +kernel
theorem dX6_readsStep_54 : decode cX6_readsStep 54 = .ok (.if_icmp .eq 9, 3) := by decide +kernel
theorem dX6_readsStep_57 : decode cX6_readsStep 57 = .ok (.iload_n 2, 1) := by decide +kernel
theorem dX6_readsStep_58 : decode cX6_readsStep 58 = .ok (.bipush 35, 2) := by decide +kernel
theorem dX6_readsStep_60 : decode cX6_readsStep 60 = .ok (.if_icmp .ne 7, 3) := by decide +kernel
theorem dX6_readsStep_63 : decode cX6_readsStep 63 = .ok (.iconst 1, 1) := by decide +kernel
theorem dX6_readsStep_64 : decode cX6_readsStep 64 = .ok (.goto 4, 3) := by decide +kernel
theorem dX6_readsStep_67 : decode cX6_readsStep 67 = .ok (.iconst 0, 1) := by decide +kernel
theorem dX6_readsStep_68 : decode cX6_readsStep 68 = .ok (.istore_n 3, 1) := by decide +kernel
theorem dX6_readsStep_69 : decode cX6_readsStep 69 = .ok (.aload_n 0, 1) := by decide +kernel
theorem dX6_readsStep_70 : decode cX6_readsStep 70 = .ok (.dup, 1) := by decide +kernel
theorem dX6_readsStep_71 : decode cX6_readsStep 71 = .ok (.getfield 99, 3) := by decide +kernel
theorem dX6_readsStep_74 : decode cX6_readsStep 74 = .ok (.iload_n 3, 1) := by decide +kernel
theorem dX6_readsStep_75 : decode cX6_readsStep 75 = .ok (.ifCond .eq 7, 3) := by decide +kernel
theorem dX6_readsStep_78 : decode cX6_readsStep 78 = .ok (.iconst 1, 1) := by decide +kernel
theorem dX6_readsStep_79 : decode cX6_readsStep 79 = .ok (.goto 4, 3) := by decide +kernel
theorem dX6_readsStep_82 : decode cX6_readsStep 82 = .ok (.iconst 0, 1) := by decide +kernel
theorem dX6_readsStep_83 : decode cX6_readsStep 83 = .ok (.iadd, 1) := by decide +kernel
theorem dX6_readsStep_84 : decode cX6_readsStep 84 = .ok (.putfield 99, 3) := by decide +kernel
theorem dX6_readsStep_87 : decode cX6_readsStep 87 = .ok (.aload_n 0, 1) := by decide +kernel
theorem dX6_readsStep_88 : decode cX6_readsStep 88 = .ok (.getfield 25, 3) := by decide +kernel
theorem dX6_readsStep_91 : decode cX6_readsStep 91 = .ok (.iload_n 1, 1) := by decide +kernel
theorem dX6_readsStep_92 : decode cX6_readsStep 92 = .ok (.iconst 1, 1) := by decide +kernel
theorem dX6_readsStep_93 : decode cX6_readsStep 93 = .ok (.iadd, 1) := by decide +kernel
theorem dX6_readsStep_94 : decode cX6_readsStep 94 = .ok (.iload_n 3, 1) := by decide +kernel
theorem dX6_readsStep_95 : decode cX6_readsStep 95 = .ok (.ifCond .eq 7, 3) := by decide +kernel
theorem dX6_readsStep_98 : decode cX6_readsStep 98 = .ok (.iload_n 2, 1) := by decide +kernel
theorem dX6_readsStep_99 : decode cX6_readsStep 99 = .ok (.goto 4, 3) := by decide +kernel
theorem dX6_readsStep_102 : decode cX6_readsStep 102 = .ok (.iconst 0, 1) := by decide +kernel
theorem dX6_readsStep_103 : decode cX6_readsStep 103 = .ok (.iastore, 1) := by decide +kernel
theorem dX6_readsStep_104 : decode cX6_readsStep 104 = .ok (.iload_n 2, 1) := by decide +kernel
theorem dX6_readsStep_105 : decode cX6_readsStep 105 = .ok (.bipush 35, 2) := by decide +kernel
theorem dX6_readsStep_107 : decode cX6_readsStep 107 = .ok (.if_icmp .ne 18, 3) := by decide +kernel
theorem dX6_readsStep_110 : decode cX6_readsStep 110 = .ok (.aload_n 0, 1) := by decide +kernel
theorem dX6_readsStep_111 : decode cX6_readsStep 111 = .ok (.getfield 25, 3) := by decide +kernel
theorem dX6_readsStep_114 : decode cX6_readsStep 114 = .ok (.iload_n 1, 1) := by decide +kernel
theorem dX6_readsStep_115 : decode cX6_readsStep 115 = .ok (.iconst 2, 1) := by decide +kernel
theorem dX6_readsStep_116 : decode cX6_readsStep 116 = .ok (.iadd, 1) := by decide +kernel
theorem dX6_readsStep_117 : decode cX6_readsStep 117 = .ok (.aload_n 0, 1) := by decide +kernel
theorem dX6_readsStep_118 : decode cX6_readsStep 118 = .ok (.invokevirtual 116, 3) := by decide +kernel
theorem dX6_readsStep_121 : decode cX6_readsStep 121 = .ok (.iastore, 1) := by decide +kernel
theorem dX6_readsStep_122 : decode cX6_readsStep 122 = .ok (.goto 109, 3) := by decide +kernel
theorem dX6_readsStep_125 : decode cX6_readsStep 125 = .ok (.aload_n 0, 1) := by decide +kernel
theorem dX6_readsStep_126 : decode cX6_readsStep 126 = .ok (.getfield 25, 3) := by decide +kernel
theorem dX6_readsStep_129 : decode cX6_readsStep 129 = .ok (.iload_n 1, 1) := by decide +kernel
theorem dX6_readsStep_130 : decode cX6_readsStep 130 = .ok (.iconst 2, 1) := by decide +kernel
theorem dX6_readsStep_131 : decode cX6_readsStep 131 = .ok (.iadd, 1) := by decide +kernel
theorem dX6_readsStep_132 : decode cX6_readsStep 132 = .ok (.aload_n 0, 1) := by decide +kernel
theorem dX6_readsStep_133 : decode cX6_readsStep 133 = .ok (.bipush 65, 2) := by decide +kernel
theorem dX6_readsStep_135 : decode cX6_readsStep 135 = .ok (.bipush 70, 2) := by decide +kernel
theorem dX6_readsStep_137 : decode cX6_readsStep 137 = .ok (.invokevirtual 110, 3) := by decide +kernel
theorem dX6_readsStep_140 : decode cX6_readsStep 140 = .ok (.iastore, 1) := by decide +kernel
theorem dX6_readsStep_141 : decode cX6_readsStep 141 = .ok (.aload_n 0, 1) := by decide +kernel
theorem dX6_readsStep_142 : decode cX6_readsStep 142 = .ok (.getfield 102, 3) := by decide +kernel
theorem dX6_readsStep_145 : decode cX6_readsStep 145 = .ok (.ifCond .eq 14, 3) := by decide +kernel
theorem dX6_readsStep_148 : decode cX6_readsStep 148 = .ok (.iload_n 3, 1) := by decide +kernel
theorem dX6_readsStep_149 : decode cX6_readsStep 149 = .ok (.ifCond .ne 10, 3) := by decide +kernel
theorem dX6_readsStep_152 : decode cX6_readsStep 152 = .ok (.aload_n 0, 1) := by decide +kernel
theorem dX6_readsStep_153 : decode cX6_readsStep 153 = .ok (.invokevirtual 106, 3) := by decide +kernel
theorem dX6_readsStep_156 : decode cX6_readsStep 156 = .ok (.goto 4, 3) := by decide +kernel
theorem dX6_readsStep_159 : decode cX6_readsStep 159 = .ok (.iconst 0, 1) := by decide +kernel
theorem dX6_readsStep_160 : decode cX6_readsStep 160 = .ok (.istore 4, 2) := by decide +kernel
theorem dX6_readsStep_162 : decode cX6_readsStep 162 = .ok (.iload 4, 2) := by decide +kernel
theorem dX6_readsStep_164 : decode cX6_readsStep 164 = .ok (.bipush 43, 2) := by decide +kernel
theorem dX6_readsStep_166 : decode cX6_readsStep 166 = .ok (.if_icmp .eq 17, 3) := by decide +kernel
theorem dX6_readsStep_169 : decode cX6_readsStep 169 = .ok (.iload 4, 2) := by decide +kernel
theorem dX6_readsStep_171 : decode cX6_readsStep 171 = .ok (.bipush 45, 2) := by decide +kernel
theorem dX6_readsStep_173 : decode cX6_readsStep 173 = .ok (.if_icmp .eq 10, 3) := by decide +kernel
theorem dX6_readsStep_176 : decode cX6_readsStep 176 = .ok (.iload 4, 2) := by decide +kernel
theorem dX6_readsStep_178 : decode cX6_readsStep 178 = .ok (.bipush 42, 2) := by decide +kernel
theorem dX6_readsStep_180 : decode cX6_readsStep 180 = .ok (.if_icmp .ne 51, 3) := by decide +kernel
theorem dX6_readsStep_183 : decode cX6_readsStep 183 = .ok (.aload_n 0, 1) := by decide +kernel
theorem dX6_readsStep_184 : decode cX6_readsStep 184 = .ok (.dup, 1) := by decide +kernel
theorem dX6_readsStep_185 : decode cX6_readsStep 185 = .ok (.getfield 99, 3) := by decide +kernel
theorem dX6_readsStep_188 : decode cX6_readsStep 188 = .ok (.iconst 1, 1) := by decide +kernel
theorem dX6_readsStep_189 : decode cX6_readsStep 189 = .ok (.iadd, 1) := by decide +kernel
theorem dX6_readsStep_190 : decode cX6_readsStep 190 = .ok (.putfield 99, 3) := by decide +kernel
theorem dX6_readsStep_193 : decode cX6_readsStep 193 = .ok (.aload_n 0, 1) := by decide +kernel
theorem dX6_readsStep_194 : decode cX6_readsStep 194 = .ok (.getfield 25, 3) := by decide +kernel
theorem dX6_readsStep_197 : decode cX6_readsStep 197 = .ok (.iload_n 1, 1) := by decide +kernel
theorem dX6_readsStep_198 : decode cX6_readsStep 198 = .ok (.iconst 1, 1) := by decide +kernel
theorem dX6_readsStep_199 : decode cX6_readsStep 199 = .ok (.iadd, 1) := by decide +kernel
theorem dX6_readsStep_200 : decode cX6_readsStep 200 = .ok (.iload 4, 2) := by decide +kernel
theorem dX6_readsStep_202 : decode cX6_readsStep 202 = .ok (.bipush 45, 2) := by decide +kernel
theorem dX6_readsStep_204 : decode cX6_readsStep 204 = .ok (.if_icmp .ne 8, 3) := by decide +kernel
theorem dX6_readsStep_207 : decode cX6_readsStep 207 = .ok (.bipush 115, 2) := by decide +kernel
theorem dX6_readsStep_209 : decode cX6_readsStep 209 = .ok (.goto 5, 3) := by decide +kernel
theorem dX6_readsStep_212 : decode cX6_readsStep 212 = .ok (.iload 4, 2) := by decide +kernel
theorem dX6_readsStep_214 : decode cX6_readsStep 214 = .ok (.iastore, 1) := by decide +kernel
theorem dX6_readsStep_215 : decode cX6_readsStep 215 = .ok (.aload_n 0, 1) := by decide +kernel
theorem dX6_readsStep_216 : decode cX6_readsStep 216 = .ok (.getfield 25, 3) := by decide +kernel
theorem dX6_readsStep_219 : decode cX6_readsStep 219 = .ok (.iload_n 1, 1) := by decide +kernel
theorem dX6_readsStep_220 : decode cX6_readsStep 220 = .ok (.iconst 3, 1) := by decide +kernel
theorem dX6_readsStep_221 : decode cX6_readsStep 221 = .ok (.iadd, 1) := by decide +kernel
theorem dX6_readsStep_222 : decode cX6_readsStep 222 = .ok (.aload_n 0, 1) := by decide +kernel
theorem dX6_readsStep_223 : decode cX6_readsStep 223 = .ok (.bipush 65, 2) := by decide +kernel
theorem dX6_readsStep_225 : decode cX6_readsStep 225 = .ok (.bipush 70, 2) := by decide +kernel
theorem dX6_readsStep_227 : decode cX6_readsStep 227 = .ok (.invokevirtual 110, 3) := by decide +kernel
theorem dX6_readsStep_230 : decode cX6_readsStep 230 = .ok (.iastore, 1) := by decide +kernel
theorem dX6_readsStep_231 : decode cX6_readsStep 231 = .ok (.aload_n 0, 1) := by decide +kernel
theorem dX6_readsStep_232 : decode cX6_readsStep 232 = .ok (.dup, 1) := by decide +kernel
theorem dX6_readsStep_233 : decode cX6_readsStep 233 = .ok (.getfield 113, 3) := by decide +kernel
theorem dX6_readsStep_236 : decode cX6_readsStep 236 = .ok (.aload_n 0, 1) := by decide +kernel
theorem dX6_readsStep_237 : decode cX6_readsStep 237 = .ok (.getfield 102, 3) := by decide +kernel
theorem dX6_readsStep_240 : decode cX6_readsStep 240 = .ok (.ifCond .eq 7, 3) := by decide +kernel
theorem dX6_readsStep_243 : decode cX6_readsStep 243 = .ok (.iconst 1, 1) := by decide +kernel
theorem dX6_readsStep_244 : decode cX6_readsStep 244 = .ok (.goto 4, 3) := by decide +kernel
theorem dX6_readsStep_247 : decode cX6_readsStep 247 = .ok (.iconst 0, 1) := by decide +kernel
theorem dX6_readsStep_248 : decode cX6_readsStep 248 = .ok (.iadd, 1) := by decide +kernel
theorem dX6_readsStep_249 : decode cX6_readsStep 249 = .ok (.putfield 113, 3) := by decide +kernel
theorem dX6_readsStep_252 : decode cX6_readsStep 252 = .ok (.return_, 1) := by decide +kernel
set_option maxRecDepth 20000 in
theorem ggX6_readsProgram_X6_readsStep : GoodIn wsX6_readsProgram wsX6_readsStep := goodIn_r _ [9, 2, 3, 10, 1, 11, 12, 13, 8, 14, 15, 16, 17, 18, 4, 19, 20, 21, 22, 23, 24, 25, 26, 27, 28, 29, 30, 31, 32, 33, 34, 35, 36, 37, 38, 39, 40, 41, 42, 43, 44] rfl (by decide +kernel)
set_option maxRecDepth 20000 in
theorem gX6_readsProgram_X6_readsStep : GoodIn wsX6_readsProgram (wsV RX6 119 RX6 yX6_readsStep wsX6_readsStep) := goodIn_app (goodIn_of _ (by decide +kernel)) ggX6_readsProgram_X6_readsStep
set_option maxRecDepth 20000 in
theorem ggX6_readsProgram_X6_takes : GoodIn wsX6_readsProgram wsX6_takes := goodIn_r _ [14, 3, 1, 15, 16, 17, 8, 18, 4, 19, 20, 21, 22, 28, 29, 30, 31, 32, 33, 34, 35, 36, 37, 38, 39, 40, 41, 42, 43, 44] rfl (by decide +kernel)
set_option maxRecDepth 20000 in
theorem gX6_readsProgram_X6_takes : GoodIn wsX6_readsProgram (wsV RX6 110 RX6 yX6_takes wsX6_takes) := goodIn_app (goodIn_of _ (by decide +kernel)) ggX6_readsProgram_X6_takes
theorem dX6_readsProgram_0 : decode cX6_readsProgram 0 = .ok (.aload_n 0, 1) := by decide +kernel
theorem dX6_readsProgram_1 : decode cX6_readsProgram 1 = .ok (.iconst 0, 1) := by decide +kernel
theorem dX6_readsProgram_2 : decode cX6_readsProgram 2 = .ok (.putfield 99, 3) := by decide +kernel
theorem dX6_readsProgram_5 : decode cX6_readsProgram 5 = .ok (.aload_n 0, 1) := by decide +kernel
theorem dX6_readsProgram_6 : decode cX6_readsProgram 6 = .ok (.iconst 0, 1) := by decide +kernel
theorem dX6_readsProgram_7 : decode cX6_readsProgram 7 = .ok (.putfield 113, 3) := by decide +kernel
theorem dX6_readsProgram_10 : decode cX6_readsProgram 10 = .ok (.aload_n 0, 1) := by decide +kernel
theorem dX6_readsProgram_11 : decode cX6_readsProgram 11 = .ok (.invokevirtual 119, 3) := by decide +kernel
theorem dX6_readsProgram_14 : decode cX6_readsProgram 14 = .ok (.aload_n 0, 1) := by decide +kernel
theorem dX6_readsProgram_15 : decode cX6_readsProgram 15 = .ok (.getfield 102, 3) := by decide +kernel
theorem dX6_readsProgram_18 : decode cX6_readsProgram 18 = .ok (.ifCond .eq 37, 3) := by decide +kernel
theorem dX6_readsProgram_21 : decode cX6_readsProgram 21 = .ok (.aload_n 0, 1) := by decide +kernel
theorem dX6_readsProgram_22 : decode cX6_readsProgram 22 = .ok (.getfield 99, 3) := by decide +kernel
theorem dX6_readsProgram_25 : decode cX6_readsProgram 25 = .ok (.aload_n 0, 1) := by decide +kernel
theorem dX6_readsProgram_26 : decode cX6_readsProgram 26 = .ok (.getfield 96, 3) := by decide +kernel
theorem dX6_readsProgram_29 : decode cX6_readsProgram 29 = .ok (.if_icmp .ge 26, 3) := by decide +kernel
theorem dX6_readsProgram_32 : decode cX6_readsProgram 32 = .ok (.aload_n 0, 1) := by decide +kernel
theorem dX6_readsProgram_33 : decode cX6_readsProgram 33 = .ok (.bipush 59, 2) := by decide +kernel
theorem dX6_readsProgram_35 : decode cX6_readsProgram 35 = .ok (.bipush 59, 2) := by decide +kernel
theorem dX6_readsProgram_37 : decode cX6_readsProgram 37 = .ok (.invokevirtual 110, 3) := by decide +kernel
theorem dX6_readsProgram_40 : decode cX6_readsProgram 40 = .ok (.pop, 1) := by decide +kernel
theorem dX6_readsProgram_41 : decode cX6_readsProgram 41 = .ok (.aload_n 0, 1) := by decide +kernel
theorem dX6_readsProgram_42 : decode cX6_readsProgram 42 = .ok (.getfield 102, 3) := by decide +kernel
theorem dX6_readsProgram_45 : decode cX6_readsProgram 45 = .ok (.ifCond .eq (-31), 3) := by decide +kernel
theorem dX6_readsProgram_48 : decode cX6_readsProgram 48 = .ok (.aload_n 0, 1) := by decide +kernel
theorem dX6_readsProgram_49 : decode cX6_readsProgram 49 = .ok (.invokevirtual 119, 3) := by decide +kernel
theorem dX6_readsProgram_52 : decode cX6_readsProgram 52 = .ok (.goto (-38), 3) := by decide +kernel
theorem dX6_readsProgram_55 : decode cX6_readsProgram 55 = .ok (.aload_n 0, 1) := by decide +kernel
theorem dX6_readsProgram_56 : decode cX6_readsProgram 56 = .ok (.getfield 102, 3) := by decide +kernel
theorem dX6_readsProgram_59 : decode cX6_readsProgram 59 = .ok (.ifCond .eq 7, 3) := by decide +kernel
theorem dX6_readsProgram_62 : decode cX6_readsProgram 62 = .ok (.iconst (-1), 1) := by decide +kernel
theorem dX6_readsProgram_63 : decode cX6_readsProgram 63 = .ok (.goto 7, 3) := by decide +kernel
theorem dX6_readsProgram_66 : decode cX6_readsProgram 66 = .ok (.aload_n 0, 1) := by decide +kernel
theorem dX6_readsProgram_67 : decode cX6_readsProgram 67 = .ok (.getfield 99, 3) := by decide +kernel
theorem dX6_readsProgram_70 : decode cX6_readsProgram 70 = .ok (.ireturn, 1) := by decide +kernel
set_option maxRecDepth 20000 in
theorem ggX6_programError_X6_readsProgram : GoodIn wsX6_programError wsX6_readsProgram := goodIn_r _ [6, 7, 8, 9, 10, 11, 12, 13, 5, 14, 15, 16, 17, 18, 19, 20, 21, 22, 23, 24, 25, 26, 27, 28, 29, 30, 31, 32, 33, 34, 35, 36, 37, 38, 39, 40, 41, 42, 43, 44, 45, 46, 47, 48, 49] rfl (by decide +kernel)
set_option maxRecDepth 20000 in
theorem gX6_programError_X6_readsProgram : GoodIn wsX6_programError (wsV RX6 122 RX6 yX6_readsProgram wsX6_readsProgram) := goodIn_app (goodIn_of _ (by decide +kernel)) ggX6_programError_X6_readsProgram
theorem dX6_programError_0 : decode cX6_programError 0 = .ok (.aload_n 0, 1) := by decide +kernel
theorem dX6_programError_1 : decode cX6_programError 1 = .ok (.iconst 0, 1) := by decide +kernel
theorem dX6_programError_2 : decode cX6_programError 2 = .ok (.putfield 31, 3) := by decide +kernel
theorem dX6_programError_5 : decode cX6_programError 5 = .ok (.aload_n 0, 1) := by decide +kernel
theorem dX6_programError_6 : decode cX6_programError 6 = .ok (.invokevirtual 122, 3) := by decide +kernel
theorem dX6_programError_9 : decode cX6_programError 9 = .ok (.ireturn, 1) := by decide +kernel
set_option maxRecDepth 20000 in
theorem ggX6_result_X6_of : GoodIn wsX6_result wsX6_of := goodIn_r _ [6, 7, 8, 9, 10, 11, 12, 13, 14, 15, 16, 17, 18, 19, 20, 21, 22, 23, 24] rfl (by decide +kernel)
set_option maxRecDepth 20000 in
theorem gX6_result_X6_of : GoodIn wsX6_result (wsV RX6 64 RX6 yX6_of wsX6_of) := goodIn_app (goodIn_of _ (by decide +kernel)) ggX6_result_X6_of
theorem dX6_result_0 : decode cX6_result 0 = .ok (.aload_n 0, 1) := by decide +kernel
theorem dX6_result_1 : decode cX6_result 1 = .ok (.getfield 25, 3) := by decide +kernel
theorem dX6_result_4 : decode cX6_result 4 = .ok (.iload_n 1, 1) := by decide +kernel
theorem dX6_result_5 : decode cX6_result 5 = .ok (.iconst 2, 1) := by decide +kernel
theorem dX6_result_6 : decode cX6_result 6 = .ok (.iadd, 1) := by decide +kernel
theorem dX6_result_7 : decode cX6_result 7 = .ok (.iaload, 1) := by decide +kernel
theorem dX6_result_8 : decode cX6_result 8 = .ok (.istore_n 2, 1) := by decide +kernel
theorem dX6_result_9 : decode cX6_result 9 = .ok (.aload_n 0, 1) := by decide +kernel
theorem dX6_result_10 : decode cX6_result 10 = .ok (.getfield 25, 3) := by decide +kernel
theorem dX6_result_13 : decode cX6_result 13 = .ok (.iload_n 1, 1) := by decide +kernel
theorem dX6_result_14 : decode cX6_result 14 = .ok (.iconst 3, 1) := by decide +kernel
theorem dX6_result_15 : decode cX6_result 15 = .ok (.iadd, 1) := by decide +kernel
theorem dX6_result_16 : decode cX6_result 16 = .ok (.iaload, 1) := by decide +kernel
theorem dX6_result_17 : decode cX6_result 17 = .ok (.istore_n 3, 1) := by decide +kernel
theorem dX6_result_18 : decode cX6_result 18 = .ok (.aload_n 0, 1) := by decide +kernel
theorem dX6_result_19 : decode cX6_result 19 = .ok (.getfield 25, 3) := by decide +kernel
theorem dX6_result_22 : decode cX6_result 22 = .ok (.iload_n 1, 1) := by decide +kernel
theorem dX6_result_23 : decode cX6_result 23 = .ok (.iconst 1, 1) := by decide +kernel
theorem dX6_result_24 : decode cX6_result 24 = .ok (.iadd, 1) := by decide +kernel
theorem dX6_result_25 : decode cX6_result 25 = .ok (.iaload, 1) := by decide +kernel
theorem dX6_result_26 : decode cX6_result 26 = .ok (.lookupswitch 95 #[(35, 50), (42, 83), (43, 59), (45, 52), (115, 71)], 50) := by decide +kernel
theorem dX6_result_76 : decode cX6_result 76 = .ok (.iload_n 2, 1) := by decide +kernel
theorem dX6_result_77 : decode cX6_result 77 = .ok (.ireturn, 1) := by decide +kernel
theorem dX6_result_78 : decode cX6_result 78 = .ok (.aload_n 0, 1) := by decide +kernel
theorem dX6_result_79 : decode cX6_result 79 = .ok (.iload_n 2, 1) := by decide +kernel
theorem dX6_result_80 : decode cX6_result 80 = .ok (.invokevirtual 64, 3) := by decide +kernel
theorem dX6_result_83 : decode cX6_result 83 = .ok (.ineg, 1) := by decide +kernel
theorem dX6_result_84 : decode cX6_result 84 = .ok (.ireturn, 1) := by decide +kernel
theorem dX6_result_85 : decode cX6_result 85 = .ok (.aload_n 0, 1) := by decide +kernel
theorem dX6_result_86 : decode cX6_result 86 = .ok (.iload_n 2, 1) := by decide +kernel
theorem dX6_result_87 : decode cX6_result 87 = .ok (.invokevirtual 64, 3) := by decide +kernel
theorem dX6_result_90 : decode cX6_result 90 = .ok (.aload_n 0, 1) := by decide +kernel
theorem dX6_result_91 : decode cX6_result 91 = .ok (.iload_n 3, 1) := by decide +kernel
theorem dX6_result_92 : decode cX6_result 92 = .ok (.invokevirtual 64, 3) := by decide +kernel
theorem dX6_result_95 : decode cX6_result 95 = .ok (.iadd, 1) := by decide +kernel
theorem dX6_result_96 : decode cX6_result 96 = .ok (.ireturn, 1) := by decide +kernel
theorem dX6_result_97 : decode cX6_result 97 = .ok (.aload_n 0, 1) := by decide +kernel
theorem dX6_result_98 : decode cX6_result 98 = .ok (.iload_n 2, 1) := by decide +kernel
theorem dX6_result_99 : decode cX6_result 99 = .ok (.invokevirtual 64, 3) := by decide +kernel
theorem dX6_result_102 : decode cX6_result 102 = .ok (.aload_n 0, 1) := by decide +kernel
theorem dX6_result_103 : decode cX6_result 103 = .ok (.iload_n 3, 1) := by decide +kernel
theorem dX6_result_104 : decode cX6_result 104 = .ok (.invokevirtual 64, 3) := by decide +kernel
theorem dX6_result_107 : decode cX6_result 107 = .ok (.isub, 1) := by decide +kernel
theorem dX6_result_108 : decode cX6_result 108 = .ok (.ireturn, 1) := by decide +kernel
theorem dX6_result_109 : decode cX6_result 109 = .ok (.aload_n 0, 1) := by decide +kernel
theorem dX6_result_110 : decode cX6_result 110 = .ok (.iload_n 2, 1) := by decide +kernel
theorem dX6_result_111 : decode cX6_result 111 = .ok (.invokevirtual 64, 3) := by decide +kernel
theorem dX6_result_114 : decode cX6_result 114 = .ok (.aload_n 0, 1) := by decide +kernel
theorem dX6_result_115 : decode cX6_result 115 = .ok (.iload_n 3, 1) := by decide +kernel
theorem dX6_result_116 : decode cX6_result 116 = .ok (.invokevirtual 64, 3) := by decide +kernel
theorem dX6_result_119 : decode cX6_result 119 = .ok (.imul, 1) := by decide +kernel
theorem dX6_result_120 : decode cX6_result 120 = .ok (.ireturn, 1) := by decide +kernel
theorem dX6_result_121 : decode cX6_result 121 = .ok (.aload_n 0, 1) := by decide +kernel
theorem dX6_result_122 : decode cX6_result 122 = .ok (.iload_n 2, 1) := by decide +kernel
theorem dX6_result_123 : decode cX6_result 123 = .ok (.invokevirtual 64, 3) := by decide +kernel
theorem dX6_result_126 : decode cX6_result 126 = .ok (.ireturn, 1) := by decide +kernel
set_option maxRecDepth 20000 in
theorem ggX6_doesAll_X6_result : GoodIn wsX6_doesAll wsX6_result := goodIn_r _ [9, 3, 10, 11, 12, 8, 13, 14, 30, 31, 32, 33, 34, 35, 36, 37, 38, 39, 40, 41, 42, 43, 44, 45, 46] rfl (by decide +kernel)
set_option maxRecDepth 20000 in
theorem gX6_doesAll_X6_result : GoodIn wsX6_doesAll (wsV RX6 128 RX6 yX6_result wsX6_result) := goodIn_app (goodIn_of _ (by decide +kernel)) ggX6_doesAll_X6_result
set_option maxRecDepth 20000 in
theorem ggX6_doesAll_X6_isValue : GoodIn wsX6_doesAll wsX6_isValue := goodIn_r _ [18, 14, 19, 20, 8, 21, 30, 31, 32, 33, 34, 35, 36, 37, 38, 39, 40, 41, 42, 43, 44, 45, 46] rfl (by decide +kernel)
set_option maxRecDepth 20000 in
theorem gX6_doesAll_X6_isValue : GoodIn wsX6_doesAll (wsV RX6 57 RX6 yX6_isValue wsX6_isValue) := goodIn_app (goodIn_of _ (by decide +kernel)) ggX6_doesAll_X6_isValue
set_option maxRecDepth 20000 in
theorem ggX6_doesAll_X6_lays : GoodIn wsX6_doesAll wsX6_lays := goodIn_r _ [25, 14, 15, 16, 17, 8, 18, 19, 20, 21, 26, 27, 28, 29, 10, 11, 12, 13, 30, 31, 32, 33, 34, 35, 36, 37, 38, 39, 40, 41, 42, 43, 44, 45, 46] rfl (by decide +kernel)
set_option maxRecDepth 20000 in
theorem gX6_doesAll_X6_lays : GoodIn wsX6_doesAll (wsV RX6 93 RX6 yX6_lays wsX6_lays) := goodIn_app (goodIn_of _ (by decide +kernel)) ggX6_doesAll_X6_lays
theorem dX6_doesAll_0 : decode cX6_doesAll 0 = .ok (.aload_n 0, 1) := by decide +kernel
theorem dX6_doesAll_1 : decode cX6_doesAll 1 = .ok (.iconst (-1), 1) := by decide +kernel
theorem dX6_doesAll_2 : decode cX6_doesAll 2 = .ok (.putfield 125, 3) := by decide +kernel
theorem dX6_doesAll_5 : decode cX6_doesAll 5 = .ok (.iconst 0, 1) := by decide +kernel
theorem dX6_doesAll_6 : decode cX6_doesAll 6 = .ok (.istore_n 1, 1) := by decide +kernel
theorem dX6_doesAll_7 : decode cX6_doesAll 7 = .ok (.iload_n 1, 1) := by decide +kernel
theorem dX6_doesAll_8 : decode cX6_doesAll 8 = .ok (.aload_n 0, 1) := by decide +kernel
theorem dX6_doesAll_9 : decode cX6_doesAll 9 = .ok (.getfield 113, 3) := by decide +kernel
theorem dX6_doesAll_12 : decode cX6_doesAll 12 = .ok (.if_icmp .ge 62, 3) := by decide +kernel
theorem dX6_doesAll_15 : decode cX6_doesAll 15 = .ok (.aload_n 0, 1) := by decide +kernel
theorem dX6_doesAll_16 : decode cX6_doesAll 16 = .ok (.iconst 4, 1) := by decide +kernel
theorem dX6_doesAll_17 : decode cX6_doesAll 17 = .ok (.iload_n 1, 1) := by decide +kernel
theorem dX6_doesAll_18 : decode cX6_doesAll 18 = .ok (.imul, 1) := by decide +kernel
theorem dX6_doesAll_19 : decode cX6_doesAll 19 = .ok (.invokevirtual 128, 3) := by decide +kernel
theorem dX6_doesAll_22 : decode cX6_doesAll 22 = .ok (.istore_n 2, 1) := by decide +kernel
theorem dX6_doesAll_23 : decode cX6_doesAll 23 = .ok (.aload_n 0, 1) := by decide +kernel
theorem dX6_doesAll_24 : decode cX6_doesAll 24 = .ok (.aload_n 0, 1) := by decide +kernel
theorem dX6_doesAll_25 : decode cX6_doesAll 25 = .ok (.getfield 125, 3) := by decide +kernel
theorem dX6_doesAll_28 : decode cX6_doesAll 28 = .ok (.iconst (-1), 1) := by decide +kernel
theorem dX6_doesAll_29 : decode cX6_doesAll 29 = .ok (.if_icmp .ne 15, 3) := by decide +kernel
theorem dX6_doesAll_32 : decode cX6_doesAll 32 = .ok (.aload_n 0, 1) := by decide +kernel
theorem dX6_doesAll_33 : decode cX6_doesAll 33 = .ok (.iload_n 2, 1) := by decide +kernel
theorem dX6_doesAll_34 : decode cX6_doesAll 34 = .ok (.invokevirtual 57, 3) := by decide +kernel
theorem dX6_doesAll_37 : decode cX6_doesAll 37 = .ok (.ifCond .ne 7, 3) := by decide +kernel
theorem dX6_doesAll_40 : decode cX6_doesAll 40 = .ok (.iload_n 1, 1) := by decide +kernel
theorem dX6_doesAll_41 : decode cX6_doesAll 41 = .ok (.goto 7, 3) := by decide +kernel
theorem dX6_doesAll_44 : decode cX6_doesAll 44 = .ok (.aload_n 0, 1) := by decide +kernel
theorem dX6_doesAll_45 : decode cX6_doesAll 45 = .ok (.getfield 125, 3) := by decide +kernel
theorem dX6_doesAll_48 : decode cX6_doesAll 48 = .ok (.putfield 125, 3) := by decide +kernel
theorem dX6_doesAll_51 : decode cX6_doesAll 51 = .ok (.aload_n 0, 1) := by decide +kernel
theorem dX6_doesAll_52 : decode cX6_doesAll 52 = .ok (.aload_n 0, 1) := by decide +kernel
theorem dX6_doesAll_53 : decode cX6_doesAll 53 = .ok (.aload_n 0, 1) := by decide +kernel
theorem dX6_doesAll_54 : decode cX6_doesAll 54 = .ok (.getfield 25, 3) := by decide +kernel
theorem dX6_doesAll_57 : decode cX6_doesAll 57 = .ok (.iconst 4, 1) := by decide +kernel
theorem dX6_doesAll_58 : decode cX6_doesAll 58 = .ok (.iload_n 1, 1) := by decide +kernel
theorem dX6_doesAll_59 : decode cX6_doesAll 59 = .ok (.imul, 1) := by decide +kernel
theorem dX6_doesAll_60 : decode cX6_doesAll 60 = .ok (.iaload, 1) := by decide +kernel
theorem dX6_doesAll_61 : decode cX6_doesAll 61 = .ok (.iload_n 2, 1) := by decide +kernel
theorem dX6_doesAll_62 : decode cX6_doesAll 62 = .ok (.invokevirtual 93, 3) := by decide +kernel
theorem dX6_doesAll_65 : decode cX6_doesAll 65 = .ok (.putfield 131, 3) := by decide +kernel
theorem dX6_doesAll_68 : decode cX6_doesAll 68 = .ok (.iinc 1 1, 3) := by decide +kernel
theorem dX6_doesAll_71 : decode cX6_doesAll 71 = .ok (.goto (-64), 3) := by decide +kernel
theorem dX6_doesAll_74 : decode cX6_doesAll 74 = .ok (.return_, 1) := by decide +kernel
set_option maxRecDepth 20000 in
theorem ggX6_firstOverflow_X6_readsProgram : GoodIn wsX6_firstOverflow wsX6_readsProgram := goodIn_r _ [7, 8, 9, 10, 11, 12, 13, 14, 6, 15, 16, 17, 18, 19, 20, 21, 22, 23, 24, 25, 26, 27, 28, 29, 30, 31, 32, 33, 73, 74, 75, 76, 77, 78, 79, 80, 81, 82, 83, 84, 85, 86, 87, 88, 89] rfl (by decide +kernel)
set_option maxRecDepth 20000 in
theorem gX6_firstOverflow_X6_readsProgram : GoodIn wsX6_firstOverflow (wsV RX6 122 RX6 yX6_readsProgram wsX6_readsProgram) := goodIn_app (goodIn_of _ (by decide +kernel)) ggX6_firstOverflow_X6_readsProgram
set_option maxRecDepth 20000 in
theorem ggX6_firstOverflow_X6_fails : GoodIn wsX6_firstOverflow wsX6_fails := goodIn_r _ [37, 1, 73, 74, 75, 76, 77, 78, 79, 80, 81, 82, 83, 84, 85, 86, 87, 88, 89] rfl (by decide +kernel)
set_option maxRecDepth 20000 in
theorem gX6_firstOverflow_X6_fails : GoodIn wsX6_firstOverflow (wsV RX6 67 RX6 yX6_fails wsX6_fails) := goodIn_app (goodIn_of _ (by decide +kernel)) ggX6_firstOverflow_X6_fails
set_option maxRecDepth 20000 in
theorem ggX6_firstOverflow_X6_putAside : GoodIn wsX6_firstOverflow wsX6_putAside := goodIn_r _ [41, 42, 43, 73, 74, 75, 76, 77, 78, 79, 80, 81, 82, 83, 84, 85, 86, 87, 88, 89] rfl (by decide +kernel)
set_option maxRecDepth 20000 in
theorem gX6_firstOverflow_X6_putAside : GoodIn wsX6_firstOverflow (wsV RX6 134 RX6 yX6_putAside wsX6_putAside) := goodIn_app (goodIn_of _ (by decide +kernel)) ggX6_firstOverflow_X6_putAside
set_option maxRecDepth 20000 in
theorem ggX6_firstOverflow_X6_doesAll : GoodIn wsX6_firstOverflow wsX6_doesAll := goodIn_r _ [47, 2, 9, 16, 48, 49, 50, 51, 6, 52, 53, 54, 55, 56, 43, 57, 58, 59, 60, 26, 27, 28, 61, 62, 63, 64, 65, 66, 67, 68, 73, 74, 75, 76, 77, 78, 79, 80, 81, 82, 83, 84, 85, 86, 87, 88, 89] rfl (by decide +kernel)
set_option maxRecDepth 20000 in
theorem gX6_firstOverflow_X6_doesAll : GoodIn wsX6_firstOverflow (wsV RX6 137 RX6 yX6_doesAll wsX6_doesAll) := goodIn_app (goodIn_of _ (by decide +kernel)) ggX6_firstOverflow_X6_doesAll
set_option maxRecDepth 20000 in
theorem ggX6_firstOverflow_X6_takeBack : GoodIn wsX6_firstOverflow wsX6_takeBack := goodIn_r _ [72, 43, 42, 73, 74, 75, 76, 77, 78, 79, 80, 81, 82, 83, 84, 85, 86, 87, 88, 89] rfl (by decide +kernel)
set_option maxRecDepth 20000 in
theorem gX6_firstOverflow_X6_takeBack : GoodIn wsX6_firstOverflow (wsV RX6 140 RX6 yX6_takeBack wsX6_takeBack) := goodIn_app (goodIn_of _ (by decide +kernel)) ggX6_firstOverflow_X6_takeBack
theorem dX6_firstOverflow_0 : decode cX6_firstOverflow 0 = .ok (.aload_n 0, 1) := by decide +kernel
theorem dX6_firstOverflow_1 : decode cX6_firstOverflow 1 = .ok (.iconst 0, 1) := by decide +kernel
theorem dX6_firstOverflow_2 : decode cX6_firstOverflow 2 = .ok (.putfield 31, 3) := by decide +kernel
theorem dX6_firstOverflow_5 : decode cX6_firstOverflow 5 = .ok (.aload_n 0, 1) := by decide +kernel
theorem dX6_firstOverflow_6 : decode cX6_firstOverflow 6 = .ok (.invokevirtual 122, 3) := by decide +kernel
theorem dX6_firstOverflow_9 : decode cX6_firstOverflow 9 = .ok (.iconst (-1), 1) := by decide +kernel
theorem dX6_firstOverflow_10 : decode cX6_firstOverflow 10 = .ok (.if_icmp .eq 9, 3) := by decide +kernel
theorem dX6_firstOverflow_13 : decode cX6_firstOverflow 13 = .ok (.aload_n 0, 1) := by decide +kernel
theorem dX6_firstOverflow_14 : decode cX6_firstOverflow 14 = .ok (.iconst 1, 1) := by decide +kernel
theorem dX6_firstOverflow_15 : decode cX6_firstOverflow 15 = .ok (.invokevirtual 67, 3) := by decide +kernel
theorem dX6_firstOverflow_18 : decode cX6_firstOverflow 18 = .ok (.ireturn, 1) := by decide +kernel
theorem dX6_firstOverflow_19 : decode cX6_firstOverflow 19 = .ok (.aload_n 0, 1) := by decide +kernel
theorem dX6_firstOverflow_20 : decode cX6_firstOverflow 20 = .ok (.invokevirtual 134, 3) := by decide +kernel
theorem dX6_firstOverflow_23 : decode cX6_firstOverflow 23 = .ok (.aload_n 0, 1) := by decide +kernel
theorem dX6_firstOverflow_24 : decode cX6_firstOverflow 24 = .ok (.invokevirtual 137, 3) := by decide +kernel
theorem dX6_firstOverflow_27 : decode cX6_firstOverflow 27 = .ok (.aload_n 0, 1) := by decide +kernel
theorem dX6_firstOverflow_28 : decode cX6_firstOverflow 28 = .ok (.invokevirtual 140, 3) := by decide +kernel
theorem dX6_firstOverflow_31 : decode cX6_firstOverflow 31 = .ok (.aload_n 0, 1) := by decide +kernel
theorem dX6_firstOverflow_32 : decode cX6_firstOverflow 32 = .ok (.getfield 125, 3) := by decide +kernel
theorem dX6_firstOverflow_35 : decode cX6_firstOverflow 35 = .ok (.ireturn, 1) := by decide +kernel
set_option maxRecDepth 20000 in
theorem ggX6_carryOut_X6_readsProgram : GoodIn wsX6_carryOut wsX6_readsProgram := goodIn_r _ [7, 8, 9, 10, 11, 12, 13, 14, 6, 15, 16, 17, 18, 19, 20, 21, 22, 23, 24, 25, 26, 27, 28, 29, 30, 31, 32, 33, 70, 71, 72, 73, 74, 75, 76, 77, 78, 79, 80, 81, 82, 83, 84, 85, 86] rfl (by decide +kernel)
set_option maxRecDepth 20000 in
theorem gX6_carryOut_X6_readsProgram : GoodIn wsX6_carryOut (wsV RX6 122 RX6 yX6_readsProgram wsX6_readsProgram) := goodIn_app (goodIn_of _ (by decide +kernel)) ggX6_carryOut_X6_readsProgram
set_option maxRecDepth 20000 in
theorem ggX6_carryOut_X6_fails : GoodIn wsX6_carryOut wsX6_fails := goodIn_r _ [37, 1, 70, 71, 72, 73, 74, 75, 76, 77, 78, 79, 80, 81, 82, 83, 84, 85, 86] rfl (by decide +kernel)
set_option maxRecDepth 20000 in
theorem gX6_carryOut_X6_fails : GoodIn wsX6_carryOut (wsV RX6 67 RX6 yX6_fails wsX6_fails) := goodIn_app (goodIn_of _ (by decide +kernel)) ggX6_carryOut_X6_fails
set_option maxRecDepth 20000 in
theorem ggX6_carryOut_X6_records : GoodIn wsX6_carryOut wsX6_records := goodIn_r _ [41, 42, 43, 44, 70, 71, 72, 73, 74, 75, 76, 77, 78, 79, 80, 81, 82, 83, 84, 85, 86] rfl (by decide +kernel)
set_option maxRecDepth 20000 in
theorem gX6_carryOut_X6_records : GoodIn wsX6_carryOut (wsV RX6 70 RX6 yX6_records wsX6_records) := goodIn_app (goodIn_of _ (by decide +kernel)) ggX6_carryOut_X6_records
set_option maxRecDepth 20000 in
theorem ggX6_carryOut_X6_doesAll : GoodIn wsX6_carryOut wsX6_doesAll := goodIn_r _ [48, 49, 9, 16, 2, 50, 51, 52, 6, 53, 54, 55, 56, 57, 44, 58, 59, 60, 61, 26, 27, 28, 62, 63, 64, 65, 66, 67, 68, 69, 70, 71, 72, 73, 74, 75, 76, 77, 78, 79, 80, 81, 82, 83, 84, 85, 86] rfl (by decide +kernel)
set_option maxRecDepth 20000 in
theorem gX6_carryOut_X6_doesAll : GoodIn wsX6_carryOut (wsV RX6 137 RX6 yX6_doesAll wsX6_doesAll) := goodIn_app (goodIn_of _ (by decide +kernel)) ggX6_carryOut_X6_doesAll
theorem dX6_carryOut_0 : decode cX6_carryOut 0 = .ok (.aload_n 0, 1) := by decide +kernel
theorem dX6_carryOut_1 : decode cX6_carryOut 1 = .ok (.iconst 0, 1) := by decide +kernel
theorem dX6_carryOut_2 : decode cX6_carryOut 2 = .ok (.putfield 31, 3) := by decide +kernel
theorem dX6_carryOut_5 : decode cX6_carryOut 5 = .ok (.aload_n 0, 1) := by decide +kernel
theorem dX6_carryOut_6 : decode cX6_carryOut 6 = .ok (.invokevirtual 122, 3) := by decide +kernel
theorem dX6_carryOut_9 : decode cX6_carryOut 9 = .ok (.iconst (-1), 1) := by decide +kernel
theorem dX6_carryOut_10 : decode cX6_carryOut 10 = .ok (.if_icmp .eq 9, 3) := by decide +kernel
theorem dX6_carryOut_13 : decode cX6_carryOut 13 = .ok (.aload_n 0, 1) := by decide +kernel
theorem dX6_carryOut_14 : decode cX6_carryOut 14 = .ok (.iconst 1, 1) := by decide +kernel
theorem dX6_carryOut_15 : decode cX6_carryOut 15 = .ok (.invokevirtual 67, 3) := by decide +kernel
theorem dX6_carryOut_18 : decode cX6_carryOut 18 = .ok (.ireturn, 1) := by decide +kernel
theorem dX6_carryOut_19 : decode cX6_carryOut 19 = .ok (.aload_n 0, 1) := by decide +kernel
theorem dX6_carryOut_20 : decode cX6_carryOut 20 = .ok (.invokevirtual 70, 3) := by decide +kernel
theorem dX6_carryOut_23 : decode cX6_carryOut 23 = .ok (.aload_n 0, 1) := by decide +kernel
theorem dX6_carryOut_24 : decode cX6_carryOut 24 = .ok (.invokevirtual 137, 3) := by decide +kernel
theorem dX6_carryOut_27 : decode cX6_carryOut 27 = .ok (.aload_n 0, 1) := by decide +kernel
theorem dX6_carryOut_28 : decode cX6_carryOut 28 = .ok (.getfield 131, 3) := by decide +kernel
theorem dX6_carryOut_31 : decode cX6_carryOut 31 = .ok (.ireturn, 1) := by decide +kernel
set_option maxRecDepth 20000 in
theorem ggX6_undo_X6_fails : GoodIn wsX6_undo wsX6_fails := goodIn_r _ [9, 1, 10, 11, 12, 13, 14, 15, 16, 17, 18, 19, 20, 21, 22, 23, 24, 25, 26] rfl (by decide +kernel)
set_option maxRecDepth 20000 in
theorem gX6_undo_X6_fails : GoodIn wsX6_undo (wsV RX6 67 RX6 yX6_fails wsX6_fails) := goodIn_app (goodIn_of _ (by decide +kernel)) ggX6_undo_X6_fails
theorem dX6_undo_0 : decode cX6_undo 0 = .ok (.aload_n 0, 1) := by decide +kernel
theorem dX6_undo_1 : decode cX6_undo 1 = .ok (.iconst 0, 1) := by decide +kernel
theorem dX6_undo_2 : decode cX6_undo 2 = .ok (.putfield 31, 3) := by decide +kernel
theorem dX6_undo_5 : decode cX6_undo 5 = .ok (.aload_n 0, 1) := by decide +kernel
theorem dX6_undo_6 : decode cX6_undo 6 = .ok (.getfield 43, 3) := by decide +kernel
theorem dX6_undo_9 : decode cX6_undo 9 = .ok (.ifCond .ne 9, 3) := by decide +kernel
theorem dX6_undo_12 : decode cX6_undo 12 = .ok (.aload_n 0, 1) := by decide +kernel
theorem dX6_undo_13 : decode cX6_undo 13 = .ok (.iconst 1, 1) := by decide +kernel
theorem dX6_undo_14 : decode cX6_undo 14 = .ok (.invokevirtual 67, 3) := by decide +kernel
theorem dX6_undo_17 : decode cX6_undo 17 = .ok (.ireturn, 1) := by decide +kernel
theorem dX6_undo_18 : decode cX6_undo 18 = .ok (.aload_n 0, 1) := by decide +kernel
theorem dX6_undo_19 : decode cX6_undo 19 = .ok (.dup, 1) := by decide +kernel
theorem dX6_undo_20 : decode cX6_undo 20 = .ok (.getfield 43, 3) := by decide +kernel
theorem dX6_undo_23 : decode cX6_undo 23 = .ok (.iconst 1, 1) := by decide +kernel
theorem dX6_undo_24 : decode cX6_undo 24 = .ok (.isub, 1) := by decide +kernel
theorem dX6_undo_25 : decode cX6_undo 25 = .ok (.putfield 43, 3) := by decide +kernel
theorem dX6_undo_28 : decode cX6_undo 28 = .ok (.iconst 0, 1) := by decide +kernel
theorem dX6_undo_29 : decode cX6_undo 29 = .ok (.istore_n 1, 1) := by decide +kernel
theorem dX6_undo_30 : decode cX6_undo 30 = .ok (.iload_n 1, 1) := by decide +kernel
theorem dX6_undo_31 : decode cX6_undo 31 = .ok (.bipush 16, 2) := by decide +kernel
theorem dX6_undo_33 : decode cX6_undo 33 = .ok (.if_icmp .ge 29, 3) := by decide +kernel
theorem dX6_undo_36 : decode cX6_undo 36 = .ok (.aload_n 0, 1) := by decide +kernel
theorem dX6_undo_37 : decode cX6_undo 37 = .ok (.getfield 7, 3) := by decide +kernel
theorem dX6_undo_40 : decode cX6_undo 40 = .ok (.iload_n 1, 1) := by decide +kernel
theorem dX6_undo_41 : decode cX6_undo 41 = .ok (.aload_n 0, 1) := by decide +kernel
theorem dX6_undo_42 : decode cX6_undo 42 = .ok (.getfield 16, 3) := by decide +kernel
theorem dX6_undo_45 : decode cX6_undo 45 = .ok (.bipush 16, 2) := by decide +kernel
theorem dX6_undo_47 : decode cX6_undo 47 = .ok (.aload_n 0, 1) := by decide +kernel
theorem dX6_undo_48 : decode cX6_undo 48 = .ok (.getfield 43, 3) := by decide +kernel
theorem dX6_undo_51 : decode cX6_undo 51 = .ok (.imul, 1) := by decide +kernel
theorem dX6_undo_52 : decode cX6_undo 52 = .ok (.iload_n 1, 1) := by decide +kernel
theorem dX6_undo_53 : decode cX6_undo 53 = .ok (.iadd, 1) := by decide +kernel
theorem dX6_undo_54 : decode cX6_undo 54 = .ok (.iaload, 1) := by decide +kernel
theorem dX6_undo_55 : decode cX6_undo 55 = .ok (.iastore, 1) := by decide +kernel
theorem dX6_undo_56 : decode cX6_undo 56 = .ok (.iinc 1 1, 3) := by decide +kernel
theorem dX6_undo_59 : decode cX6_undo 59 = .ok (.goto (-29), 3) := by decide +kernel
theorem dX6_undo_62 : decode cX6_undo 62 = .ok (.aload_n 0, 1) := by decide +kernel
theorem dX6_undo_63 : decode cX6_undo 63 = .ok (.getfield 43, 3) := by decide +kernel
theorem dX6_undo_66 : decode cX6_undo 66 = .ok (.ireturn, 1) := by decide +kernel
theorem dX6_takeSnapshot_0 : decode cX6_takeSnapshot 0 = .ok (.aload_n 0, 1) := by decide +kernel
theorem dX6_takeSnapshot_1 : decode cX6_takeSnapshot 1 = .ok (.iconst 0, 1) := by decide +kernel
theorem dX6_takeSnapshot_2 : decode cX6_takeSnapshot 2 = .ok (.putfield 31, 3) := by decide +kernel
theorem dX6_takeSnapshot_5 : decode cX6_takeSnapshot 5 = .ok (.iconst 0, 1) := by decide +kernel
theorem dX6_takeSnapshot_6 : decode cX6_takeSnapshot 6 = .ok (.istore_n 1, 1) := by decide +kernel
theorem dX6_takeSnapshot_7 : decode cX6_takeSnapshot 7 = .ok (.iload_n 1, 1) := by decide +kernel
theorem dX6_takeSnapshot_8 : decode cX6_takeSnapshot 8 = .ok (.bipush 16, 2) := by decide +kernel
theorem dX6_takeSnapshot_10 : decode cX6_takeSnapshot 10 = .ok (.if_icmp .ge 21, 3) := by decide +kernel
theorem dX6_takeSnapshot_13 : decode cX6_takeSnapshot 13 = .ok (.aload_n 0, 1) := by decide +kernel
theorem dX6_takeSnapshot_14 : decode cX6_takeSnapshot 14 = .ok (.getfield 19, 3) := by decide +kernel
theorem dX6_takeSnapshot_17 : decode cX6_takeSnapshot 17 = .ok (.iload_n 1, 1) := by decide +kernel
theorem dX6_takeSnapshot_18 : decode cX6_takeSnapshot 18 = .ok (.aload_n 0, 1) := by decide +kernel
theorem dX6_takeSnapshot_19 : decode cX6_takeSnapshot 19 = .ok (.getfield 7, 3) := by decide +kernel
theorem dX6_takeSnapshot_22 : decode cX6_takeSnapshot 22 = .ok (.iload_n 1, 1) := by decide +kernel
theorem dX6_takeSnapshot_23 : decode cX6_takeSnapshot 23 = .ok (.iaload, 1) := by decide +kernel
theorem dX6_takeSnapshot_24 : decode cX6_takeSnapshot 24 = .ok (.iastore, 1) := by decide +kernel
theorem dX6_takeSnapshot_25 : decode cX6_takeSnapshot 25 = .ok (.iinc 1 1, 3) := by decide +kernel
theorem dX6_takeSnapshot_28 : decode cX6_takeSnapshot 28 = .ok (.goto (-21), 3) := by decide +kernel
theorem dX6_takeSnapshot_31 : decode cX6_takeSnapshot 31 = .ok (.aload_n 0, 1) := by decide +kernel
theorem dX6_takeSnapshot_32 : decode cX6_takeSnapshot 32 = .ok (.iconst 1, 1) := by decide +kernel
theorem dX6_takeSnapshot_33 : decode cX6_takeSnapshot 33 = .ok (.putfield 143, 3) := by decide +kernel
theorem dX6_takeSnapshot_36 : decode cX6_takeSnapshot 36 = .ok (.aload_n 0, 1) := by decide +kernel
theorem dX6_takeSnapshot_37 : decode cX6_takeSnapshot 37 = .ok (.getfield 7, 3) := by decide +kernel
theorem dX6_takeSnapshot_40 : decode cX6_takeSnapshot 40 = .ok (.iconst 0, 1) := by decide +kernel
theorem dX6_takeSnapshot_41 : decode cX6_takeSnapshot 41 = .ok (.iaload, 1) := by decide +kernel
theorem dX6_takeSnapshot_42 : decode cX6_takeSnapshot 42 = .ok (.ireturn, 1) := by decide +kernel
set_option maxRecDepth 20000 in
theorem ggX6_restoreSnapshot_X6_fails : GoodIn wsX6_restoreSnapshot wsX6_fails := goodIn_r _ [9, 1, 16, 17, 18, 19, 20, 21, 22, 23, 24, 25, 26, 27, 28, 29, 30, 31, 32] rfl (by decide +kernel)
set_option maxRecDepth 20000 in
theorem gX6_restoreSnapshot_X6_fails : GoodIn wsX6_restoreSnapshot (wsV RX6 67 RX6 yX6_fails wsX6_fails) := goodIn_app (goodIn_of _ (by decide +kernel)) ggX6_restoreSnapshot_X6_fails
set_option maxRecDepth 20000 in
theorem ggX6_restoreSnapshot_X6_records : GoodIn wsX6_restoreSnapshot wsX6_records := goodIn_r _ [13, 14, 15, 3, 16, 17, 18, 19, 20, 21, 22, 23, 24, 25, 26, 27, 28, 29, 30, 31, 32] rfl (by decide +kernel)
set_option maxRecDepth 20000 in
theorem gX6_restoreSnapshot_X6_records : GoodIn wsX6_restoreSnapshot (wsV RX6 70 RX6 yX6_records wsX6_records) := goodIn_app (goodIn_of _ (by decide +kernel)) ggX6_restoreSnapshot_X6_records
theorem dX6_restoreSnapshot_0 : decode cX6_restoreSnapshot 0 = .ok (.aload_n 0, 1) := by decide +kernel
theorem dX6_restoreSnapshot_1 : decode cX6_restoreSnapshot 1 = .ok (.iconst 0, 1) := by decide +kernel
theorem dX6_restoreSnapshot_2 : decode cX6_restoreSnapshot 2 = .ok (.putfield 31, 3) := by decide +kernel
theorem dX6_restoreSnapshot_5 : decode cX6_restoreSnapshot 5 = .ok (.aload_n 0, 1) := by decide +kernel
theorem dX6_restoreSnapshot_6 : decode cX6_restoreSnapshot 6 = .ok (.getfield 143, 3) := by decide +kernel
theorem dX6_restoreSnapshot_9 : decode cX6_restoreSnapshot 9 = .ok (.ifCond .ne 9, 3) := by decide +kernel
theorem dX6_restoreSnapshot_12 : decode cX6_restoreSnapshot 12 = .ok (.aload_n 0, 1) := by decide +kernel
theorem dX6_restoreSnapshot_13 : decode cX6_restoreSnapshot 13 = .ok (.iconst 1, 1) := by decide +kernel
theorem dX6_restoreSnapshot_14 : decode cX6_restoreSnapshot 14 = .ok (.invokevirtual 67, 3) := by decide +kernel
theorem dX6_restoreSnapshot_17 : decode cX6_restoreSnapshot 17 = .ok (.ireturn, 1) := by decide +kernel
theorem dX6_restoreSnapshot_18 : decode cX6_restoreSnapshot 18 = .ok (.aload_n 0, 1) := by decide +kernel
theorem dX6_restoreSnapshot_19 : decode cX6_restoreSnapshot 19 = .ok (.invokevirtual 70, 3) := by decide +kernel
theorem dX6_restoreSnapshot_22 : decode cX6_restoreSnapshot 22 = .ok (.iconst 0, 1) := by decide +kernel
theorem dX6_restoreSnapshot_23 : decode cX6_restoreSnapshot 23 = .ok (.istore_n 1, 1) := by decide +kernel
theorem dX6_restoreSnapshot_24 : decode cX6_restoreSnapshot 24 = .ok (.iload_n 1, 1) := by decide +kernel
theorem dX6_restoreSnapshot_25 : decode cX6_restoreSnapshot 25 = .ok (.bipush 16, 2) := by decide +kernel
theorem dX6_restoreSnapshot_27 : decode cX6_restoreSnapshot 27 = .ok (.if_icmp .ge 21, 3) := by decide +kernel
theorem dX6_restoreSnapshot_30 : decode cX6_restoreSnapshot 30 = .ok (.aload_n 0, 1) := by decide +kernel
theorem dX6_restoreSnapshot_31 : decode cX6_restoreSnapshot 31 = .ok (.getfield 7, 3) := by decide +kernel
theorem dX6_restoreSnapshot_34 : decode cX6_restoreSnapshot 34 = .ok (.iload_n 1, 1) := by decide +kernel
theorem dX6_restoreSnapshot_35 : decode cX6_restoreSnapshot 35 = .ok (.aload_n 0, 1) := by decide +kernel
theorem dX6_restoreSnapshot_36 : decode cX6_restoreSnapshot 36 = .ok (.getfield 19, 3) := by decide +kernel
theorem dX6_restoreSnapshot_39 : decode cX6_restoreSnapshot 39 = .ok (.iload_n 1, 1) := by decide +kernel
theorem dX6_restoreSnapshot_40 : decode cX6_restoreSnapshot 40 = .ok (.iaload, 1) := by decide +kernel
theorem dX6_restoreSnapshot_41 : decode cX6_restoreSnapshot 41 = .ok (.iastore, 1) := by decide +kernel
theorem dX6_restoreSnapshot_42 : decode cX6_restoreSnapshot 42 = .ok (.iinc 1 1, 3) := by decide +kernel
theorem dX6_restoreSnapshot_45 : decode cX6_restoreSnapshot 45 = .ok (.goto (-21), 3) := by decide +kernel
theorem dX6_restoreSnapshot_48 : decode cX6_restoreSnapshot 48 = .ok (.aload_n 0, 1) := by decide +kernel
theorem dX6_restoreSnapshot_49 : decode cX6_restoreSnapshot 49 = .ok (.getfield 7, 3) := by decide +kernel
theorem dX6_restoreSnapshot_52 : decode cX6_restoreSnapshot 52 = .ok (.iconst 0, 1) := by decide +kernel
theorem dX6_restoreSnapshot_53 : decode cX6_restoreSnapshot 53 = .ok (.iaload, 1) := by decide +kernel
theorem dX6_restoreSnapshot_54 : decode cX6_restoreSnapshot 54 = .ok (.ireturn, 1) := by decide +kernel
theorem dX6_width_0 : decode cX6_width 0 = .ok (.aload_n 0, 1) := by decide +kernel
theorem dX6_width_1 : decode cX6_width 1 = .ok (.iconst 0, 1) := by decide +kernel
theorem dX6_width_2 : decode cX6_width 2 = .ok (.putfield 31, 3) := by decide +kernel
theorem dX6_width_5 : decode cX6_width 5 = .ok (.aload_n 0, 1) := by decide +kernel
theorem dX6_width_6 : decode cX6_width 6 = .ok (.getfield 7, 3) := by decide +kernel
theorem dX6_width_9 : decode cX6_width 9 = .ok (.iconst 0, 1) := by decide +kernel
theorem dX6_width_10 : decode cX6_width 10 = .ok (.iaload, 1) := by decide +kernel
theorem dX6_width_11 : decode cX6_width 11 = .ok (.ireturn, 1) := by decide +kernel
set_option maxRecDepth 20000 in
theorem ggX6_valueOf_X6_isRegister : GoodIn wsX6_valueOf wsX6_isRegister := goodIn_r _ [5, 6, 7, 4, 8] rfl (by decide +kernel)
set_option maxRecDepth 20000 in
theorem gX6_valueOf_X6_isRegister : GoodIn wsX6_valueOf (va_wsS RX6 39 yX6_isRegister wsX6_isRegister) := goodIn_app (goodIn_of _ (by decide +kernel)) ggX6_valueOf_X6_isRegister
set_option maxRecDepth 20000 in
theorem ggX6_valueOf_X6_of : GoodIn wsX6_valueOf wsX6_of := goodIn_r _ [12, 13, 18, 19, 20, 21, 22, 23, 24, 25, 26, 27, 28, 29, 30, 31, 32, 33, 34] rfl (by decide +kernel)
set_option maxRecDepth 20000 in
theorem gX6_valueOf_X6_of : GoodIn wsX6_valueOf (wsV RX6 64 RX6 yX6_of wsX6_of) := goodIn_app (goodIn_of _ (by decide +kernel)) ggX6_valueOf_X6_of
set_option maxRecDepth 20000 in
theorem ggX6_valueOf_X6_fails : GoodIn wsX6_valueOf wsX6_fails := goodIn_r _ [17, 1, 18, 19, 20, 21, 22, 23, 24, 25, 26, 27, 28, 29, 30, 31, 32, 33, 34] rfl (by decide +kernel)
set_option maxRecDepth 20000 in
theorem gX6_valueOf_X6_fails : GoodIn wsX6_valueOf (wsV RX6 67 RX6 yX6_fails wsX6_fails) := goodIn_app (goodIn_of _ (by decide +kernel)) ggX6_valueOf_X6_fails
theorem dX6_valueOf_0 : decode cX6_valueOf 0 = .ok (.aload_n 0, 1) := by decide +kernel
theorem dX6_valueOf_1 : decode cX6_valueOf 1 = .ok (.iconst 0, 1) := by decide +kernel
theorem dX6_valueOf_2 : decode cX6_valueOf 2 = .ok (.putfield 31, 3) := by decide +kernel
theorem dX6_valueOf_5 : decode cX6_valueOf 5 = .ok (.iload_n 1, 1) := by decide +kernel
theorem dX6_valueOf_6 : decode cX6_valueOf 6 = .ok (.invokestatic 39, 3) := by decide +kernel
theorem dX6_valueOf_9 : decode cX6_valueOf 9 = .ok (.ifCond .eq 11, 3) := by decide +kernel
theorem dX6_valueOf_12 : decode cX6_valueOf 12 = .ok (.aload_n 0, 1) := by decide +kernel
theorem dX6_valueOf_13 : decode cX6_valueOf 13 = .ok (.iload_n 1, 1) := by decide +kernel
theorem dX6_valueOf_14 : decode cX6_valueOf 14 = .ok (.invokevirtual 64, 3) := by decide +kernel
theorem dX6_valueOf_17 : decode cX6_valueOf 17 = .ok (.goto 8, 3) := by decide +kernel
theorem dX6_valueOf_20 : decode cX6_valueOf 20 = .ok (.aload_n 0, 1) := by decide +kernel
theorem dX6_valueOf_21 : decode cX6_valueOf 21 = .ok (.iconst 1, 1) := by decide +kernel
theorem dX6_valueOf_22 : decode cX6_valueOf 22 = .ok (.invokevirtual 67, 3) := by decide +kernel
theorem dX6_valueOf_25 : decode cX6_valueOf 25 = .ok (.ireturn, 1) := by decide +kernel
theorem dX6_onesIn_0 : decode cX6_onesIn 0 = .ok (.iconst 0, 1) := by decide +kernel
theorem dX6_onesIn_1 : decode cX6_onesIn 1 = .ok (.istore_n 2, 1) := by decide +kernel
theorem dX6_onesIn_2 : decode cX6_onesIn 2 = .ok (.iconst 0, 1) := by decide +kernel
theorem dX6_onesIn_3 : decode cX6_onesIn 3 = .ok (.istore_n 3, 1) := by decide +kernel
theorem dX6_onesIn_4 : decode cX6_onesIn 4 = .ok (.iload_n 3, 1) := by decide +kernel
theorem dX6_onesIn_5 : decode cX6_onesIn 5 = .ok (.aload_n 0, 1) := by decide +kernel
theorem dX6_onesIn_6 : decode cX6_onesIn 6 = .ok (.getfield 7, 3) := by decide +kernel
theorem dX6_onesIn_9 : decode cX6_onesIn 9 = .ok (.iconst 0, 1) := by decide +kernel
theorem dX6_onesIn_10 : decode cX6_onesIn 10 = .ok (.iaload, 1) := by decide +kernel
theorem dX6_onesIn_11 : decode cX6_onesIn 11 = .ok (.if_icmp .ge 17, 3) := by decide +kernel
theorem dX6_onesIn_14 : decode cX6_onesIn 14 = .ok (.iload_n 2, 1) := by decide +kernel
theorem dX6_onesIn_15 : decode cX6_onesIn 15 = .ok (.iload_n 1, 1) := by decide +kernel
theorem dX6_onesIn_16 : decode cX6_onesIn 16 = .ok (.iload_n 3, 1) := by decide +kernel
theorem dX6_onesIn_17 : decode cX6_onesIn 17 = .ok (.ishr, 1) := by decide +kernel
theorem dX6_onesIn_18 : decode cX6_onesIn 18 = .ok (.iconst 1, 1) := by decide +kernel
theorem dX6_onesIn_19 : decode cX6_onesIn 19 = .ok (.iand, 1) := by decide +kernel
theorem dX6_onesIn_20 : decode cX6_onesIn 20 = .ok (.iadd, 1) := by decide +kernel
theorem dX6_onesIn_21 : decode cX6_onesIn 21 = .ok (.istore_n 2, 1) := by decide +kernel
theorem dX6_onesIn_22 : decode cX6_onesIn 22 = .ok (.iinc 3 1, 3) := by decide +kernel
theorem dX6_onesIn_25 : decode cX6_onesIn 25 = .ok (.goto (-21), 3) := by decide +kernel
theorem dX6_onesIn_28 : decode cX6_onesIn 28 = .ok (.iload_n 2, 1) := by decide +kernel
theorem dX6_onesIn_29 : decode cX6_onesIn 29 = .ok (.ireturn, 1) := by decide +kernel
set_option maxRecDepth 20000 in
theorem ggX6_onesOf_X6_isRegister : GoodIn wsX6_onesOf wsX6_isRegister := goodIn_r _ [5, 6, 7, 4, 8] rfl (by decide +kernel)
set_option maxRecDepth 20000 in
theorem gX6_onesOf_X6_isRegister : GoodIn wsX6_onesOf (va_wsS RX6 39 yX6_isRegister wsX6_isRegister) := goodIn_app (goodIn_of _ (by decide +kernel)) ggX6_onesOf_X6_isRegister
set_option maxRecDepth 20000 in
theorem ggX6_onesOf_X6_of : GoodIn wsX6_onesOf wsX6_of := goodIn_r _ [12, 13, 22, 23, 24, 25, 26, 27, 28, 29, 30, 31, 32, 33, 34, 35, 36, 37, 38] rfl (by decide +kernel)
set_option maxRecDepth 20000 in
theorem gX6_onesOf_X6_of : GoodIn wsX6_onesOf (wsV RX6 64 RX6 yX6_of wsX6_of) := goodIn_app (goodIn_of _ (by decide +kernel)) ggX6_onesOf_X6_of
set_option maxRecDepth 20000 in
theorem ggX6_onesOf_X6_onesIn : GoodIn wsX6_onesOf wsX6_onesIn := goodIn_r _ [17, 13, 22, 23, 24, 25, 26, 27, 28, 29, 30, 31, 32, 33, 34, 35, 36, 37, 38] rfl (by decide +kernel)
set_option maxRecDepth 20000 in
theorem gX6_onesOf_X6_onesIn : GoodIn wsX6_onesOf (wsV RX6 146 RX6 yX6_onesIn wsX6_onesIn) := goodIn_app (goodIn_of _ (by decide +kernel)) ggX6_onesOf_X6_onesIn
set_option maxRecDepth 20000 in
theorem ggX6_onesOf_X6_fails : GoodIn wsX6_onesOf wsX6_fails := goodIn_r _ [21, 1, 22, 23, 24, 25, 26, 27, 28, 29, 30, 31, 32, 33, 34, 35, 36, 37, 38] rfl (by decide +kernel)
set_option maxRecDepth 20000 in
theorem gX6_onesOf_X6_fails : GoodIn wsX6_onesOf (wsV RX6 67 RX6 yX6_fails wsX6_fails) := goodIn_app (goodIn_of _ (by decide +kernel)) ggX6_onesOf_X6_fails
theorem dX6_onesOf_0 : decode cX6_onesOf 0 = .ok (.aload_n 0, 1) := by decide +kernel
theorem dX6_onesOf_1 : decode cX6_onesOf 1 = .ok (.iconst 0, 1) := by decide +kernel
theorem dX6_onesOf_2 : decode cX6_onesOf 2 = .ok (.putfield 31, 3) := by decide +kernel
theorem dX6_onesOf_5 : decode cX6_onesOf 5 = .ok (.iload_n 1, 1) := by decide +kernel
theorem dX6_onesOf_6 : decode cX6_onesOf 6 = .ok (.invokestatic 39, 3) := by decide +kernel
theorem dX6_onesOf_9 : decode cX6_onesOf 9 = .ok (.ifCond .eq 15, 3) := by decide +kernel
theorem dX6_onesOf_12 : decode cX6_onesOf 12 = .ok (.aload_n 0, 1) := by decide +kernel
theorem dX6_onesOf_13 : decode cX6_onesOf 13 = .ok (.aload_n 0, 1) := by decide +kernel
theorem dX6_onesOf_14 : decode cX6_onesOf 14 = .ok (.iload_n 1, 1) := by decide +kernel
theorem dX6_onesOf_15 : decode cX6_onesOf 15 = .ok (.invokevirtual 64, 3) := by decide +kernel
theorem dX6_onesOf_18 : decode cX6_onesOf 18 = .ok (.invokevirtual 146, 3) := by decide +kernel
theorem dX6_onesOf_21 : decode cX6_onesOf 21 = .ok (.goto 8, 3) := by decide +kernel
theorem dX6_onesOf_24 : decode cX6_onesOf 24 = .ok (.aload_n 0, 1) := by decide +kernel
theorem dX6_onesOf_25 : decode cX6_onesOf 25 = .ok (.iconst 1, 1) := by decide +kernel
theorem dX6_onesOf_26 : decode cX6_onesOf 26 = .ok (.invokevirtual 67, 3) := by decide +kernel
theorem dX6_onesOf_29 : decode cX6_onesOf 29 = .ok (.ireturn, 1) := by decide +kernel
set_option maxRecDepth 20000 in
theorem ggX6_digitAt_X6_isRegister : GoodIn wsX6_digitAt wsX6_isRegister := goodIn_r _ [7, 8, 9, 6, 10] rfl (by decide +kernel)
set_option maxRecDepth 20000 in
theorem gX6_digitAt_X6_isRegister : GoodIn wsX6_digitAt (va_wsS RX6 39 yX6_isRegister wsX6_isRegister) := goodIn_app (goodIn_of _ (by decide +kernel)) ggX6_digitAt_X6_isRegister
set_option maxRecDepth 20000 in
theorem ggX6_digitAt_X6_isRecoding : GoodIn wsX6_digitAt wsX6_isRecoding := goodIn_r _ [13, 8, 9, 6, 10] rfl (by decide +kernel)
set_option maxRecDepth 20000 in
theorem gX6_digitAt_X6_isRecoding : GoodIn wsX6_digitAt (va_wsS RX6 149 yX6_isRecoding wsX6_isRecoding) := goodIn_app (goodIn_of _ (by decide +kernel)) ggX6_digitAt_X6_isRecoding
set_option maxRecDepth 20000 in
theorem ggX6_digitAt_X6_in : GoodIn wsX6_digitAt wsX6_in := goodIn_r _ [10] rfl (by decide +kernel)
set_option maxRecDepth 20000 in
theorem gX6_digitAt_X6_in : GoodIn wsX6_digitAt (va_wsS RX6 35 yX6_in wsX6_in) := goodIn_app (goodIn_of _ (by decide +kernel)) ggX6_digitAt_X6_in
set_option maxRecDepth 20000 in
theorem ggX6_digitAt_X6_fails : GoodIn wsX6_digitAt wsX6_fails := goodIn_r _ [17, 1, 38, 39, 40, 41, 42, 43, 44, 45, 46, 47, 48, 49, 50, 51, 52, 53, 54] rfl (by decide +kernel)
set_option maxRecDepth 20000 in
theorem gX6_digitAt_X6_fails : GoodIn wsX6_digitAt (wsV RX6 67 RX6 yX6_fails wsX6_fails) := goodIn_app (goodIn_of _ (by decide +kernel)) ggX6_digitAt_X6_fails
set_option maxRecDepth 20000 in
theorem ggX6_digitAt_X6_isOdd : GoodIn wsX6_digitAt wsX6_isOdd := goodIn_r _ [21, 2, 38, 39, 40, 41, 42, 43, 44, 45, 46, 47, 48, 49, 50, 51, 52, 53, 54] rfl (by decide +kernel)
set_option maxRecDepth 20000 in
theorem gX6_digitAt_X6_isOdd : GoodIn wsX6_digitAt (wsV RX6 77 RX6 yX6_isOdd wsX6_isOdd) := goodIn_app (goodIn_of _ (by decide +kernel)) ggX6_digitAt_X6_isOdd
set_option maxRecDepth 20000 in
theorem ggX6_digitAt_X6_of : GoodIn wsX6_digitAt wsX6_of := goodIn_r _ [25, 2, 38, 39, 40, 41, 42, 43, 44, 45, 46, 47, 48, 49, 50, 51, 52, 53, 54] rfl (by decide +kernel)
set_option maxRecDepth 20000 in
theorem gX6_digitAt_X6_of : GoodIn wsX6_digitAt (wsV RX6 64 RX6 yX6_of wsX6_of) := goodIn_app (goodIn_of _ (by decide +kernel)) ggX6_digitAt_X6_of
set_option maxRecDepth 20000 in
theorem ggX6_digitAt_X6_tellsDigits : GoodIn wsX6_digitAt wsX6_tellsDigits := goodIn_r _ [29, 2, 30, 3, 31, 32, 33, 6, 34, 35, 36, 37, 38, 39, 40, 41, 42, 43, 44, 45, 46, 47, 48, 49, 50, 51, 52, 53, 54] rfl (by decide +kernel)
set_option maxRecDepth 20000 in
theorem gX6_digitAt_X6_tellsDigits : GoodIn wsX6_digitAt (wsV RX6 152 RX6 yX6_tellsDigits wsX6_tellsDigits) := goodIn_app (goodIn_of _ (by decide +kernel)) ggX6_digitAt_X6_tellsDigits
theorem dX6_digitAt_0 : decode cX6_digitAt 0 = .ok (.aload_n 0, 1) := by decide +kernel
theorem dX6_digitAt_1 : decode cX6_digitAt 1 = .ok (.iconst 0, 1) := by decide +kernel
theorem dX6_digitAt_2 : decode cX6_digitAt 2 = .ok (.putfield 31, 3) := by decide +kernel
theorem dX6_digitAt_5 : decode cX6_digitAt 5 = .ok (.iload_n 2, 1) := by decide +kernel
theorem dX6_digitAt_6 : decode cX6_digitAt 6 = .ok (.iconst 1, 1) := by decide +kernel
theorem dX6_digitAt_7 : decode cX6_digitAt 7 = .ok (.if_icmp .ne 14, 3) := by decide +kernel
theorem dX6_digitAt_10 : decode cX6_digitAt 10 = .ok (.aload_n 0, 1) := by decide +kernel
theorem dX6_digitAt_11 : decode cX6_digitAt 11 = .ok (.getfield 7, 3) := by decide +kernel
theorem dX6_digitAt_14 : decode cX6_digitAt 14 = .ok (.iconst 0, 1) := by decide +kernel
theorem dX6_digitAt_15 : decode cX6_digitAt 15 = .ok (.iaload, 1) := by decide +kernel
theorem dX6_digitAt_16 : decode cX6_digitAt 16 = .ok (.iconst 2, 1) := by decide +kernel
theorem dX6_digitAt_17 : decode cX6_digitAt 17 = .ok (.idiv, 1) := by decide +kernel
theorem dX6_digitAt_18 : decode cX6_digitAt 18 = .ok (.goto 9, 3) := by decide +kernel
theorem dX6_digitAt_21 : decode cX6_digitAt 21 = .ok (.aload_n 0, 1) := by decide +kernel
theorem dX6_digitAt_22 : decode cX6_digitAt 22 = .ok (.getfield 7, 3) := by decide +kernel
theorem dX6_digitAt_25 : decode cX6_digitAt 25 = .ok (.iconst 0, 1) := by decide +kernel
theorem dX6_digitAt_26 : decode cX6_digitAt 26 = .ok (.iaload, 1) := by decide +kernel
theorem dX6_digitAt_27 : decode cX6_digitAt 27 = .ok (.istore 4, 2) := by decide +kernel
theorem dX6_digitAt_29 : decode cX6_digitAt 29 = .ok (.iload_n 1, 1) := by decide +kernel
theorem dX6_digitAt_30 : decode cX6_digitAt 30 = .ok (.invokestatic 39, 3) := by decide +kernel
theorem dX6_digitAt_33 : decode cX6_digitAt 33 = .ok (.ifCond .eq 22, 3) := by decide +kernel
theorem dX6_digitAt_36 : decode cX6_digitAt 36 = .ok (.iload_n 2, 1) := by decide +kernel
theorem dX6_digitAt_37 : decode cX6_digitAt 37 = .ok (.invokestatic 149, 3) := by decide +kernel
theorem dX6_digitAt_40 : decode cX6_digitAt 40 = .ok (.ifCond .eq 21, 3) := by decide +kernel
theorem dX6_digitAt_43 : decode cX6_digitAt 43 = .ok (.iload_n 3, 1) := by decide +kernel
theorem dX6_digitAt_44 : decode cX6_digitAt 44 = .ok (.iconst 0, 1) := by decide +kernel
theorem dX6_digitAt_45 : decode cX6_digitAt 45 = .ok (.iload 4, 2) := by decide +kernel
theorem dX6_digitAt_47 : decode cX6_digitAt 47 = .ok (.iconst 1, 1) := by decide +kernel
theorem dX6_digitAt_48 : decode cX6_digitAt 48 = .ok (.isub, 1) := by decide +kernel
theorem dX6_digitAt_49 : decode cX6_digitAt 49 = .ok (.invokestatic 35, 3) := by decide +kernel
theorem dX6_digitAt_52 : decode cX6_digitAt 52 = .ok (.ifCond .ne 9, 3) := by decide +kernel
theorem dX6_digitAt_55 : decode cX6_digitAt 55 = .ok (.aload_n 0, 1) := by decide +kernel
theorem dX6_digitAt_56 : decode cX6_digitAt 56 = .ok (.iconst 1, 1) := by decide +kernel
theorem dX6_digitAt_57 : decode cX6_digitAt 57 = .ok (.invokevirtual 67, 3) := by decide +kernel
theorem dX6_digitAt_60 : decode cX6_digitAt 60 = .ok (.ireturn, 1) := by decide +kernel
theorem dX6_digitAt_61 : decode cX6_digitAt 61 = .ok (.iload_n 2, 1) := by decide +kernel
theorem dX6_digitAt_62 : decode cX6_digitAt 62 = .ok (.invokestatic 149, 3) := by decide +kernel
theorem dX6_digitAt_65 : decode cX6_digitAt 65 = .ok (.ifCond .ne 9, 3) := by decide +kernel
theorem dX6_digitAt_68 : decode cX6_digitAt 68 = .ok (.aload_n 0, 1) := by decide +kernel
theorem dX6_digitAt_69 : decode cX6_digitAt 69 = .ok (.iconst 2, 1) := by decide +kernel
theorem dX6_digitAt_70 : decode cX6_digitAt 70 = .ok (.invokevirtual 67, 3) := by decide +kernel
theorem dX6_digitAt_73 : decode cX6_digitAt 73 = .ok (.ireturn, 1) := by decide +kernel
theorem dX6_digitAt_74 : decode cX6_digitAt 74 = .ok (.aload_n 0, 1) := by decide +kernel
theorem dX6_digitAt_75 : decode cX6_digitAt 75 = .ok (.iload_n 2, 1) := by decide +kernel
theorem dX6_digitAt_76 : decode cX6_digitAt 76 = .ok (.invokevirtual 77, 3) := by decide +kernel
theorem dX6_digitAt_79 : decode cX6_digitAt 79 = .ok (.ifCond .eq 9, 3) := by decide +kernel
theorem dX6_digitAt_82 : decode cX6_digitAt 82 = .ok (.aload_n 0, 1) := by decide +kernel
theorem dX6_digitAt_83 : decode cX6_digitAt 83 = .ok (.iconst 3, 1) := by decide +kernel
theorem dX6_digitAt_84 : decode cX6_digitAt 84 = .ok (.invokevirtual 67, 3) := by decide +kernel
theorem dX6_digitAt_87 : decode cX6_digitAt 87 = .ok (.ireturn, 1) := by decide +kernel
theorem dX6_digitAt_88 : decode cX6_digitAt 88 = .ok (.aload_n 0, 1) := by decide +kernel
theorem dX6_digitAt_89 : decode cX6_digitAt 89 = .ok (.aload_n 0, 1) := by decide +kernel
theorem dX6_digitAt_90 : decode cX6_digitAt 90 = .ok (.iload_n 1, 1) := by decide +kernel
theorem dX6_digitAt_91 : decode cX6_digitAt 91 = .ok (.invokevirtual 64, 3) := by decide +kernel
theorem dX6_digitAt_94 : decode cX6_digitAt 94 = .ok (.iload_n 2, 1) := by decide +kernel
theorem dX6_digitAt_95 : decode cX6_digitAt 95 = .ok (.invokevirtual 152, 3) := by decide +kernel
theorem dX6_digitAt_98 : decode cX6_digitAt 98 = .ok (.aload_n 0, 1) := by decide +kernel
theorem dX6_digitAt_99 : decode cX6_digitAt 99 = .ok (.getfield 28, 3) := by decide +kernel
theorem dX6_digitAt_102 : decode cX6_digitAt 102 = .ok (.iload_n 3, 1) := by decide +kernel
theorem dX6_digitAt_103 : decode cX6_digitAt 103 = .ok (.iaload, 1) := by decide +kernel
theorem dX6_digitAt_104 : decode cX6_digitAt 104 = .ok (.ireturn, 1) := by decide +kernel
set_option maxRecDepth 20000 in
theorem ggX6_hasDigits_X6_isRecoding : GoodIn wsX6_hasDigits wsX6_isRecoding := goodIn_r _ [5, 6, 7, 4, 8] rfl (by decide +kernel)
set_option maxRecDepth 20000 in
theorem gX6_hasDigits_X6_isRecoding : GoodIn wsX6_hasDigits (va_wsS RX6 149 yX6_isRecoding wsX6_isRecoding) := goodIn_app (goodIn_of _ (by decide +kernel)) ggX6_hasDigits_X6_isRecoding
set_option maxRecDepth 20000 in
theorem ggX6_hasDigits_X6_isOdd : GoodIn wsX6_hasDigits wsX6_isOdd := goodIn_r _ [12, 13, 31, 32, 33, 34, 35, 36, 37, 38, 39, 40, 41, 42, 43, 44, 45, 46, 47] rfl (by decide +kernel)
set_option maxRecDepth 20000 in
theorem gX6_hasDigits_X6_isOdd : GoodIn wsX6_hasDigits (wsV RX6 77 RX6 yX6_isOdd wsX6_isOdd) := goodIn_app (goodIn_of _ (by decide +kernel)) ggX6_hasDigits_X6_isOdd
set_option maxRecDepth 20000 in
theorem ggX6_hasDigits_X6_of : GoodIn wsX6_hasDigits wsX6_of := goodIn_r _ [17, 13, 31, 32, 33, 34, 35, 36, 37, 38, 39, 40, 41, 42, 43, 44, 45, 46, 47] rfl (by decide +kernel)
set_option maxRecDepth 20000 in
theorem gX6_hasDigits_X6_of : GoodIn wsX6_hasDigits (wsV RX6 64 RX6 yX6_of wsX6_of) := goodIn_app (goodIn_of _ (by decide +kernel)) ggX6_hasDigits_X6_of
set_option maxRecDepth 20000 in
theorem ggX6_hasDigits_X6_tellsDigits : GoodIn wsX6_hasDigits wsX6_tellsDigits := goodIn_r _ [21, 13, 22, 23, 24, 25, 26, 4, 27, 28, 29, 30, 31, 32, 33, 34, 35, 36, 37, 38, 39, 40, 41, 42, 43, 44, 45, 46, 47] rfl (by decide +kernel)
set_option maxRecDepth 20000 in
theorem gX6_hasDigits_X6_tellsDigits : GoodIn wsX6_hasDigits (wsV RX6 152 RX6 yX6_tellsDigits wsX6_tellsDigits) := goodIn_app (goodIn_of _ (by decide +kernel)) ggX6_hasDigits_X6_tellsDigits
theorem dX6_hasDigits_0 : decode cX6_hasDigits 0 = .ok (.aload_n 0, 1) := by decide +kernel
theorem dX6_hasDigits_1 : decode cX6_hasDigits 1 = .ok (.iload_n 1, 1) := by decide +kernel
theorem dX6_hasDigits_2 : decode cX6_hasDigits 2 = .ok (.ifCond .ne 7, 3) := by decide +kernel
theorem dX6_hasDigits_5 : decode cX6_hasDigits 5 = .ok (.iconst 1, 1) := by decide +kernel
theorem dX6_hasDigits_6 : decode cX6_hasDigits 6 = .ok (.goto 27, 3) := by decide +kernel
theorem dX6_hasDigits_9 : decode cX6_hasDigits 9 = .ok (.iload_n 3, 1) := by decide +kernel
theorem dX6_hasDigits_10 : decode cX6_hasDigits 10 = .ok (.invokestatic 149, 3) := by decide +kernel
theorem dX6_hasDigits_13 : decode cX6_hasDigits 13 = .ok (.ifCond .ne 7, 3) := by decide +kernel
theorem dX6_hasDigits_16 : decode cX6_hasDigits 16 = .ok (.iconst 2, 1) := by decide +kernel
theorem dX6_hasDigits_17 : decode cX6_hasDigits 17 = .ok (.goto 16, 3) := by decide +kernel
theorem dX6_hasDigits_20 : decode cX6_hasDigits 20 = .ok (.aload_n 0, 1) := by decide +kernel
theorem dX6_hasDigits_21 : decode cX6_hasDigits 21 = .ok (.iload_n 3, 1) := by decide +kernel
theorem dX6_hasDigits_22 : decode cX6_hasDigits 22 = .ok (.invokevirtual 77, 3) := by decide +kernel
theorem dX6_hasDigits_25 : decode cX6_hasDigits 25 = .ok (.ifCond .eq 7, 3) := by decide +kernel
theorem dX6_hasDigits_28 : decode cX6_hasDigits 28 = .ok (.iconst 3, 1) := by decide +kernel
theorem dX6_hasDigits_29 : decode cX6_hasDigits 29 = .ok (.goto 4, 3) := by decide +kernel
theorem dX6_hasDigits_32 : decode cX6_hasDigits 32 = .ok (.iconst 0, 1) := by decide +kernel
theorem dX6_hasDigits_33 : decode cX6_hasDigits 33 = .ok (.putfield 31, 3) := by decide +kernel
theorem dX6_hasDigits_36 : decode cX6_hasDigits 36 = .ok (.aload_n 0, 1) := by decide +kernel
theorem dX6_hasDigits_37 : decode cX6_hasDigits 37 = .ok (.getfield 31, 3) := by decide +kernel
theorem dX6_hasDigits_40 : decode cX6_hasDigits 40 = .ok (.ifCond .ne 13, 3) := by decide +kernel
theorem dX6_hasDigits_43 : decode cX6_hasDigits 43 = .ok (.aload_n 0, 1) := by decide +kernel
theorem dX6_hasDigits_44 : decode cX6_hasDigits 44 = .ok (.aload_n 0, 1) := by decide +kernel
theorem dX6_hasDigits_45 : decode cX6_hasDigits 45 = .ok (.iload_n 2, 1) := by decide +kernel
theorem dX6_hasDigits_46 : decode cX6_hasDigits 46 = .ok (.invokevirtual 64, 3) := by decide +kernel
theorem dX6_hasDigits_49 : decode cX6_hasDigits 49 = .ok (.iload_n 3, 1) := by decide +kernel
theorem dX6_hasDigits_50 : decode cX6_hasDigits 50 = .ok (.invokevirtual 152, 3) := by decide +kernel
theorem dX6_hasDigits_53 : decode cX6_hasDigits 53 = .ok (.aload_n 0, 1) := by decide +kernel
theorem dX6_hasDigits_54 : decode cX6_hasDigits 54 = .ok (.getfield 31, 3) := by decide +kernel
theorem dX6_hasDigits_57 : decode cX6_hasDigits 57 = .ok (.ifCond .ne 7, 3) := by decide +kernel
theorem dX6_hasDigits_60 : decode cX6_hasDigits 60 = .ok (.iconst 1, 1) := by decide +kernel
theorem dX6_hasDigits_61 : decode cX6_hasDigits 61 = .ok (.goto 4, 3) := by decide +kernel
theorem dX6_hasDigits_64 : decode cX6_hasDigits 64 = .ok (.iconst 0, 1) := by decide +kernel
theorem dX6_hasDigits_65 : decode cX6_hasDigits 65 = .ok (.ireturn, 1) := by decide +kernel
set_option maxRecDepth 20000 in
theorem ggX6_rowsOf_X6_isRegister : GoodIn wsX6_rowsOf wsX6_isRegister := goodIn_r _ [6, 7, 8, 5, 9] rfl (by decide +kernel)
set_option maxRecDepth 20000 in
theorem gX6_rowsOf_X6_isRegister : GoodIn wsX6_rowsOf (va_wsS RX6 39 yX6_isRegister wsX6_isRegister) := goodIn_app (goodIn_of _ (by decide +kernel)) ggX6_rowsOf_X6_isRegister
set_option maxRecDepth 20000 in
theorem ggX6_rowsOf_X6_hasDigits : GoodIn wsX6_rowsOf wsX6_hasDigits := goodIn_r _ [13, 14, 15, 16, 5, 17, 7, 8, 9, 18, 19, 20, 21, 22, 23, 24, 25, 26, 27, 28, 29, 30, 1, 2, 31, 32, 33, 34, 35, 36, 37, 38, 39, 40, 41, 42, 43, 44, 45, 46, 47, 48, 49, 50, 51, 52, 53, 54] rfl (by decide +kernel)
set_option maxRecDepth 20000 in
theorem gX6_rowsOf_X6_hasDigits : GoodIn wsX6_rowsOf (wsV RX6 156 RX6 yX6_hasDigits wsX6_hasDigits) := goodIn_app (goodIn_of _ (by decide +kernel)) ggX6_rowsOf_X6_hasDigits
theorem dX6_rowsOf_0 : decode cX6_rowsOf 0 = .ok (.aload_n 0, 1) := by decide +kernel
theorem dX6_rowsOf_1 : decode cX6_rowsOf 1 = .ok (.iload_n 1, 1) := by decide +kernel
theorem dX6_rowsOf_2 : decode cX6_rowsOf 2 = .ok (.invokestatic 39, 3) := by decide +kernel
theorem dX6_rowsOf_5 : decode cX6_rowsOf 5 = .ok (.iload_n 1, 1) := by decide +kernel
theorem dX6_rowsOf_6 : decode cX6_rowsOf 6 = .ok (.iload_n 2, 1) := by decide +kernel
theorem dX6_rowsOf_7 : decode cX6_rowsOf 7 = .ok (.invokevirtual 156, 3) := by decide +kernel
theorem dX6_rowsOf_10 : decode cX6_rowsOf 10 = .ok (.ifCond .ne 5, 3) := by decide +kernel
theorem dX6_rowsOf_13 : decode cX6_rowsOf 13 = .ok (.iconst 0, 1) := by decide +kernel
theorem dX6_rowsOf_14 : decode cX6_rowsOf 14 = .ok (.ireturn, 1) := by decide +kernel
theorem dX6_rowsOf_15 : decode cX6_rowsOf 15 = .ok (.iconst 0, 1) := by decide +kernel
theorem dX6_rowsOf_16 : decode cX6_rowsOf 16 = .ok (.istore_n 3, 1) := by decide +kernel
theorem dX6_rowsOf_17 : decode cX6_rowsOf 17 = .ok (.iconst 0, 1) := by decide +kernel
theorem dX6_rowsOf_18 : decode cX6_rowsOf 18 = .ok (.istore 4, 2) := by decide +kernel
theorem dX6_rowsOf_20 : decode cX6_rowsOf 20 = .ok (.iload 4, 2) := by decide +kernel
theorem dX6_rowsOf_22 : decode cX6_rowsOf 22 = .ok (.aload_n 0, 1) := by decide +kernel
theorem dX6_rowsOf_23 : decode cX6_rowsOf 23 = .ok (.getfield 46, 3) := by decide +kernel
theorem dX6_rowsOf_26 : decode cX6_rowsOf 26 = .ok (.if_icmp .ge 27, 3) := by decide +kernel
theorem dX6_rowsOf_29 : decode cX6_rowsOf 29 = .ok (.iload_n 3, 1) := by decide +kernel
theorem dX6_rowsOf_30 : decode cX6_rowsOf 30 = .ok (.aload_n 0, 1) := by decide +kernel
theorem dX6_rowsOf_31 : decode cX6_rowsOf 31 = .ok (.getfield 28, 3) := by decide +kernel
theorem dX6_rowsOf_34 : decode cX6_rowsOf 34 = .ok (.iload 4, 2) := by decide +kernel
theorem dX6_rowsOf_36 : decode cX6_rowsOf 36 = .ok (.iaload, 1) := by decide +kernel
theorem dX6_rowsOf_37 : decode cX6_rowsOf 37 = .ok (.ifCond .eq 7, 3) := by decide +kernel
theorem dX6_rowsOf_40 : decode cX6_rowsOf 40 = .ok (.iconst 1, 1) := by decide +kernel
theorem dX6_rowsOf_41 : decode cX6_rowsOf 41 = .ok (.goto 4, 3) := by decide +kernel
theorem dX6_rowsOf_44 : decode cX6_rowsOf 44 = .ok (.iconst 0, 1) := by decide +kernel
theorem dX6_rowsOf_45 : decode cX6_rowsOf 45 = .ok (.iadd, 1) := by decide +kernel
theorem dX6_rowsOf_46 : decode cX6_rowsOf 46 = .ok (.istore_n 3, 1) := by decide +kernel
theorem dX6_rowsOf_47 : decode cX6_rowsOf 47 = .ok (.iinc 4 1, 3) := by decide +kernel
theorem dX6_rowsOf_50 : decode cX6_rowsOf 50 = .ok (.goto (-30), 3) := by decide +kernel
theorem dX6_rowsOf_53 : decode cX6_rowsOf 53 = .ok (.iload_n 3, 1) := by decide +kernel
theorem dX6_rowsOf_54 : decode cX6_rowsOf 54 = .ok (.ireturn, 1) := by decide +kernel
set_option maxRecDepth 20000 in
theorem ggX6_productByRows_X6_areRegisters : GoodIn wsX6_productByRows wsX6_areRegisters := goodIn_r _ [6, 7, 8, 5, 9, 10, 11, 12] rfl (by decide +kernel)
set_option maxRecDepth 20000 in
theorem gX6_productByRows_X6_areRegisters : GoodIn wsX6_productByRows (va_wsS RX6 73 yX6_areRegisters wsX6_areRegisters) := goodIn_app (goodIn_of _ (by decide +kernel)) ggX6_productByRows_X6_areRegisters
set_option maxRecDepth 20000 in
theorem ggX6_productByRows_X6_hasDigits : GoodIn wsX6_productByRows wsX6_hasDigits := goodIn_r _ [16, 17, 18, 19, 5, 20, 10, 11, 12, 21, 22, 23, 24, 25, 26, 27, 28, 29, 30, 31, 32, 33, 1, 2, 34, 35, 36, 37, 38, 39, 40, 41, 42, 43, 44, 45, 46, 47, 48, 49, 50, 51, 52, 53, 54, 55, 56, 57] rfl (by decide +kernel)
set_option maxRecDepth 20000 in
theorem gX6_productByRows_X6_hasDigits : GoodIn wsX6_productByRows (wsV RX6 156 RX6 yX6_hasDigits wsX6_hasDigits) := goodIn_app (goodIn_of _ (by decide +kernel)) ggX6_productByRows_X6_hasDigits
set_option maxRecDepth 20000 in
theorem ggX6_productByRows_X6_of : GoodIn wsX6_productByRows wsX6_of := goodIn_r _ [29, 25, 41, 42, 43, 44, 45, 46, 47, 48, 49, 50, 51, 52, 53, 54, 55, 56, 57] rfl (by decide +kernel)
set_option maxRecDepth 20000 in
theorem gX6_productByRows_X6_of : GoodIn wsX6_productByRows (wsV RX6 64 RX6 yX6_of wsX6_of) := goodIn_app (goodIn_of _ (by decide +kernel)) ggX6_productByRows_X6_of
theorem dX6_productByRows_0 : decode cX6_productByRows 0 = .ok (.aload_n 0, 1) := by decide +kernel
theorem dX6_productByRows_1 : decode cX6_productByRows 1 = .ok (.iload_n 1, 1) := by decide +kernel
theorem dX6_productByRows_2 : decode cX6_productByRows 2 = .ok (.iload_n 2, 1) := by decide +kernel
theorem dX6_productByRows_3 : decode cX6_productByRows 3 = .ok (.invokestatic 73, 3) := by decide +kernel
theorem dX6_productByRows_6 : decode cX6_productByRows 6 = .ok (.iload_n 2, 1) := by decide +kernel
theorem dX6_productByRows_7 : decode cX6_productByRows 7 = .ok (.iload_n 3, 1) := by decide +kernel
theorem dX6_productByRows_8 : decode cX6_productByRows 8 = .ok (.invokevirtual 156, 3) := by decide +kernel
theorem dX6_productByRows_11 : decode cX6_productByRows 11 = .ok (.ifCond .ne 5, 3) := by decide +kernel
theorem dX6_productByRows_14 : decode cX6_productByRows 14 = .ok (.iconst 0, 1) := by decide +kernel
theorem dX6_productByRows_15 : decode cX6_productByRows 15 = .ok (.ireturn, 1) := by decide +kernel
theorem dX6_productByRows_16 : decode cX6_productByRows 16 = .ok (.iconst 0, 1) := by decide +kernel
theorem dX6_productByRows_17 : decode cX6_productByRows 17 = .ok (.istore 4, 2) := by decide +kernel
theorem dX6_productByRows_19 : decode cX6_productByRows 19 = .ok (.iconst 0, 1) := by decide +kernel
theorem dX6_productByRows_20 : decode cX6_productByRows 20 = .ok (.istore 5, 2) := by decide +kernel
theorem dX6_productByRows_22 : decode cX6_productByRows 22 = .ok (.iload 5, 2) := by decide +kernel
theorem dX6_productByRows_24 : decode cX6_productByRows 24 = .ok (.aload_n 0, 1) := by decide +kernel
theorem dX6_productByRows_25 : decode cX6_productByRows 25 = .ok (.getfield 46, 3) := by decide +kernel
theorem dX6_productByRows_28 : decode cX6_productByRows 28 = .ok (.if_icmp .ge 42, 3) := by decide +kernel
theorem dX6_productByRows_31 : decode cX6_productByRows 31 = .ok (.iload 4, 2) := by decide +kernel
theorem dX6_productByRows_33 : decode cX6_productByRows 33 = .ok (.aload_n 0, 1) := by decide +kernel
theorem dX6_productByRows_34 : decode cX6_productByRows 34 = .ok (.getfield 28, 3) := by decide +kernel
theorem dX6_productByRows_37 : decode cX6_productByRows 37 = .ok (.iload 5, 2) := by decide +kernel
theorem dX6_productByRows_39 : decode cX6_productByRows 39 = .ok (.iaload, 1) := by decide +kernel
theorem dX6_productByRows_40 : decode cX6_productByRows 40 = .ok (.aload_n 0, 1) := by decide +kernel
theorem dX6_productByRows_41 : decode cX6_productByRows 41 = .ok (.iload_n 1, 1) := by decide +kernel
theorem dX6_productByRows_42 : decode cX6_productByRows 42 = .ok (.invokevirtual 64, 3) := by decide +kernel
theorem dX6_productByRows_45 : decode cX6_productByRows 45 = .ok (.imul, 1) := by decide +kernel
theorem dX6_productByRows_46 : decode cX6_productByRows 46 = .ok (.iload_n 3, 1) := by decide +kernel
theorem dX6_productByRows_47 : decode cX6_productByRows 47 = .ok (.iconst 1, 1) := by decide +kernel
theorem dX6_productByRows_48 : decode cX6_productByRows 48 = .ok (.if_icmp .ne 10, 3) := by decide +kernel
theorem dX6_productByRows_51 : decode cX6_productByRows 51 = .ok (.iconst 2, 1) := by decide +kernel
theorem dX6_productByRows_52 : decode cX6_productByRows 52 = .ok (.iload 5, 2) := by decide +kernel
theorem dX6_productByRows_54 : decode cX6_productByRows 54 = .ok (.imul, 1) := by decide +kernel
theorem dX6_productByRows_55 : decode cX6_productByRows 55 = .ok (.goto 5, 3) := by decide +kernel
theorem dX6_productByRows_58 : decode cX6_productByRows 58 = .ok (.iload 5, 2) := by decide +kernel
theorem dX6_productByRows_60 : decode cX6_productByRows 60 = .ok (.ishl, 1) := by decide +kernel
theorem dX6_productByRows_61 : decode cX6_productByRows 61 = .ok (.iadd, 1) := by decide +kernel
theorem dX6_productByRows_62 : decode cX6_productByRows 62 = .ok (.istore 4, 2) := by decide +kernel
theorem dX6_productByRows_64 : decode cX6_productByRows 64 = .ok (.iinc 5 1, 3) := by decide +kernel
theorem dX6_productByRows_67 : decode cX6_productByRows 67 = .ok (.goto (-45), 3) := by decide +kernel
theorem dX6_productByRows_70 : decode cX6_productByRows 70 = .ok (.iload 4, 2) := by decide +kernel
theorem dX6_productByRows_72 : decode cX6_productByRows 72 = .ok (.ireturn, 1) := by decide +kernel
set_option maxRecDepth 20000 in
theorem ggX6_productByBits_X6_areRegisters : GoodIn wsX6_productByBits wsX6_areRegisters := goodIn_r _ [5, 6, 7, 4, 8, 9, 10, 11] rfl (by decide +kernel)
set_option maxRecDepth 20000 in
theorem gX6_productByBits_X6_areRegisters : GoodIn wsX6_productByBits (va_wsS RX6 73 yX6_areRegisters wsX6_areRegisters) := goodIn_app (goodIn_of _ (by decide +kernel)) ggX6_productByBits_X6_areRegisters
set_option maxRecDepth 20000 in
theorem ggX6_productByBits_X6_of : GoodIn wsX6_productByBits wsX6_of := goodIn_r _ [15, 16, 21, 22, 23, 24, 25, 26, 27, 28, 29, 30, 31, 32, 33, 34, 35, 36, 37] rfl (by decide +kernel)
set_option maxRecDepth 20000 in
theorem gX6_productByBits_X6_of : GoodIn wsX6_productByBits (wsV RX6 64 RX6 yX6_of wsX6_of) := goodIn_app (goodIn_of _ (by decide +kernel)) ggX6_productByBits_X6_of
set_option maxRecDepth 20000 in
theorem ggX6_productByBits_X6_fails : GoodIn wsX6_productByBits wsX6_fails := goodIn_r _ [20, 1, 21, 22, 23, 24, 25, 26, 27, 28, 29, 30, 31, 32, 33, 34, 35, 36, 37] rfl (by decide +kernel)
set_option maxRecDepth 20000 in
theorem gX6_productByBits_X6_fails : GoodIn wsX6_productByBits (wsV RX6 67 RX6 yX6_fails wsX6_fails) := goodIn_app (goodIn_of _ (by decide +kernel)) ggX6_productByBits_X6_fails
theorem dX6_productByBits_0 : decode cX6_productByBits 0 = .ok (.aload_n 0, 1) := by decide +kernel
theorem dX6_productByBits_1 : decode cX6_productByBits 1 = .ok (.iconst 0, 1) := by decide +kernel
theorem dX6_productByBits_2 : decode cX6_productByBits 2 = .ok (.putfield 31, 3) := by decide +kernel
theorem dX6_productByBits_5 : decode cX6_productByBits 5 = .ok (.iload_n 1, 1) := by decide +kernel
theorem dX6_productByBits_6 : decode cX6_productByBits 6 = .ok (.iload_n 2, 1) := by decide +kernel
theorem dX6_productByBits_7 : decode cX6_productByBits 7 = .ok (.invokestatic 73, 3) := by decide +kernel
theorem dX6_productByBits_10 : decode cX6_productByBits 10 = .ok (.ifCond .eq 17, 3) := by decide +kernel
theorem dX6_productByBits_13 : decode cX6_productByBits 13 = .ok (.aload_n 0, 1) := by decide +kernel
theorem dX6_productByBits_14 : decode cX6_productByBits 14 = .ok (.iload_n 1, 1) := by decide +kernel
theorem dX6_productByBits_15 : decode cX6_productByBits 15 = .ok (.invokevirtual 64, 3) := by decide +kernel
theorem dX6_productByBits_18 : decode cX6_productByBits 18 = .ok (.aload_n 0, 1) := by decide +kernel
theorem dX6_productByBits_19 : decode cX6_productByBits 19 = .ok (.iload_n 2, 1) := by decide +kernel
theorem dX6_productByBits_20 : decode cX6_productByBits 20 = .ok (.invokevirtual 64, 3) := by decide +kernel
theorem dX6_productByBits_23 : decode cX6_productByBits 23 = .ok (.imul, 1) := by decide +kernel
theorem dX6_productByBits_24 : decode cX6_productByBits 24 = .ok (.goto 8, 3) := by decide +kernel
theorem dX6_productByBits_27 : decode cX6_productByBits 27 = .ok (.aload_n 0, 1) := by decide +kernel
theorem dX6_productByBits_28 : decode cX6_productByBits 28 = .ok (.iconst 1, 1) := by decide +kernel
theorem dX6_productByBits_29 : decode cX6_productByBits 29 = .ok (.invokevirtual 67, 3) := by decide +kernel
theorem dX6_productByBits_32 : decode cX6_productByBits 32 = .ok (.ireturn, 1) := by decide +kernel
set_option maxRecDepth 20000 in
theorem ggX6_fits_X6_areRegisters : GoodIn wsX6_fits wsX6_areRegisters := goodIn_r _ [5, 6, 7, 4, 8, 9, 10, 11] rfl (by decide +kernel)
set_option maxRecDepth 20000 in
theorem gX6_fits_X6_areRegisters : GoodIn wsX6_fits (va_wsS RX6 73 yX6_areRegisters wsX6_areRegisters) := goodIn_app (goodIn_of _ (by decide +kernel)) ggX6_fits_X6_areRegisters
set_option maxRecDepth 20000 in
theorem ggX6_fits_X6_of : GoodIn wsX6_fits wsX6_of := goodIn_r _ [15, 16, 25, 26, 27, 28, 29, 30, 31, 32, 33, 34, 35, 36, 37, 38, 39, 40, 41] rfl (by decide +kernel)
set_option maxRecDepth 20000 in
theorem gX6_fits_X6_of : GoodIn wsX6_fits (wsV RX6 64 RX6 yX6_of wsX6_of) := goodIn_app (goodIn_of _ (by decide +kernel)) ggX6_fits_X6_of
set_option maxRecDepth 20000 in
theorem ggX6_fits_X6_isValue : GoodIn wsX6_fits wsX6_isValue := goodIn_r _ [20, 16, 9, 10, 4, 11, 25, 26, 27, 28, 29, 30, 31, 32, 33, 34, 35, 36, 37, 38, 39, 40, 41] rfl (by decide +kernel)
set_option maxRecDepth 20000 in
theorem gX6_fits_X6_isValue : GoodIn wsX6_fits (wsV RX6 57 RX6 yX6_isValue wsX6_isValue) := goodIn_app (goodIn_of _ (by decide +kernel)) ggX6_fits_X6_isValue
set_option maxRecDepth 20000 in
theorem ggX6_fits_X6_fails : GoodIn wsX6_fits wsX6_fails := goodIn_r _ [24, 1, 25, 26, 27, 28, 29, 30, 31, 32, 33, 34, 35, 36, 37, 38, 39, 40, 41] rfl (by decide +kernel)
set_option maxRecDepth 20000 in
theorem gX6_fits_X6_fails : GoodIn wsX6_fits (wsV RX6 67 RX6 yX6_fails wsX6_fails) := goodIn_app (goodIn_of _ (by decide +kernel)) ggX6_fits_X6_fails
theorem dX6_fits_0 : decode cX6_fits 0 = .ok (.aload_n 0, 1) := by decide +kernel
theorem dX6_fits_1 : decode cX6_fits 1 = .ok (.iconst 0, 1) := by decide +kernel
theorem dX6_fits_2 : decode cX6_fits 2 = .ok (.putfield 31, 3) := by decide +kernel
theorem dX6_fits_5 : decode cX6_fits 5 = .ok (.iload_n 1, 1) := by decide +kernel
theorem dX6_fits_6 : decode cX6_fits 6 = .ok (.iload_n 2, 1) := by decide +kernel
theorem dX6_fits_7 : decode cX6_fits 7 = .ok (.invokestatic 73, 3) := by decide +kernel
theorem dX6_fits_10 : decode cX6_fits 10 = .ok (.ifCond .eq 21, 3) := by decide +kernel
theorem dX6_fits_13 : decode cX6_fits 13 = .ok (.aload_n 0, 1) := by decide +kernel
theorem dX6_fits_14 : decode cX6_fits 14 = .ok (.aload_n 0, 1) := by decide +kernel
theorem dX6_fits_15 : decode cX6_fits 15 = .ok (.iload_n 1, 1) := by decide +kernel
theorem dX6_fits_16 : decode cX6_fits 16 = .ok (.invokevirtual 64, 3) := by decide +kernel
theorem dX6_fits_19 : decode cX6_fits 19 = .ok (.aload_n 0, 1) := by decide +kernel
theorem dX6_fits_20 : decode cX6_fits 20 = .ok (.iload_n 2, 1) := by decide +kernel
theorem dX6_fits_21 : decode cX6_fits 21 = .ok (.invokevirtual 64, 3) := by decide +kernel
theorem dX6_fits_24 : decode cX6_fits 24 = .ok (.imul, 1) := by decide +kernel
theorem dX6_fits_25 : decode cX6_fits 25 = .ok (.invokevirtual 57, 3) := by decide +kernel
theorem dX6_fits_28 : decode cX6_fits 28 = .ok (.goto 16, 3) := by decide +kernel
theorem dX6_fits_31 : decode cX6_fits 31 = .ok (.aload_n 0, 1) := by decide +kernel
theorem dX6_fits_32 : decode cX6_fits 32 = .ok (.iconst 1, 1) := by decide +kernel
theorem dX6_fits_33 : decode cX6_fits 33 = .ok (.invokevirtual 67, 3) := by decide +kernel
theorem dX6_fits_36 : decode cX6_fits 36 = .ok (.ifCond .le 7, 3) := by decide +kernel
theorem dX6_fits_39 : decode cX6_fits 39 = .ok (.iconst 1, 1) := by decide +kernel
theorem dX6_fits_40 : decode cX6_fits 40 = .ok (.goto 4, 3) := by decide +kernel
theorem dX6_fits_43 : decode cX6_fits 43 = .ok (.iconst 0, 1) := by decide +kernel
theorem dX6_fits_44 : decode cX6_fits 44 = .ok (.ireturn, 1) := by decide +kernel
theorem dX6_stepsLeft_0 : decode cX6_stepsLeft 0 = .ok (.aload_n 0, 1) := by decide +kernel
theorem dX6_stepsLeft_1 : decode cX6_stepsLeft 1 = .ok (.iconst 0, 1) := by decide +kernel
theorem dX6_stepsLeft_2 : decode cX6_stepsLeft 2 = .ok (.putfield 31, 3) := by decide +kernel
theorem dX6_stepsLeft_5 : decode cX6_stepsLeft 5 = .ok (.aload_n 0, 1) := by decide +kernel
theorem dX6_stepsLeft_6 : decode cX6_stepsLeft 6 = .ok (.getfield 7, 3) := by decide +kernel
theorem dX6_stepsLeft_9 : decode cX6_stepsLeft 9 = .ok (.bipush 7, 2) := by decide +kernel
theorem dX6_stepsLeft_11 : decode cX6_stepsLeft 11 = .ok (.iaload, 1) := by decide +kernel
theorem dX6_stepsLeft_12 : decode cX6_stepsLeft 12 = .ok (.ireturn, 1) := by decide +kernel
set_option maxRecDepth 20000 in
theorem ggX6_tellsPart_X6_fails : GoodIn wsX6_tellsPart wsX6_fails := goodIn_r _ [7, 1, 8, 9, 10, 11, 12, 13, 14, 15, 16, 17, 18, 19, 20, 21, 22, 23, 24] rfl (by decide +kernel)
set_option maxRecDepth 20000 in
theorem gX6_tellsPart_X6_fails : GoodIn wsX6_tellsPart (wsV RX6 67 RX6 yX6_fails wsX6_fails) := goodIn_app (goodIn_of _ (by decide +kernel)) ggX6_tellsPart_X6_fails
theorem dX6_tellsPart_0 : decode cX6_tellsPart 0 = .ok (.aload_n 0, 1) := by decide +kernel
theorem dX6_tellsPart_1 : decode cX6_tellsPart 1 = .ok (.iconst 0, 1) := by decide +kernel
theorem dX6_tellsPart_2 : decode cX6_tellsPart 2 = .ok (.putfield 31, 3) := by decide +kernel
theorem dX6_tellsPart_5 : decode cX6_tellsPart 5 = .ok (.aload_n 0, 1) := by decide +kernel
theorem dX6_tellsPart_6 : decode cX6_tellsPart 6 = .ok (.getfield 7, 3) := by decide +kernel
theorem dX6_tellsPart_9 : decode cX6_tellsPart 9 = .ok (.bipush 7, 2) := by decide +kernel
theorem dX6_tellsPart_11 : decode cX6_tellsPart 11 = .ok (.iaload, 1) := by decide +kernel
theorem dX6_tellsPart_12 : decode cX6_tellsPart 12 = .ok (.iconst (-1), 1) := by decide +kernel
theorem dX6_tellsPart_13 : decode cX6_tellsPart 13 = .ok (.if_icmp .ne 11, 3) := by decide +kernel
theorem dX6_tellsPart_16 : decode cX6_tellsPart 16 = .ok (.aload_n 0, 1) := by decide +kernel
theorem dX6_tellsPart_17 : decode cX6_tellsPart 17 = .ok (.iconst 1, 1) := by decide +kernel
theorem dX6_tellsPart_18 : decode cX6_tellsPart 18 = .ok (.invokevirtual 67, 3) := by decide +kernel
theorem dX6_tellsPart_21 : decode cX6_tellsPart 21 = .ok (.goto 9, 3) := by decide +kernel
theorem dX6_tellsPart_24 : decode cX6_tellsPart 24 = .ok (.aload_n 0, 1) := by decide +kernel
theorem dX6_tellsPart_25 : decode cX6_tellsPart 25 = .ok (.getfield 7, 3) := by decide +kernel
theorem dX6_tellsPart_28 : decode cX6_tellsPart 28 = .ok (.iload_n 1, 1) := by decide +kernel
theorem dX6_tellsPart_29 : decode cX6_tellsPart 29 = .ok (.iaload, 1) := by decide +kernel
theorem dX6_tellsPart_30 : decode cX6_tellsPart 30 = .ok (.ireturn, 1) := by decide +kernel
set_option maxRecDepth 20000 in
theorem ggX6_highPart_X6_tellsPart : GoodIn wsX6_highPart wsX6_tellsPart := goodIn_r _ [5, 6, 7, 8, 9, 10, 4, 11, 12, 13, 14, 15, 16, 17, 18, 19, 20, 21, 22, 23, 24, 25, 26, 27, 28] rfl (by decide +kernel)
set_option maxRecDepth 20000 in
theorem gX6_highPart_X6_tellsPart : GoodIn wsX6_highPart (wsV RX6 160 RX6 yX6_tellsPart wsX6_tellsPart) := goodIn_app (goodIn_of _ (by decide +kernel)) ggX6_highPart_X6_tellsPart
theorem dX6_highPart_0 : decode cX6_highPart 0 = .ok (.aload_n 0, 1) := by decide +kernel
theorem dX6_highPart_1 : decode cX6_highPart 1 = .ok (.bipush 9, 2) := by decide +kernel
theorem dX6_highPart_3 : decode cX6_highPart 3 = .ok (.invokevirtual 160, 3) := by decide +kernel
theorem dX6_highPart_6 : decode cX6_highPart 6 = .ok (.ireturn, 1) := by decide +kernel
set_option maxRecDepth 20000 in
theorem ggX6_lowPart_X6_tellsPart : GoodIn wsX6_lowPart wsX6_tellsPart := goodIn_r _ [5, 6, 7, 8, 9, 10, 4, 11, 12, 13, 14, 15, 16, 17, 18, 19, 20, 21, 22, 23, 24, 25, 26, 27, 28] rfl (by decide +kernel)
set_option maxRecDepth 20000 in
theorem gX6_lowPart_X6_tellsPart : GoodIn wsX6_lowPart (wsV RX6 160 RX6 yX6_tellsPart wsX6_tellsPart) := goodIn_app (goodIn_of _ (by decide +kernel)) ggX6_lowPart_X6_tellsPart
theorem dX6_lowPart_0 : decode cX6_lowPart 0 = .ok (.aload_n 0, 1) := by decide +kernel
theorem dX6_lowPart_1 : decode cX6_lowPart 1 = .ok (.bipush 10, 2) := by decide +kernel
theorem dX6_lowPart_3 : decode cX6_lowPart 3 = .ok (.invokevirtual 160, 3) := by decide +kernel
theorem dX6_lowPart_6 : decode cX6_lowPart 6 = .ok (.ireturn, 1) := by decide +kernel
set_option maxRecDepth 20000 in
theorem ggX6_extraBit_X6_tellsPart : GoodIn wsX6_extraBit wsX6_tellsPart := goodIn_r _ [5, 6, 7, 8, 9, 10, 4, 11, 12, 13, 14, 15, 16, 17, 18, 19, 20, 21, 22, 23, 24, 25, 26, 27, 28] rfl (by decide +kernel)
set_option maxRecDepth 20000 in
theorem gX6_extraBit_X6_tellsPart : GoodIn wsX6_extraBit (wsV RX6 160 RX6 yX6_tellsPart wsX6_tellsPart) := goodIn_app (goodIn_of _ (by decide +kernel)) ggX6_extraBit_X6_tellsPart
theorem dX6_extraBit_0 : decode cX6_extraBit 0 = .ok (.aload_n 0, 1) := by decide +kernel
theorem dX6_extraBit_1 : decode cX6_extraBit 1 = .ok (.bipush 11, 2) := by decide +kernel
theorem dX6_extraBit_3 : decode cX6_extraBit 3 = .ok (.invokevirtual 160, 3) := by decide +kernel
theorem dX6_extraBit_6 : decode cX6_extraBit 6 = .ok (.ireturn, 1) := by decide +kernel
set_option maxRecDepth 20000 in
theorem ggX6_carried_X6_of : GoodIn wsX6_carried wsX6_of := goodIn_r _ [6, 1, 10, 11, 12, 13, 14, 15, 16, 17, 18, 19, 20, 21, 22, 23, 24, 25, 26] rfl (by decide +kernel)
set_option maxRecDepth 20000 in
theorem gX6_carried_X6_of : GoodIn wsX6_carried (wsV RX6 64 RX6 yX6_of wsX6_of) := goodIn_app (goodIn_of _ (by decide +kernel)) ggX6_carried_X6_of
set_option maxRecDepth 20000 in
theorem ggX6_carried_X6_bit : GoodIn wsX6_carried wsX6_bit := goodIn_r _ [9] rfl (by decide +kernel)
set_option maxRecDepth 20000 in
theorem gX6_carried_X6_bit : GoodIn wsX6_carried (va_wsS RX6 53 yX6_bit wsX6_bit) := goodIn_app (goodIn_of _ (by decide +kernel)) ggX6_carried_X6_bit
theorem dX6_carried_0 : decode cX6_carried 0 = .ok (.iconst 0, 1) := by decide +kernel
theorem dX6_carried_1 : decode cX6_carried 1 = .ok (.istore 4, 2) := by decide +kernel
theorem dX6_carried_3 : decode cX6_carried 3 = .ok (.iconst 0, 1) := by decide +kernel
theorem dX6_carried_4 : decode cX6_carried 4 = .ok (.istore 5, 2) := by decide +kernel
theorem dX6_carried_6 : decode cX6_carried 6 = .ok (.iconst 0, 1) := by decide +kernel
theorem dX6_carried_7 : decode cX6_carried 7 = .ok (.istore 6, 2) := by decide +kernel
theorem dX6_carried_9 : decode cX6_carried 9 = .ok (.iconst 0, 1) := by decide +kernel
theorem dX6_carried_10 : decode cX6_carried 10 = .ok (.istore 7, 2) := by decide +kernel
theorem dX6_carried_12 : decode cX6_carried 12 = .ok (.iconst 0, 1) := by decide +kernel
theorem dX6_carried_13 : decode cX6_carried 13 = .ok (.istore 8, 2) := by decide +kernel
theorem dX6_carried_15 : decode cX6_carried 15 = .ok (.iload 8, 2) := by decide +kernel
theorem dX6_carried_17 : decode cX6_carried 17 = .ok (.aload_n 0, 1) := by decide +kernel
theorem dX6_carried_18 : decode cX6_carried 18 = .ok (.getfield 7, 3) := by decide +kernel
theorem dX6_carried_21 : decode cX6_carried 21 = .ok (.iconst 0, 1) := by decide +kernel
theorem dX6_carried_22 : decode cX6_carried 22 = .ok (.iaload, 1) := by decide +kernel
theorem dX6_carried_23 : decode cX6_carried 23 = .ok (.if_icmp .ge 80, 3) := by decide +kernel
theorem dX6_carried_26 : decode cX6_carried 26 = .ok (.aload_n 0, 1) := by decide +kernel
theorem dX6_carried_27 : decode cX6_carried 27 = .ok (.iload_n 1, 1) := by decide +kernel
theorem dX6_carried_28 : decode cX6_carried 28 = .ok (.invokevirtual 64, 3) := by decide +kernel
theorem dX6_carried_31 : decode cX6_carried 31 = .ok (.iload 8, 2) := by decide +kernel
theorem dX6_carried_33 : decode cX6_carried 33 = .ok (.invokestatic 53, 3) := by decide +kernel
theorem dX6_carried_36 : decode cX6_carried 36 = .ok (.aload_n 0, 1) := by decide +kernel
theorem dX6_carried_37 : decode cX6_carried 37 = .ok (.iload_n 2, 1) := by decide +kernel
theorem dX6_carried_38 : decode cX6_carried 38 = .ok (.invokevirtual 64, 3) := by decide +kernel
theorem dX6_carried_41 : decode cX6_carried 41 = .ok (.iload 8, 2) := by decide +kernel
theorem dX6_carried_43 : decode cX6_carried 43 = .ok (.invokestatic 53, 3) := by decide +kernel
theorem dX6_carried_46 : decode cX6_carried 46 = .ok (.iadd, 1) := by decide +kernel
theorem dX6_carried_47 : decode cX6_carried 47 = .ok (.iload 7, 2) := by decide +kernel
theorem dX6_carried_49 : decode cX6_carried 49 = .ok (.iadd, 1) := by decide +kernel
theorem dX6_carried_50 : decode cX6_carried 50 = .ok (.istore 9, 2) := by decide +kernel
theorem dX6_carried_52 : decode cX6_carried 52 = .ok (.iload 9, 2) := by decide +kernel
theorem dX6_carried_54 : decode cX6_carried 54 = .ok (.iconst 2, 1) := by decide +kernel
theorem dX6_carried_55 : decode cX6_carried 55 = .ok (.idiv, 1) := by decide +kernel
theorem dX6_carried_56 : decode cX6_carried 56 = .ok (.istore 7, 2) := by decide +kernel
theorem dX6_carried_58 : decode cX6_carried 58 = .ok (.iload 4, 2) := by decide +kernel
theorem dX6_carried_60 : decode cX6_carried 60 = .ok (.iload 7, 2) := by decide +kernel
theorem dX6_carried_62 : decode cX6_carried 62 = .ok (.iadd, 1) := by decide +kernel
theorem dX6_carried_63 : decode cX6_carried 63 = .ok (.istore 4, 2) := by decide +kernel
theorem dX6_carried_65 : decode cX6_carried 65 = .ok (.iload 7, 2) := by decide +kernel
theorem dX6_carried_67 : decode cX6_carried 67 = .ok (.iconst 1, 1) := by decide +kernel
theorem dX6_carried_68 : decode cX6_carried 68 = .ok (.if_icmp .ne 10, 3) := by decide +kernel
theorem dX6_carried_71 : decode cX6_carried 71 = .ok (.iload 5, 2) := by decide +kernel
theorem dX6_carried_73 : decode cX6_carried 73 = .ok (.iconst 1, 1) := by decide +kernel
theorem dX6_carried_74 : decode cX6_carried 74 = .ok (.iadd, 1) := by decide +kernel
theorem dX6_carried_75 : decode cX6_carried 75 = .ok (.goto 4, 3) := by decide +kernel
theorem dX6_carried_78 : decode cX6_carried 78 = .ok (.iconst 0, 1) := by decide +kernel
theorem dX6_carried_79 : decode cX6_carried 79 = .ok (.istore 5, 2) := by decide +kernel
theorem dX6_carried_81 : decode cX6_carried 81 = .ok (.iload 5, 2) := by decide +kernel
theorem dX6_carried_83 : decode cX6_carried 83 = .ok (.iload 6, 2) := by decide +kernel
theorem dX6_carried_85 : decode cX6_carried 85 = .ok (.if_icmp .le 8, 3) := by decide +kernel
theorem dX6_carried_88 : decode cX6_carried 88 = .ok (.iload 5, 2) := by decide +kernel
theorem dX6_carried_90 : decode cX6_carried 90 = .ok (.goto 5, 3) := by decide +kernel
theorem dX6_carried_93 : decode cX6_carried 93 = .ok (.iload 6, 2) := by decide +kernel
theorem dX6_carried_95 : decode cX6_carried 95 = .ok (.istore 6, 2) := by decide +kernel
theorem dX6_carried_97 : decode cX6_carried 97 = .ok (.iinc 8 1, 3) := by decide +kernel
theorem dX6_carried_100 : decode cX6_carried 100 = .ok (.goto (-85), 3) := by decide +kernel
theorem dX6_carried_103 : decode cX6_carried 103 = .ok (.iload_n 3, 1) := by decide +kernel
theorem dX6_carried_104 : decode cX6_carried 104 = .ok (.ifCond .eq 8, 3) := by decide +kernel
theorem dX6_carried_107 : decode cX6_carried 107 = .ok (.iload 6, 2) := by decide +kernel
theorem dX6_carried_109 : decode cX6_carried 109 = .ok (.goto 5, 3) := by decide +kernel
theorem dX6_carried_112 : decode cX6_carried 112 = .ok (.iload 4, 2) := by decide +kernel
theorem dX6_carried_114 : decode cX6_carried 114 = .ok (.ireturn, 1) := by decide +kernel
set_option maxRecDepth 20000 in
theorem ggX6_carries_X6_areRegisters : GoodIn wsX6_carries wsX6_areRegisters := goodIn_r _ [5, 6, 7, 4, 8, 9, 10, 11] rfl (by decide +kernel)
set_option maxRecDepth 20000 in
theorem gX6_carries_X6_areRegisters : GoodIn wsX6_carries (va_wsS RX6 73 yX6_areRegisters wsX6_areRegisters) := goodIn_app (goodIn_of _ (by decide +kernel)) ggX6_carries_X6_areRegisters
set_option maxRecDepth 20000 in
theorem ggX6_carries_X6_carried : GoodIn wsX6_carries wsX6_carried := goodIn_r _ [15, 16, 17, 18, 19, 4, 20, 21, 22, 23, 28, 29, 30, 31, 32, 33, 34, 35, 36, 37, 38, 39, 40, 41, 42, 43, 44] rfl (by decide +kernel)
set_option maxRecDepth 20000 in
theorem gX6_carries_X6_carried : GoodIn wsX6_carries (wsV RX6 163 RX6 yX6_carried wsX6_carried) := goodIn_app (goodIn_of _ (by decide +kernel)) ggX6_carries_X6_carried
set_option maxRecDepth 20000 in
theorem ggX6_carries_X6_fails : GoodIn wsX6_carries wsX6_fails := goodIn_r _ [27, 1, 28, 29, 30, 31, 32, 33, 34, 35, 36, 37, 38, 39, 40, 41, 42, 43, 44] rfl (by decide +kernel)
set_option maxRecDepth 20000 in
theorem gX6_carries_X6_fails : GoodIn wsX6_carries (wsV RX6 67 RX6 yX6_fails wsX6_fails) := goodIn_app (goodIn_of _ (by decide +kernel)) ggX6_carries_X6_fails
theorem dX6_carries_0 : decode cX6_carries 0 = .ok (.aload_n 0, 1) := by decide +kernel
theorem dX6_carries_1 : decode cX6_carries 1 = .ok (.iconst 0, 1) := by decide +kernel
theorem dX6_carries_2 : decode cX6_carries 2 = .ok (.putfield 31, 3) := by decide +kernel
theorem dX6_carries_5 : decode cX6_carries 5 = .ok (.iload_n 1, 1) := by decide +kernel
theorem dX6_carries_6 : decode cX6_carries 6 = .ok (.iload_n 2, 1) := by decide +kernel
theorem dX6_carries_7 : decode cX6_carries 7 = .ok (.invokestatic 73, 3) := by decide +kernel
theorem dX6_carries_10 : decode cX6_carries 10 = .ok (.ifCond .eq 13, 3) := by decide +kernel
theorem dX6_carries_13 : decode cX6_carries 13 = .ok (.aload_n 0, 1) := by decide +kernel
theorem dX6_carries_14 : decode cX6_carries 14 = .ok (.iload_n 1, 1) := by decide +kernel
theorem dX6_carries_15 : decode cX6_carries 15 = .ok (.iload_n 2, 1) := by decide +kernel
theorem dX6_carries_16 : decode cX6_carries 16 = .ok (.iconst 0, 1) := by decide +kernel
theorem dX6_carries_17 : decode cX6_carries 17 = .ok (.invokevirtual 163, 3) := by decide +kernel
theorem dX6_carries_20 : decode cX6_carries 20 = .ok (.goto 8, 3) := by decide +kernel
theorem dX6_carries_23 : decode cX6_carries 23 = .ok (.aload_n 0, 1) := by decide +kernel
theorem dX6_carries_24 : decode cX6_carries 24 = .ok (.iconst 1, 1) := by decide +kernel
theorem dX6_carries_25 : decode cX6_carries 25 = .ok (.invokevirtual 67, 3) := by decide +kernel
theorem dX6_carries_28 : decode cX6_carries 28 = .ok (.ireturn, 1) := by decide +kernel
set_option maxRecDepth 20000 in
theorem ggX6_longestRun_X6_areRegisters : GoodIn wsX6_longestRun wsX6_areRegisters := goodIn_r _ [5, 6, 7, 4, 8, 9, 10, 11] rfl (by decide +kernel)
set_option maxRecDepth 20000 in
theorem gX6_longestRun_X6_areRegisters : GoodIn wsX6_longestRun (va_wsS RX6 73 yX6_areRegisters wsX6_areRegisters) := goodIn_app (goodIn_of _ (by decide +kernel)) ggX6_longestRun_X6_areRegisters
set_option maxRecDepth 20000 in
theorem ggX6_longestRun_X6_carried : GoodIn wsX6_longestRun wsX6_carried := goodIn_r _ [15, 16, 17, 18, 19, 4, 20, 21, 22, 23, 28, 29, 30, 31, 32, 33, 34, 35, 36, 37, 38, 39, 40, 41, 42, 43, 44] rfl (by decide +kernel)
set_option maxRecDepth 20000 in
theorem gX6_longestRun_X6_carried : GoodIn wsX6_longestRun (wsV RX6 163 RX6 yX6_carried wsX6_carried) := goodIn_app (goodIn_of _ (by decide +kernel)) ggX6_longestRun_X6_carried
set_option maxRecDepth 20000 in
theorem ggX6_longestRun_X6_fails : GoodIn wsX6_longestRun wsX6_fails := goodIn_r _ [27, 1, 28, 29, 30, 31, 32, 33, 34, 35, 36, 37, 38, 39, 40, 41, 42, 43, 44] rfl (by decide +kernel)
set_option maxRecDepth 20000 in
theorem gX6_longestRun_X6_fails : GoodIn wsX6_longestRun (wsV RX6 67 RX6 yX6_fails wsX6_fails) := goodIn_app (goodIn_of _ (by decide +kernel)) ggX6_longestRun_X6_fails
theorem dX6_longestRun_0 : decode cX6_longestRun 0 = .ok (.aload_n 0, 1) := by decide +kernel
theorem dX6_longestRun_1 : decode cX6_longestRun 1 = .ok (.iconst 0, 1) := by decide +kernel
theorem dX6_longestRun_2 : decode cX6_longestRun 2 = .ok (.putfield 31, 3) := by decide +kernel
theorem dX6_longestRun_5 : decode cX6_longestRun 5 = .ok (.iload_n 1, 1) := by decide +kernel
theorem dX6_longestRun_6 : decode cX6_longestRun 6 = .ok (.iload_n 2, 1) := by decide +kernel
theorem dX6_longestRun_7 : decode cX6_longestRun 7 = .ok (.invokestatic 73, 3) := by decide +kernel
theorem dX6_longestRun_10 : decode cX6_longestRun 10 = .ok (.ifCond .eq 13, 3) := by decide +kernel
theorem dX6_longestRun_13 : decode cX6_longestRun 13 = .ok (.aload_n 0, 1) := by decide +kernel
theorem dX6_longestRun_14 : decode cX6_longestRun 14 = .ok (.iload_n 1, 1) := by decide +kernel
theorem dX6_longestRun_15 : decode cX6_longestRun 15 = .ok (.iload_n 2, 1) := by decide +kernel
theorem dX6_longestRun_16 : decode cX6_longestRun 16 = .ok (.iconst 1, 1) := by decide +kernel
theorem dX6_longestRun_17 : decode cX6_longestRun 17 = .ok (.invokevirtual 163, 3) := by decide +kernel
theorem dX6_longestRun_20 : decode cX6_longestRun 20 = .ok (.goto 8, 3) := by decide +kernel
theorem dX6_longestRun_23 : decode cX6_longestRun 23 = .ok (.aload_n 0, 1) := by decide +kernel
theorem dX6_longestRun_24 : decode cX6_longestRun 24 = .ok (.iconst 1, 1) := by decide +kernel
theorem dX6_longestRun_25 : decode cX6_longestRun 25 = .ok (.invokevirtual 67, 3) := by decide +kernel
theorem dX6_longestRun_28 : decode cX6_longestRun 28 = .ok (.ireturn, 1) := by decide +kernel
theorem dX6_overflows_0 : decode cX6_overflows 0 = .ok (.aload_n 0, 1) := by decide +kernel
theorem dX6_overflows_1 : decode cX6_overflows 1 = .ok (.iconst 0, 1) := by decide +kernel
theorem dX6_overflows_2 : decode cX6_overflows 2 = .ok (.putfield 31, 3) := by decide +kernel
theorem dX6_overflows_5 : decode cX6_overflows 5 = .ok (.aload_n 0, 1) := by decide +kernel
theorem dX6_overflows_6 : decode cX6_overflows 6 = .ok (.getfield 7, 3) := by decide +kernel
theorem dX6_overflows_9 : decode cX6_overflows 9 = .ok (.bipush 13, 2) := by decide +kernel
theorem dX6_overflows_11 : decode cX6_overflows 11 = .ok (.iaload, 1) := by decide +kernel
theorem dX6_overflows_12 : decode cX6_overflows 12 = .ok (.ireturn, 1) := by decide +kernel
theorem dX6_stepsMade_0 : decode cX6_stepsMade 0 = .ok (.aload_n 0, 1) := by decide +kernel
theorem dX6_stepsMade_1 : decode cX6_stepsMade 1 = .ok (.iconst 0, 1) := by decide +kernel
theorem dX6_stepsMade_2 : decode cX6_stepsMade 2 = .ok (.putfield 31, 3) := by decide +kernel
theorem dX6_stepsMade_5 : decode cX6_stepsMade 5 = .ok (.aload_n 0, 1) := by decide +kernel
theorem dX6_stepsMade_6 : decode cX6_stepsMade 6 = .ok (.getfield 7, 3) := by decide +kernel
theorem dX6_stepsMade_9 : decode cX6_stepsMade 9 = .ok (.bipush 14, 2) := by decide +kernel
theorem dX6_stepsMade_11 : decode cX6_stepsMade 11 = .ok (.iaload, 1) := by decide +kernel
theorem dX6_stepsMade_12 : decode cX6_stepsMade 12 = .ok (.ireturn, 1) := by decide +kernel
theorem dX6_recordedStates_0 : decode cX6_recordedStates 0 = .ok (.aload_n 0, 1) := by decide +kernel
theorem dX6_recordedStates_1 : decode cX6_recordedStates 1 = .ok (.iconst 0, 1) := by decide +kernel
theorem dX6_recordedStates_2 : decode cX6_recordedStates 2 = .ok (.putfield 31, 3) := by decide +kernel
theorem dX6_recordedStates_5 : decode cX6_recordedStates 5 = .ok (.aload_n 0, 1) := by decide +kernel
theorem dX6_recordedStates_6 : decode cX6_recordedStates 6 = .ok (.getfield 43, 3) := by decide +kernel
theorem dX6_recordedStates_9 : decode cX6_recordedStates 9 = .ok (.ireturn, 1) := by decide +kernel
theorem dJ6_bitCount_0f7a4_0 : decode cJ6_bitCount_0f7a4 0 = .ok (.iload_n 0, 1) := by decide +kernel
theorem dJ6_bitCount_0f7a4_1 : decode cJ6_bitCount_0f7a4 1 = .ok (.iload_n 0, 1) := by decide +kernel
theorem dJ6_bitCount_0f7a4_2 : decode cJ6_bitCount_0f7a4 2 = .ok (.iconst 1, 1) := by decide +kernel
theorem dJ6_bitCount_0f7a4_3 : decode cJ6_bitCount_0f7a4 3 = .ok (.iushr, 1) := by decide +kernel
theorem dJ6_bitCount_0f7a4_4 : decode cJ6_bitCount_0f7a4 4 = .ok (.ldc_w 265, 3) := by decide +kernel
theorem dJ6_bitCount_0f7a4_7 : decode cJ6_bitCount_0f7a4 7 = .ok (.iand, 1) := by decide +kernel
theorem dJ6_bitCount_0f7a4_8 : decode cJ6_bitCount_0f7a4 8 = .ok (.isub, 1) := by decide +kernel
theorem dJ6_bitCount_0f7a4_9 : decode cJ6_bitCount_0f7a4 9 = .ok (.istore_n 0, 1) := by decide +kernel
theorem dJ6_bitCount_0f7a4_10 : decode cJ6_bitCount_0f7a4 10 = .ok (.iload_n 0, 1) := by decide +kernel
theorem dJ6_bitCount_0f7a4_11 : decode cJ6_bitCount_0f7a4 11 = .ok (.ldc_w 266, 3) := by decide +kernel
theorem dJ6_bitCount_0f7a4_14 : decode cJ6_bitCount_0f7a4 14 = .ok (.iand, 1) := by decide +kernel
theorem dJ6_bitCount_0f7a4_15 : decode cJ6_bitCount_0f7a4 15 = .ok (.iload_n 0, 1) := by decide +kernel
theorem dJ6_bitCount_0f7a4_16 : decode cJ6_bitCount_0f7a4 16 = .ok (.iconst 2, 1) := by decide +kernel
theorem dJ6_bitCount_0f7a4_17 : decode cJ6_bitCount_0f7a4 17 = .ok (.iushr, 1) := by decide +kernel
theorem dJ6_bitCount_0f7a4_18 : decode cJ6_bitCount_0f7a4 18 = .ok (.ldc_w 266, 3) := by decide +kernel
theorem dJ6_bitCount_0f7a4_21 : decode cJ6_bitCount_0f7a4 21 = .ok (.iand, 1) := by decide +kernel
theorem dJ6_bitCount_0f7a4_22 : decode cJ6_bitCount_0f7a4 22 = .ok (.iadd, 1) := by decide +kernel
theorem dJ6_bitCount_0f7a4_23 : decode cJ6_bitCount_0f7a4 23 = .ok (.istore_n 0, 1) := by decide +kernel
theorem dJ6_bitCount_0f7a4_24 : decode cJ6_bitCount_0f7a4 24 = .ok (.iload_n 0, 1) := by decide +kernel
theorem dJ6_bitCount_0f7a4_25 : decode cJ6_bitCount_0f7a4 25 = .ok (.iload_n 0, 1) := by decide +kernel
theorem dJ6_bitCount_0f7a4_26 : decode cJ6_bitCount_0f7a4 26 = .ok (.iconst 4, 1) := by decide +kernel
theorem dJ6_bitCount_0f7a4_27 : decode cJ6_bitCount_0f7a4 27 = .ok (.iushr, 1) := by decide +kernel
theorem dJ6_bitCount_0f7a4_28 : decode cJ6_bitCount_0f7a4 28 = .ok (.iadd, 1) := by decide +kernel
theorem dJ6_bitCount_0f7a4_29 : decode cJ6_bitCount_0f7a4 29 = .ok (.ldc_w 267, 3) := by decide +kernel
theorem dJ6_bitCount_0f7a4_32 : decode cJ6_bitCount_0f7a4 32 = .ok (.iand, 1) := by decide +kernel
theorem dJ6_bitCount_0f7a4_33 : decode cJ6_bitCount_0f7a4 33 = .ok (.istore_n 0, 1) := by decide +kernel
theorem dJ6_bitCount_0f7a4_34 : decode cJ6_bitCount_0f7a4 34 = .ok (.iload_n 0, 1) := by decide +kernel
theorem dJ6_bitCount_0f7a4_35 : decode cJ6_bitCount_0f7a4 35 = .ok (.iload_n 0, 1) := by decide +kernel
theorem dJ6_bitCount_0f7a4_36 : decode cJ6_bitCount_0f7a4 36 = .ok (.bipush 8, 2) := by decide +kernel
theorem dJ6_bitCount_0f7a4_38 : decode cJ6_bitCount_0f7a4 38 = .ok (.iushr, 1) := by decide +kernel
theorem dJ6_bitCount_0f7a4_39 : decode cJ6_bitCount_0f7a4 39 = .ok (.iadd, 1) := by decide +kernel
theorem dJ6_bitCount_0f7a4_40 : decode cJ6_bitCount_0f7a4 40 = .ok (.istore_n 0, 1) := by decide +kernel
theorem dJ6_bitCount_0f7a4_41 : decode cJ6_bitCount_0f7a4 41 = .ok (.iload_n 0, 1) := by decide +kernel
theorem dJ6_bitCount_0f7a4_42 : decode cJ6_bitCount_0f7a4 42 = .ok (.iload_n 0, 1) := by decide +kernel
theorem dJ6_bitCount_0f7a4_43 : decode cJ6_bitCount_0f7a4 43 = .ok (.bipush 16, 2) := by decide +kernel
theorem dJ6_bitCount_0f7a4_45 : decode cJ6_bitCount_0f7a4 45 = .ok (.iushr, 1) := by decide +kernel
theorem dJ6_bitCount_0f7a4_46 : decode cJ6_bitCount_0f7a4 46 = .ok (.iadd, 1) := by decide +kernel
theorem dJ6_bitCount_0f7a4_47 : decode cJ6_bitCount_0f7a4 47 = .ok (.istore_n 0, 1) := by decide +kernel
theorem dJ6_bitCount_0f7a4_48 : decode cJ6_bitCount_0f7a4 48 = .ok (.iload_n 0, 1) := by decide +kernel
theorem dJ6_bitCount_0f7a4_49 : decode cJ6_bitCount_0f7a4 49 = .ok (.bipush 63, 2) := by decide +kernel
theorem dJ6_bitCount_0f7a4_51 : decode cJ6_bitCount_0f7a4 51 = .ok (.iand, 1) := by decide +kernel
theorem dJ6_bitCount_0f7a4_52 : decode cJ6_bitCount_0f7a4 52 = .ok (.ireturn, 1) := by decide +kernel
theorem dJ9_floorMod_7cf53_0 : decode cJ9_floorMod_7cf53 0 = .ok (.iload_n 0, 1) := by decide +kernel
theorem dJ9_floorMod_7cf53_1 : decode cJ9_floorMod_7cf53 1 = .ok (.iload_n 1, 1) := by decide +kernel
theorem dJ9_floorMod_7cf53_2 : decode cJ9_floorMod_7cf53 2 = .ok (.irem, 1) := by decide +kernel
theorem dJ9_floorMod_7cf53_3 : decode cJ9_floorMod_7cf53 3 = .ok (.istore_n 2, 1) := by decide +kernel
theorem dJ9_floorMod_7cf53_4 : decode cJ9_floorMod_7cf53 4 = .ok (.iload_n 0, 1) := by decide +kernel
theorem dJ9_floorMod_7cf53_5 : decode cJ9_floorMod_7cf53 5 = .ok (.iload_n 1, 1) := by decide +kernel
theorem dJ9_floorMod_7cf53_6 : decode cJ9_floorMod_7cf53 6 = .ok (.ixor, 1) := by decide +kernel
theorem dJ9_floorMod_7cf53_7 : decode cJ9_floorMod_7cf53 7 = .ok (.ifCond .ge 11, 3) := by decide +kernel
theorem dJ9_floorMod_7cf53_10 : decode cJ9_floorMod_7cf53 10 = .ok (.iload_n 2, 1) := by decide +kernel
theorem dJ9_floorMod_7cf53_11 : decode cJ9_floorMod_7cf53 11 = .ok (.ifCond .eq 7, 3) := by decide +kernel
theorem dJ9_floorMod_7cf53_14 : decode cJ9_floorMod_7cf53 14 = .ok (.iload_n 2, 1) := by decide +kernel
theorem dJ9_floorMod_7cf53_15 : decode cJ9_floorMod_7cf53 15 = .ok (.iload_n 1, 1) := by decide +kernel
theorem dJ9_floorMod_7cf53_16 : decode cJ9_floorMod_7cf53 16 = .ok (.iadd, 1) := by decide +kernel
theorem dJ9_floorMod_7cf53_17 : decode cJ9_floorMod_7cf53 17 = .ok (.ireturn, 1) := by decide +kernel
theorem dJ9_floorMod_7cf53_18 : decode cJ9_floorMod_7cf53 18 = .ok (.iload_n 2, 1) := by decide +kernel
theorem dJ9_floorMod_7cf53_19 : decode cJ9_floorMod_7cf53 19 = .ok (.ireturn, 1) := by decide +kernel
theorem dJ9_max_7cf53_0 : decode cJ9_max_7cf53 0 = .ok (.iload_n 0, 1) := by decide +kernel
theorem dJ9_max_7cf53_1 : decode cJ9_max_7cf53 1 = .ok (.iload_n 1, 1) := by decide +kernel
theorem dJ9_max_7cf53_2 : decode cJ9_max_7cf53 2 = .ok (.if_icmp .lt 7, 3) := by decide +kernel
theorem dJ9_max_7cf53_5 : decode cJ9_max_7cf53 5 = .ok (.iload_n 0, 1) := by decide +kernel
theorem dJ9_max_7cf53_6 : decode cJ9_max_7cf53 6 = .ok (.goto 4, 3) := by decide +kernel
theorem dJ9_max_7cf53_9 : decode cJ9_max_7cf53 9 = .ok (.iload_n 1, 1) := by decide +kernel
theorem dJ9_max_7cf53_10 : decode cJ9_max_7cf53 10 = .ok (.ireturn, 1) := by decide +kernel
theorem dJ9_min_7cf53_0 : decode cJ9_min_7cf53 0 = .ok (.iload_n 0, 1) := by decide +kernel
theorem dJ9_min_7cf53_1 : decode cJ9_min_7cf53 1 = .ok (.iload_n 1, 1) := by decide +kernel
theorem dJ9_min_7cf53_2 : decode cJ9_min_7cf53 2 = .ok (.if_icmp .gt 7, 3) := by decide +kernel
theorem dJ9_min_7cf53_5 : decode cJ9_min_7cf53 5 = .ok (.iload_n 0, 1) := by decide +kernel
theorem dJ9_min_7cf53_6 : decode cJ9_min_7cf53 6 = .ok (.goto 4, 3) := by decide +kernel
theorem dJ9_min_7cf53_9 : decode cJ9_min_7cf53 9 = .ok (.iload_n 1, 1) := by decide +kernel
theorem dJ9_min_7cf53_10 : decode cJ9_min_7cf53 10 = .ok (.ireturn, 1) := by decide +kernel
set_option maxRecDepth 20000 in
theorem ggL_setWidth_X5_setWidth : GoodIn wsL_setWidth wsX5_setWidth := goodIn_ca (goodIn_r _ [6, 7, 8, 9, 10, 11, 12, 13, 14, 15, 16, 17, 18, 19, 20, 21, 22, 23, 24, 25, 26, 27, 28, 29, 30, 31, 32, 33, 34, 35, 36, 37, 38, 39, 40, 41, 42, 43, 44, 45, 46, 47, 48, 49, 50, 51, 52, 53, 54, 55, 56, 57, 58, 59, 60, 61, 62, 63, 64, 65, 66, 67, 68, 69, 70, 71, 72, 73, 74, 75, 76, 77, 78, 79, 80, 81, 82, 83, 84, 85, 86] rfl (by decide +kernel)) (goodIn_sub (fun _ h => List.mem_cons_of_mem _ (List.mem_append_right _ h)) (by decide +kernel))
set_option maxRecDepth 20000 in
theorem gL_setWidth_X5_setWidth : GoodIn wsL_setWidth (wsV RL 7 RX5 yX5_setWidth wsX5_setWidth) := goodIn_app (goodIn_of _ (by decide +kernel)) ggL_setWidth_X5_setWidth
theorem dL_setWidth_0 : decode cL_setWidth 0 = .ok (.aload_n 2, 1) := by decide +kernel
theorem dL_setWidth_1 : decode cL_setWidth 1 = .ok (.iconst 0, 1) := by decide +kernel
theorem dL_setWidth_2 : decode cL_setWidth 2 = .ok (.aload_n 0, 1) := by decide +kernel
theorem dL_setWidth_3 : decode cL_setWidth 3 = .ok (.iload_n 1, 1) := by decide +kernel
theorem dL_setWidth_4 : decode cL_setWidth 4 = .ok (.invokevirtual 7, 3) := by decide +kernel
theorem dL_setWidth_7 : decode cL_setWidth 7 = .ok (.i2l, 1) := by decide +kernel
theorem dL_setWidth_8 : decode cL_setWidth 8 = .ok (.lastore, 1) := by decide +kernel
theorem dL_setWidth_9 : decode cL_setWidth 9 = .ok (.goto 6, 3) := by decide +kernel
theorem dL_setWidth_12 : decode cL_setWidth 12 = .ok (.astore_n 3, 1) := by decide +kernel
theorem dL_setWidth_13 : decode cL_setWidth 13 = .ok (.iconst 1, 1) := by decide +kernel
theorem dL_setWidth_14 : decode cL_setWidth 14 = .ok (.ireturn, 1) := by decide +kernel
theorem dL_setWidth_15 : decode cL_setWidth 15 = .ok (.iconst 0, 1) := by decide +kernel
theorem dL_setWidth_16 : decode cL_setWidth 16 = .ok (.ireturn, 1) := by decide +kernel
set_option maxRecDepth 20000 in
theorem ggL_set_X5_set : GoodIn wsL_set wsX5_set := goodIn_ca (goodIn_ca (goodIn_r _ [7, 8, 9, 10, 11, 12, 13, 6, 14, 15, 16, 17, 18, 19, 20, 21, 22, 23, 24, 25, 26, 27, 28, 29, 30, 31, 32, 33, 34, 35, 36, 37, 38, 39, 40, 41, 42, 43, 44, 45, 46, 47, 48, 49, 50, 51, 52, 53, 54, 55, 56, 57, 58, 59, 60, 61, 62, 63, 64, 65, 66, 67, 68, 69, 70, 71, 72, 73, 74, 75, 76, 77, 78, 79, 80, 81, 82, 83, 84, 85, 86, 87, 88, 89, 90, 91, 92, 93, 94, 95, 96, 97, 98] rfl (by decide +kernel)) (goodIn_sub (fun _ h => List.mem_cons_of_mem _ (List.mem_append_left _ (List.mem_append_right _ h))) (by decide +kernel))) (goodIn_sub (fun _ h => List.mem_cons_of_mem _ (List.mem_append_right _ h)) (by decide +kernel))
set_option maxRecDepth 20000 in
theorem gL_set_X5_set : GoodIn wsL_set (wsV RL 15 RX5 yX5_set wsX5_set) := goodIn_app (goodIn_of _ (by decide +kernel)) ggL_set_X5_set
theorem dL_set_0 : decode cL_set 0 = .ok (.aload_n 3, 1) := by decide +kernel
theorem dL_set_1 : decode cL_set 1 = .ok (.iconst 0, 1) := by decide +kernel
theorem dL_set_2 : decode cL_set 2 = .ok (.aload_n 0, 1) := by decide +kernel
theorem dL_set_3 : decode cL_set 3 = .ok (.iload_n 1, 1) := by decide +kernel
theorem dL_set_4 : decode cL_set 4 = .ok (.iload_n 2, 1) := by decide +kernel
theorem dL_set_5 : decode cL_set 5 = .ok (.invokevirtual 15, 3) := by decide +kernel
theorem dL_set_8 : decode cL_set 8 = .ok (.i2l, 1) := by decide +kernel
theorem dL_set_9 : decode cL_set 9 = .ok (.lastore, 1) := by decide +kernel
theorem dL_set_10 : decode cL_set 10 = .ok (.goto 11, 3) := by decide +kernel
theorem dL_set_13 : decode cL_set 13 = .ok (.astore 4, 2) := by decide +kernel
theorem dL_set_15 : decode cL_set 15 = .ok (.iconst 1, 1) := by decide +kernel
theorem dL_set_16 : decode cL_set 16 = .ok (.ireturn, 1) := by decide +kernel
theorem dL_set_17 : decode cL_set 17 = .ok (.astore 4, 2) := by decide +kernel
theorem dL_set_19 : decode cL_set 19 = .ok (.iconst 2, 1) := by decide +kernel
theorem dL_set_20 : decode cL_set 20 = .ok (.ireturn, 1) := by decide +kernel
theorem dL_set_21 : decode cL_set 21 = .ok (.iconst 0, 1) := by decide +kernel
theorem dL_set_22 : decode cL_set 22 = .ok (.ireturn, 1) := by decide +kernel
set_option maxRecDepth 20000 in
theorem ggL_begin_X5_begin : GoodIn wsL_begin wsX5_begin := goodIn_ca (goodIn_ca (goodIn_ca (goodIn_r _ [8, 9, 10, 11, 12, 13, 14, 15, 16, 17, 7, 18, 19, 20, 21, 22, 23, 24, 25, 26, 27, 28, 29, 30, 31, 32, 33, 34, 35, 36, 37, 38, 39, 40, 41, 42, 43, 44, 45, 46, 47, 48, 49, 50, 51, 52, 53, 54, 55, 56, 57, 58, 59, 60, 61, 62, 63, 64, 65, 66, 67, 68, 69, 70, 71, 72, 73, 74, 75, 76, 77, 78, 79, 80, 81, 82, 83, 84, 85, 86, 87, 88, 89, 90, 91, 92, 93, 94, 95, 96, 97, 98, 99, 100, 101, 102, 103, 104, 105, 106, 107, 108, 109] rfl (by decide +kernel)) (goodIn_sub (fun _ h => List.mem_cons_of_mem _ (List.mem_append_left _ (List.mem_append_left _ (List.mem_append_right _ h)))) (by decide +kernel))) (goodIn_sub (fun _ h => List.mem_cons_of_mem _ (List.mem_append_left _ (List.mem_append_right _ h))) (by decide +kernel))) (goodIn_sub (fun _ h => List.mem_cons_of_mem _ (List.mem_append_right _ h)) (by decide +kernel))
set_option maxRecDepth 20000 in
theorem gL_begin_X5_begin : GoodIn wsL_begin (wsV RL 21 RX5 yX5_begin wsX5_begin) := goodIn_app (goodIn_of _ (by decide +kernel)) ggL_begin_X5_begin
theorem dL_begin_0 : decode cL_begin 0 = .ok (.aload 4, 2) := by decide +kernel
theorem dL_begin_2 : decode cL_begin 2 = .ok (.iconst 0, 1) := by decide +kernel
theorem dL_begin_3 : decode cL_begin 3 = .ok (.aload_n 0, 1) := by decide +kernel
theorem dL_begin_4 : decode cL_begin 4 = .ok (.iload_n 1, 1) := by decide +kernel
theorem dL_begin_5 : decode cL_begin 5 = .ok (.iload_n 2, 1) := by decide +kernel
theorem dL_begin_6 : decode cL_begin 6 = .ok (.iload_n 3, 1) := by decide +kernel
theorem dL_begin_7 : decode cL_begin 7 = .ok (.invokevirtual 21, 3) := by decide +kernel
theorem dL_begin_10 : decode cL_begin 10 = .ok (.i2l, 1) := by decide +kernel
theorem dL_begin_11 : decode cL_begin 11 = .ok (.lastore, 1) := by decide +kernel
theorem dL_begin_12 : decode cL_begin 12 = .ok (.goto 15, 3) := by decide +kernel
theorem dL_begin_15 : decode cL_begin 15 = .ok (.astore 5, 2) := by decide +kernel
theorem dL_begin_17 : decode cL_begin 17 = .ok (.iconst 1, 1) := by decide +kernel
theorem dL_begin_18 : decode cL_begin 18 = .ok (.ireturn, 1) := by decide +kernel
theorem dL_begin_19 : decode cL_begin 19 = .ok (.astore 5, 2) := by decide +kernel
theorem dL_begin_21 : decode cL_begin 21 = .ok (.iconst 2, 1) := by decide +kernel
theorem dL_begin_22 : decode cL_begin 22 = .ok (.ireturn, 1) := by decide +kernel
theorem dL_begin_23 : decode cL_begin 23 = .ok (.astore 5, 2) := by decide +kernel
theorem dL_begin_25 : decode cL_begin 25 = .ok (.iconst 3, 1) := by decide +kernel
theorem dL_begin_26 : decode cL_begin 26 = .ok (.ireturn, 1) := by decide +kernel
theorem dL_begin_27 : decode cL_begin 27 = .ok (.iconst 0, 1) := by decide +kernel
theorem dL_begin_28 : decode cL_begin 28 = .ok (.ireturn, 1) := by decide +kernel
set_option maxRecDepth 20000 in
theorem ggL_step_X5_step : GoodIn wsL_step wsX5_step := goodIn_ca (goodIn_r _ [6, 7, 8, 9, 10, 11, 12, 13, 14, 15, 16, 17, 18, 19, 20, 21, 22, 23, 24, 25, 26, 27, 28, 29, 30, 31, 32, 33, 34, 35, 36, 37, 38, 39, 40, 41, 42, 43, 44, 45, 46, 47, 48, 49, 50, 51, 52, 53, 54, 55, 56, 57, 58, 59, 60, 61, 62, 63, 64, 65, 66, 67, 5, 68, 69, 70, 71, 72, 73, 74, 75, 76, 77, 78, 79, 80, 81, 82, 83, 84, 85, 86, 87, 88, 89] rfl (by decide +kernel)) (goodIn_sub (fun _ h => List.mem_cons_of_mem _ (List.mem_append_right _ h)) (by decide +kernel))
set_option maxRecDepth 20000 in
theorem gL_step_X5_step : GoodIn wsL_step (wsV RL 27 RX5 yX5_step wsX5_step) := goodIn_app (goodIn_of _ (by decide +kernel)) ggL_step_X5_step
theorem dL_step_0 : decode cL_step 0 = .ok (.aload_n 1, 1) := by decide +kernel
theorem dL_step_1 : decode cL_step 1 = .ok (.iconst 0, 1) := by decide +kernel
theorem dL_step_2 : decode cL_step 2 = .ok (.aload_n 0, 1) := by decide +kernel
theorem dL_step_3 : decode cL_step 3 = .ok (.invokevirtual 27, 3) := by decide +kernel
theorem dL_step_6 : decode cL_step 6 = .ok (.i2l, 1) := by decide +kernel
theorem dL_step_7 : decode cL_step 7 = .ok (.lastore, 1) := by decide +kernel
theorem dL_step_8 : decode cL_step 8 = .ok (.goto 6, 3) := by decide +kernel
theorem dL_step_11 : decode cL_step 11 = .ok (.astore_n 2, 1) := by decide +kernel
theorem dL_step_12 : decode cL_step 12 = .ok (.iconst 1, 1) := by decide +kernel
theorem dL_step_13 : decode cL_step 13 = .ok (.ireturn, 1) := by decide +kernel
theorem dL_step_14 : decode cL_step 14 = .ok (.iconst 0, 1) := by decide +kernel
theorem dL_step_15 : decode cL_step 15 = .ok (.ireturn, 1) := by decide +kernel
set_option maxRecDepth 20000 in
theorem ggL_finish_X5_finish : GoodIn wsL_finish wsX5_finish := goodIn_ca (goodIn_r _ [6, 7, 8, 9, 10, 11, 12, 13, 5, 14, 15, 16, 17, 18, 19, 20, 21, 22, 23, 24, 25, 26, 27, 28, 29, 30, 31, 32, 33, 34, 35, 36, 37, 38, 39, 40, 41, 42, 43, 44, 45, 46, 47, 48, 49, 50, 51, 52, 53, 54, 55, 56, 57, 58, 59, 60, 61, 62, 63, 64, 65, 66, 67, 68, 69, 70, 71, 72, 73, 74, 75, 76, 77, 78, 79, 80, 81, 82, 83, 84, 85, 86, 87, 88, 89, 90, 91, 92, 93] rfl (by decide +kernel)) (goodIn_sub (fun _ h => List.mem_cons_of_mem _ (List.mem_append_right _ h)) (by decide +kernel))
set_option maxRecDepth 20000 in
theorem gL_finish_X5_finish : GoodIn wsL_finish (wsV RL 31 RX5 yX5_finish wsX5_finish) := goodIn_app (goodIn_of _ (by decide +kernel)) ggL_finish_X5_finish
theorem dL_finish_0 : decode cL_finish 0 = .ok (.aload_n 1, 1) := by decide +kernel
theorem dL_finish_1 : decode cL_finish 1 = .ok (.iconst 0, 1) := by decide +kernel
theorem dL_finish_2 : decode cL_finish 2 = .ok (.aload_n 0, 1) := by decide +kernel
theorem dL_finish_3 : decode cL_finish 3 = .ok (.invokevirtual 31, 3) := by decide +kernel
theorem dL_finish_6 : decode cL_finish 6 = .ok (.i2l, 1) := by decide +kernel
theorem dL_finish_7 : decode cL_finish 7 = .ok (.lastore, 1) := by decide +kernel
theorem dL_finish_8 : decode cL_finish 8 = .ok (.goto 6, 3) := by decide +kernel
theorem dL_finish_11 : decode cL_finish 11 = .ok (.astore_n 2, 1) := by decide +kernel
theorem dL_finish_12 : decode cL_finish 12 = .ok (.iconst 1, 1) := by decide +kernel
theorem dL_finish_13 : decode cL_finish 13 = .ok (.ireturn, 1) := by decide +kernel
theorem dL_finish_14 : decode cL_finish 14 = .ok (.iconst 0, 1) := by decide +kernel
theorem dL_finish_15 : decode cL_finish 15 = .ok (.ireturn, 1) := by decide +kernel
set_option maxRecDepth 20000 in
theorem ggL_store_X5_store : GoodIn wsL_store wsX5_store := goodIn_ca (goodIn_ca (goodIn_r _ [7, 8, 9, 10, 11, 12, 13, 14, 15, 6, 16, 17, 18, 19, 20, 21, 22, 23, 24, 25, 26, 27, 28, 29, 30, 31, 32, 33, 34, 35, 36, 37, 38, 39, 40, 41, 42, 43, 44, 45, 46, 47, 48, 49, 50, 51, 52, 53, 54, 55, 56, 57, 58, 59, 60, 61, 62, 63, 64, 65, 66, 67, 68, 69, 70, 71, 72, 73, 74, 75, 76, 77, 78, 79, 80, 81, 82, 83, 84, 85, 86, 87, 88, 89, 90, 91, 92, 93, 94, 95, 96] rfl (by decide +kernel)) (goodIn_sub (fun _ h => List.mem_cons_of_mem _ (List.mem_append_left _ (List.mem_append_right _ h))) (by decide +kernel))) (goodIn_sub (fun _ h => List.mem_cons_of_mem _ (List.mem_append_right _ h)) (by decide +kernel))
set_option maxRecDepth 20000 in
theorem gL_store_X5_store : GoodIn wsL_store (wsV RL 34 RX5 yX5_store wsX5_store) := goodIn_app (goodIn_of _ (by decide +kernel)) ggL_store_X5_store
theorem dL_store_0 : decode cL_store 0 = .ok (.aload_n 2, 1) := by decide +kernel
theorem dL_store_1 : decode cL_store 1 = .ok (.iconst 0, 1) := by decide +kernel
theorem dL_store_2 : decode cL_store 2 = .ok (.aload_n 0, 1) := by decide +kernel
theorem dL_store_3 : decode cL_store 3 = .ok (.iload_n 1, 1) := by decide +kernel
theorem dL_store_4 : decode cL_store 4 = .ok (.invokevirtual 34, 3) := by decide +kernel
theorem dL_store_7 : decode cL_store 7 = .ok (.i2l, 1) := by decide +kernel
theorem dL_store_8 : decode cL_store 8 = .ok (.lastore, 1) := by decide +kernel
theorem dL_store_9 : decode cL_store 9 = .ok (.goto 9, 3) := by decide +kernel
theorem dL_store_12 : decode cL_store 12 = .ok (.astore_n 3, 1) := by decide +kernel
theorem dL_store_13 : decode cL_store 13 = .ok (.iconst 1, 1) := by decide +kernel
theorem dL_store_14 : decode cL_store 14 = .ok (.ireturn, 1) := by decide +kernel
theorem dL_store_15 : decode cL_store 15 = .ok (.astore_n 3, 1) := by decide +kernel
theorem dL_store_16 : decode cL_store 16 = .ok (.iconst 2, 1) := by decide +kernel
theorem dL_store_17 : decode cL_store 17 = .ok (.ireturn, 1) := by decide +kernel
theorem dL_store_18 : decode cL_store 18 = .ok (.iconst 0, 1) := by decide +kernel
theorem dL_store_19 : decode cL_store 19 = .ok (.ireturn, 1) := by decide +kernel
set_option maxRecDepth 20000 in
theorem ggL_type_X5_type : GoodIn wsL_type wsX5_type := goodIn_ca (goodIn_r _ [6, 7, 8, 9, 10, 11, 12, 13, 14, 15, 16, 17, 18, 19, 20, 21, 22, 23, 24, 25, 26, 27, 28, 29, 30, 31, 32, 33] rfl (by decide +kernel)) (goodIn_sub (fun _ h => List.mem_cons_of_mem _ (List.mem_append_right _ h)) (by decide +kernel))
set_option maxRecDepth 20000 in
theorem gL_type_X5_type : GoodIn wsL_type (wsV RL 37 RX5 yX5_type wsX5_type) := goodIn_app (goodIn_of _ (by decide +kernel)) ggL_type_X5_type
theorem dL_type_0 : decode cL_type 0 = .ok (.aload_n 2, 1) := by decide +kernel
theorem dL_type_1 : decode cL_type 1 = .ok (.iconst 0, 1) := by decide +kernel
theorem dL_type_2 : decode cL_type 2 = .ok (.aload_n 0, 1) := by decide +kernel
theorem dL_type_3 : decode cL_type 3 = .ok (.iload_n 1, 1) := by decide +kernel
theorem dL_type_4 : decode cL_type 4 = .ok (.invokevirtual 37, 3) := by decide +kernel
theorem dL_type_7 : decode cL_type 7 = .ok (.i2l, 1) := by decide +kernel
theorem dL_type_8 : decode cL_type 8 = .ok (.lastore, 1) := by decide +kernel
theorem dL_type_9 : decode cL_type 9 = .ok (.goto 6, 3) := by decide +kernel
theorem dL_type_12 : decode cL_type 12 = .ok (.astore_n 3, 1) := by decide +kernel
theorem dL_type_13 : decode cL_type 13 = .ok (.iconst 1, 1) := by decide +kernel
theorem dL_type_14 : decode cL_type 14 = .ok (.ireturn, 1) := by decide +kernel
theorem dL_type_15 : decode cL_type 15 = .ok (.iconst 0, 1) := by decide +kernel
theorem dL_type_16 : decode cL_type 16 = .ok (.ireturn, 1) := by decide +kernel
set_option maxRecDepth 20000 in
theorem ggL_firstOverflow_X5_firstOverflow : GoodIn wsL_firstOverflow wsX5_firstOverflow := goodIn_ca (goodIn_r _ [6, 7, 8, 9, 10, 11, 12, 13, 5, 14, 15, 16, 17, 18, 19, 20, 21, 22, 23, 24, 25, 26, 27, 28, 29, 30, 31, 32, 33, 34, 35, 36, 37, 38, 39, 40, 41, 42, 43, 44, 45, 46, 47, 48, 49, 50, 51, 52, 53, 54, 55, 56, 57, 58, 59, 60, 61, 62, 63, 64, 65, 66, 67, 68, 69, 70, 71, 72, 73, 74, 75, 76, 77, 78, 79, 80, 81, 82, 83, 84, 85, 86, 87, 88, 89, 90, 91, 92, 93, 94, 95, 96, 97, 98, 99, 100, 101, 102, 103, 104, 105, 106, 107, 108, 109, 110, 111, 112, 113, 114, 115, 116, 117, 118, 119, 120, 121, 122, 123, 124, 125, 126, 127, 128, 129, 130, 131, 132, 133, 134, 135, 136, 137, 138, 139, 140, 141, 142, 143, 144, 145, 146, 147, 148, 149, 150, 151, 152, 153, 154, 155, 156, 157, 158, 159, 160, 161, 162, 163, 164, 165, 166, 167, 168, 169] rfl (by decide +kernel)) (goodIn_sub (fun _ h => List.mem_cons_of_mem _ (List.mem_append_right _ h)) (by decide +kernel))
set_option maxRecDepth 20000 in
theorem gL_firstOverflow_X5_firstOverflow : GoodIn wsL_firstOverflow (wsV RL 41 RX5 yX5_firstOverflow wsX5_firstOverflow) := goodIn_app (goodIn_of _ (by decide +kernel)) ggL_firstOverflow_X5_firstOverflow
theorem dL_firstOverflow_0 : decode cL_firstOverflow 0 = .ok (.aload_n 1, 1) := by decide +kernel
theorem dL_firstOverflow_1 : decode cL_firstOverflow 1 = .ok (.iconst 0, 1) := by decide +kernel
theorem dL_firstOverflow_2 : decode cL_firstOverflow 2 = .ok (.aload_n 0, 1) := by decide +kernel
theorem dL_firstOverflow_3 : decode cL_firstOverflow 3 = .ok (.invokevirtual 41, 3) := by decide +kernel
theorem dL_firstOverflow_6 : decode cL_firstOverflow 6 = .ok (.i2l, 1) := by decide +kernel
theorem dL_firstOverflow_7 : decode cL_firstOverflow 7 = .ok (.lastore, 1) := by decide +kernel
theorem dL_firstOverflow_8 : decode cL_firstOverflow 8 = .ok (.goto 6, 3) := by decide +kernel
theorem dL_firstOverflow_11 : decode cL_firstOverflow 11 = .ok (.astore_n 2, 1) := by decide +kernel
theorem dL_firstOverflow_12 : decode cL_firstOverflow 12 = .ok (.iconst 1, 1) := by decide +kernel
theorem dL_firstOverflow_13 : decode cL_firstOverflow 13 = .ok (.ireturn, 1) := by decide +kernel
theorem dL_firstOverflow_14 : decode cL_firstOverflow 14 = .ok (.iconst 0, 1) := by decide +kernel
theorem dL_firstOverflow_15 : decode cL_firstOverflow 15 = .ok (.ireturn, 1) := by decide +kernel
set_option maxRecDepth 20000 in
theorem ggL_carryOut_X5_carryOut : GoodIn wsL_carryOut wsX5_carryOut := goodIn_ca (goodIn_r _ [6, 7, 8, 9, 10, 11, 12, 13, 5, 14, 15, 16, 17, 18, 19, 20, 21, 22, 23, 24, 25, 26, 27, 28, 29, 30, 31, 32, 33, 34, 35, 36, 37, 38, 39, 40, 41, 42, 43, 44, 45, 46, 47, 48, 49, 50, 51, 52, 53, 54, 55, 56, 57, 58, 59, 60, 61, 62, 63, 64, 65, 66, 67, 68, 69, 70, 71, 72, 73, 74, 75, 76, 77, 78, 79, 80, 81, 82, 83, 84, 85, 86, 87, 88, 89, 90, 91, 92, 93, 94, 95, 96, 97, 98, 99, 100, 101, 102, 103, 104, 105, 106, 107, 108, 109, 110, 111, 112, 113, 114, 115, 116, 117, 118, 119, 120, 121, 122, 123, 124, 125, 126, 127, 128, 129, 130, 131, 132, 133, 134, 135, 136, 137, 138, 139, 140, 141, 142, 143, 144, 145, 146, 147, 148, 149, 150, 151, 152, 153, 154, 155, 156, 157, 158, 159, 160, 161, 162, 163, 164, 165, 166, 167, 168, 169, 170, 171, 172, 173, 174, 175, 176, 177, 178, 179, 180, 181, 182, 183, 184, 185, 186, 187, 188, 189, 190, 191, 192] rfl (by decide +kernel)) (goodIn_sub (fun _ h => List.mem_cons_of_mem _ (List.mem_append_right _ h)) (by decide +kernel))
set_option maxRecDepth 20000 in
theorem gL_carryOut_X5_carryOut : GoodIn wsL_carryOut (wsV RL 44 RX5 yX5_carryOut wsX5_carryOut) := goodIn_app (goodIn_of _ (by decide +kernel)) ggL_carryOut_X5_carryOut
theorem dL_carryOut_0 : decode cL_carryOut 0 = .ok (.aload_n 1, 1) := by decide +kernel
theorem dL_carryOut_1 : decode cL_carryOut 1 = .ok (.iconst 0, 1) := by decide +kernel
theorem dL_carryOut_2 : decode cL_carryOut 2 = .ok (.aload_n 0, 1) := by decide +kernel
theorem dL_carryOut_3 : decode cL_carryOut 3 = .ok (.invokevirtual 44, 3) := by decide +kernel
theorem dL_carryOut_6 : decode cL_carryOut 6 = .ok (.i2l, 1) := by decide +kernel
theorem dL_carryOut_7 : decode cL_carryOut 7 = .ok (.lastore, 1) := by decide +kernel
theorem dL_carryOut_8 : decode cL_carryOut 8 = .ok (.goto 6, 3) := by decide +kernel
theorem dL_carryOut_11 : decode cL_carryOut 11 = .ok (.astore_n 2, 1) := by decide +kernel
theorem dL_carryOut_12 : decode cL_carryOut 12 = .ok (.iconst 1, 1) := by decide +kernel
theorem dL_carryOut_13 : decode cL_carryOut 13 = .ok (.ireturn, 1) := by decide +kernel
theorem dL_carryOut_14 : decode cL_carryOut 14 = .ok (.iconst 0, 1) := by decide +kernel
theorem dL_carryOut_15 : decode cL_carryOut 15 = .ok (.ireturn, 1) := by decide +kernel
set_option maxRecDepth 20000 in
theorem ggL_undo_X5_undo : GoodIn wsL_undo wsX5_undo := goodIn_ca (goodIn_r _ [6, 7, 8, 9, 10, 11, 12, 13, 14, 15, 16, 17, 18, 19, 20, 21, 22, 23, 24, 25, 26, 27, 28, 29, 30, 31, 32, 33, 34, 35, 36, 37, 38, 39, 40, 41, 42, 43, 44, 45, 46, 47, 48, 49, 50, 51, 52, 53, 54, 55, 56, 57, 58, 59, 60, 61, 62, 63, 64, 65, 66, 67, 68, 69, 70] rfl (by decide +kernel)) (goodIn_sub (fun _ h => List.mem_cons_of_mem _ (List.mem_append_right _ h)) (by decide +kernel))
set_option maxRecDepth 20000 in
theorem gL_undo_X5_undo : GoodIn wsL_undo (wsV RL 47 RX5 yX5_undo wsX5_undo) := goodIn_app (goodIn_of _ (by decide +kernel)) ggL_undo_X5_undo
theorem dL_undo_0 : decode cL_undo 0 = .ok (.aload_n 1, 1) := by decide +kernel
theorem dL_undo_1 : decode cL_undo 1 = .ok (.iconst 0, 1) := by decide +kernel
theorem dL_undo_2 : decode cL_undo 2 = .ok (.aload_n 0, 1) := by decide +kernel
theorem dL_undo_3 : decode cL_undo 3 = .ok (.invokevirtual 47, 3) := by decide +kernel
theorem dL_undo_6 : decode cL_undo 6 = .ok (.i2l, 1) := by decide +kernel
theorem dL_undo_7 : decode cL_undo 7 = .ok (.lastore, 1) := by decide +kernel
theorem dL_undo_8 : decode cL_undo 8 = .ok (.goto 6, 3) := by decide +kernel
theorem dL_undo_11 : decode cL_undo 11 = .ok (.astore_n 2, 1) := by decide +kernel
theorem dL_undo_12 : decode cL_undo 12 = .ok (.iconst 1, 1) := by decide +kernel
theorem dL_undo_13 : decode cL_undo 13 = .ok (.ireturn, 1) := by decide +kernel
theorem dL_undo_14 : decode cL_undo 14 = .ok (.iconst 0, 1) := by decide +kernel
theorem dL_undo_15 : decode cL_undo 15 = .ok (.ireturn, 1) := by decide +kernel
set_option maxRecDepth 20000 in
theorem ggL_restoreSnapshot_X5_restoreSnapshot : GoodIn wsL_restoreSnapshot wsX5_restoreSnapshot := goodIn_ca (goodIn_r _ [6, 7, 8, 9, 10, 11, 12, 13, 14, 15, 16, 17, 18, 19, 20, 21, 22, 23, 24, 25, 26, 27, 28, 29, 30, 31, 32, 33, 34, 35, 36, 37, 38, 39, 40, 41, 42, 43, 44, 45, 46, 47, 48, 49, 50, 51, 52, 53, 54, 55, 56, 57, 58, 59, 60, 61, 62, 63, 64, 65, 66, 67, 68, 69, 70, 71, 72, 73, 74, 75, 76, 77] rfl (by decide +kernel)) (goodIn_sub (fun _ h => List.mem_cons_of_mem _ (List.mem_append_right _ h)) (by decide +kernel))
set_option maxRecDepth 20000 in
theorem gL_restoreSnapshot_X5_restoreSnapshot : GoodIn wsL_restoreSnapshot (wsV RL 50 RX5 yX5_restoreSnapshot wsX5_restoreSnapshot) := goodIn_app (goodIn_of _ (by decide +kernel)) ggL_restoreSnapshot_X5_restoreSnapshot
theorem dL_restoreSnapshot_0 : decode cL_restoreSnapshot 0 = .ok (.aload_n 1, 1) := by decide +kernel
theorem dL_restoreSnapshot_1 : decode cL_restoreSnapshot 1 = .ok (.iconst 0, 1) := by decide +kernel
theorem dL_restoreSnapshot_2 : decode cL_restoreSnapshot 2 = .ok (.aload_n 0, 1) := by decide +kernel
theorem dL_restoreSnapshot_3 : decode cL_restoreSnapshot 3 = .ok (.invokevirtual 50, 3) := by decide +kernel
theorem dL_restoreSnapshot_6 : decode cL_restoreSnapshot 6 = .ok (.i2l, 1) := by decide +kernel
theorem dL_restoreSnapshot_7 : decode cL_restoreSnapshot 7 = .ok (.lastore, 1) := by decide +kernel
theorem dL_restoreSnapshot_8 : decode cL_restoreSnapshot 8 = .ok (.goto 6, 3) := by decide +kernel
theorem dL_restoreSnapshot_11 : decode cL_restoreSnapshot 11 = .ok (.astore_n 2, 1) := by decide +kernel
theorem dL_restoreSnapshot_12 : decode cL_restoreSnapshot 12 = .ok (.iconst 1, 1) := by decide +kernel
theorem dL_restoreSnapshot_13 : decode cL_restoreSnapshot 13 = .ok (.ireturn, 1) := by decide +kernel
theorem dL_restoreSnapshot_14 : decode cL_restoreSnapshot 14 = .ok (.iconst 0, 1) := by decide +kernel
theorem dL_restoreSnapshot_15 : decode cL_restoreSnapshot 15 = .ok (.ireturn, 1) := by decide +kernel
set_option maxRecDepth 20000 in
theorem ggL_valueOf_X5_valueOf : GoodIn wsL_valueOf wsX5_valueOf := goodIn_ca (goodIn_r _ [6, 7, 8, 9, 5, 10, 11, 12, 13, 14, 15, 16, 17, 18, 19, 20, 21, 22, 23, 24, 25, 26, 27, 28, 29, 30, 31, 32] rfl (by decide +kernel)) (goodIn_sub (fun _ h => List.mem_cons_of_mem _ (List.mem_append_right _ h)) (by decide +kernel))
set_option maxRecDepth 20000 in
theorem gL_valueOf_X5_valueOf : GoodIn wsL_valueOf (wsV RL 53 RX5 yX5_valueOf wsX5_valueOf) := goodIn_app (goodIn_of _ (by decide +kernel)) ggL_valueOf_X5_valueOf
theorem dL_valueOf_0 : decode cL_valueOf 0 = .ok (.aload_n 2, 1) := by decide +kernel
theorem dL_valueOf_1 : decode cL_valueOf 1 = .ok (.iconst 0, 1) := by decide +kernel
theorem dL_valueOf_2 : decode cL_valueOf 2 = .ok (.aload_n 0, 1) := by decide +kernel
theorem dL_valueOf_3 : decode cL_valueOf 3 = .ok (.iload_n 1, 1) := by decide +kernel
theorem dL_valueOf_4 : decode cL_valueOf 4 = .ok (.invokevirtual 53, 3) := by decide +kernel
theorem dL_valueOf_7 : decode cL_valueOf 7 = .ok (.i2l, 1) := by decide +kernel
theorem dL_valueOf_8 : decode cL_valueOf 8 = .ok (.lastore, 1) := by decide +kernel
theorem dL_valueOf_9 : decode cL_valueOf 9 = .ok (.goto 6, 3) := by decide +kernel
theorem dL_valueOf_12 : decode cL_valueOf 12 = .ok (.astore_n 3, 1) := by decide +kernel
theorem dL_valueOf_13 : decode cL_valueOf 13 = .ok (.iconst 1, 1) := by decide +kernel
theorem dL_valueOf_14 : decode cL_valueOf 14 = .ok (.ireturn, 1) := by decide +kernel
theorem dL_valueOf_15 : decode cL_valueOf 15 = .ok (.iconst 0, 1) := by decide +kernel
theorem dL_valueOf_16 : decode cL_valueOf 16 = .ok (.ireturn, 1) := by decide +kernel
set_option maxRecDepth 20000 in
theorem ggL_onesOf_X5_onesOf : GoodIn wsL_onesOf wsX5_onesOf := goodIn_ca (goodIn_r _ [6, 7, 8, 9, 5, 10, 11, 12, 13, 14, 15, 16, 17, 18, 19, 20, 21, 22, 23, 24, 25, 26, 27, 28, 29, 30, 31, 32, 33, 34, 35, 36, 37, 38, 39, 40, 41, 42, 43, 44] rfl (by decide +kernel)) (goodIn_sub (fun _ h => List.mem_cons_of_mem _ (List.mem_append_right _ h)) (by decide +kernel))
set_option maxRecDepth 20000 in
theorem gL_onesOf_X5_onesOf : GoodIn wsL_onesOf (wsV RL 56 RX5 yX5_onesOf wsX5_onesOf) := goodIn_app (goodIn_of _ (by decide +kernel)) ggL_onesOf_X5_onesOf
theorem dL_onesOf_0 : decode cL_onesOf 0 = .ok (.aload_n 2, 1) := by decide +kernel
theorem dL_onesOf_1 : decode cL_onesOf 1 = .ok (.iconst 0, 1) := by decide +kernel
theorem dL_onesOf_2 : decode cL_onesOf 2 = .ok (.aload_n 0, 1) := by decide +kernel
theorem dL_onesOf_3 : decode cL_onesOf 3 = .ok (.iload_n 1, 1) := by decide +kernel
theorem dL_onesOf_4 : decode cL_onesOf 4 = .ok (.invokevirtual 56, 3) := by decide +kernel
theorem dL_onesOf_7 : decode cL_onesOf 7 = .ok (.i2l, 1) := by decide +kernel
theorem dL_onesOf_8 : decode cL_onesOf 8 = .ok (.lastore, 1) := by decide +kernel
theorem dL_onesOf_9 : decode cL_onesOf 9 = .ok (.goto 6, 3) := by decide +kernel
theorem dL_onesOf_12 : decode cL_onesOf 12 = .ok (.astore_n 3, 1) := by decide +kernel
theorem dL_onesOf_13 : decode cL_onesOf 13 = .ok (.iconst 1, 1) := by decide +kernel
theorem dL_onesOf_14 : decode cL_onesOf 14 = .ok (.ireturn, 1) := by decide +kernel
theorem dL_onesOf_15 : decode cL_onesOf 15 = .ok (.iconst 0, 1) := by decide +kernel
theorem dL_onesOf_16 : decode cL_onesOf 16 = .ok (.ireturn, 1) := by decide +kernel
set_option maxRecDepth 20000 in
theorem ggL_digitAt_X5_digitAt : GoodIn wsL_digitAt wsX5_digitAt := goodIn_ca (goodIn_ca (goodIn_ca (goodIn_r _ [8, 9, 10, 11, 12, 13, 14, 7, 15, 16, 17, 18, 19, 20, 21, 22, 23, 24, 25, 26, 27, 28, 29, 30, 31, 32, 33, 34, 35, 36, 37, 38, 39, 40, 41, 42, 43, 44, 45, 46, 47, 48, 49, 50, 51, 52, 53, 54, 55, 56, 57, 58] rfl (by decide +kernel)) (goodIn_sub (fun _ h => List.mem_cons_of_mem _ (List.mem_append_left _ (List.mem_append_left _ (List.mem_append_right _ h)))) (by decide +kernel))) (goodIn_sub (fun _ h => List.mem_cons_of_mem _ (List.mem_append_left _ (List.mem_append_right _ h))) (by decide +kernel))) (goodIn_sub (fun _ h => List.mem_cons_of_mem _ (List.mem_append_right _ h)) (by decide +kernel))
set_option maxRecDepth 20000 in
theorem gL_digitAt_X5_digitAt : GoodIn wsL_digitAt (wsV RL 59 RX5 yX5_digitAt wsX5_digitAt) := goodIn_app (goodIn_of _ (by decide +kernel)) ggL_digitAt_X5_digitAt
theorem dL_digitAt_0 : decode cL_digitAt 0 = .ok (.aload 4, 2) := by decide +kernel
theorem dL_digitAt_2 : decode cL_digitAt 2 = .ok (.iconst 0, 1) := by decide +kernel
theorem dL_digitAt_3 : decode cL_digitAt 3 = .ok (.aload_n 0, 1) := by decide +kernel
theorem dL_digitAt_4 : decode cL_digitAt 4 = .ok (.iload_n 1, 1) := by decide +kernel
theorem dL_digitAt_5 : decode cL_digitAt 5 = .ok (.iload_n 2, 1) := by decide +kernel
theorem dL_digitAt_6 : decode cL_digitAt 6 = .ok (.iload_n 3, 1) := by decide +kernel
theorem dL_digitAt_7 : decode cL_digitAt 7 = .ok (.invokevirtual 59, 3) := by decide +kernel
theorem dL_digitAt_10 : decode cL_digitAt 10 = .ok (.i2l, 1) := by decide +kernel
theorem dL_digitAt_11 : decode cL_digitAt 11 = .ok (.lastore, 1) := by decide +kernel
theorem dL_digitAt_12 : decode cL_digitAt 12 = .ok (.goto 15, 3) := by decide +kernel
theorem dL_digitAt_15 : decode cL_digitAt 15 = .ok (.astore 5, 2) := by decide +kernel
theorem dL_digitAt_17 : decode cL_digitAt 17 = .ok (.iconst 1, 1) := by decide +kernel
theorem dL_digitAt_18 : decode cL_digitAt 18 = .ok (.ireturn, 1) := by decide +kernel
theorem dL_digitAt_19 : decode cL_digitAt 19 = .ok (.astore 5, 2) := by decide +kernel
theorem dL_digitAt_21 : decode cL_digitAt 21 = .ok (.iconst 2, 1) := by decide +kernel
theorem dL_digitAt_22 : decode cL_digitAt 22 = .ok (.ireturn, 1) := by decide +kernel
theorem dL_digitAt_23 : decode cL_digitAt 23 = .ok (.astore 5, 2) := by decide +kernel
theorem dL_digitAt_25 : decode cL_digitAt 25 = .ok (.iconst 3, 1) := by decide +kernel
theorem dL_digitAt_26 : decode cL_digitAt 26 = .ok (.ireturn, 1) := by decide +kernel
theorem dL_digitAt_27 : decode cL_digitAt 27 = .ok (.iconst 0, 1) := by decide +kernel
theorem dL_digitAt_28 : decode cL_digitAt 28 = .ok (.ireturn, 1) := by decide +kernel
set_option maxRecDepth 20000 in
theorem ggL_rowsOf_X5_rowsOf : GoodIn wsL_rowsOf wsX5_rowsOf := goodIn_ca (goodIn_ca (goodIn_ca (goodIn_r _ [8, 9, 10, 11, 12, 7, 13, 14, 15, 16, 17, 18, 19, 20, 21, 22, 23, 24, 25, 26, 27, 28, 29, 30, 31, 32, 33, 34, 35, 36, 37, 38, 39, 40, 41, 42, 43, 44, 45, 46, 47, 48, 49, 50, 51, 52, 53, 54, 55, 56, 57, 58] rfl (by decide +kernel)) (goodIn_sub (fun _ h => List.mem_cons_of_mem _ (List.mem_append_left _ (List.mem_append_left _ (List.mem_append_right _ h)))) (by decide +kernel))) (goodIn_sub (fun _ h => List.mem_cons_of_mem _ (List.mem_append_left _ (List.mem_append_right _ h))) (by decide +kernel))) (goodIn_sub (fun _ h => List.mem_cons_of_mem _ (List.mem_append_right _ h)) (by decide +kernel))
set_option maxRecDepth 20000 in
theorem gL_rowsOf_X5_rowsOf : GoodIn wsL_rowsOf (wsV RL 62 RX5 yX5_rowsOf wsX5_rowsOf) := goodIn_app (goodIn_of _ (by decide +kernel)) ggL_rowsOf_X5_rowsOf
theorem dL_rowsOf_0 : decode cL_rowsOf 0 = .ok (.aload_n 3, 1) := by decide +kernel
theorem dL_rowsOf_1 : decode cL_rowsOf 1 = .ok (.iconst 0, 1) := by decide +kernel
theorem dL_rowsOf_2 : decode cL_rowsOf 2 = .ok (.aload_n 0, 1) := by decide +kernel
theorem dL_rowsOf_3 : decode cL_rowsOf 3 = .ok (.iload_n 1, 1) := by decide +kernel
theorem dL_rowsOf_4 : decode cL_rowsOf 4 = .ok (.iload_n 2, 1) := by decide +kernel
theorem dL_rowsOf_5 : decode cL_rowsOf 5 = .ok (.invokevirtual 62, 3) := by decide +kernel
theorem dL_rowsOf_8 : decode cL_rowsOf 8 = .ok (.i2l, 1) := by decide +kernel
theorem dL_rowsOf_9 : decode cL_rowsOf 9 = .ok (.lastore, 1) := by decide +kernel
theorem dL_rowsOf_10 : decode cL_rowsOf 10 = .ok (.goto 15, 3) := by decide +kernel
theorem dL_rowsOf_13 : decode cL_rowsOf 13 = .ok (.astore 4, 2) := by decide +kernel
theorem dL_rowsOf_15 : decode cL_rowsOf 15 = .ok (.iconst 1, 1) := by decide +kernel
theorem dL_rowsOf_16 : decode cL_rowsOf 16 = .ok (.ireturn, 1) := by decide +kernel
theorem dL_rowsOf_17 : decode cL_rowsOf 17 = .ok (.astore 4, 2) := by decide +kernel
theorem dL_rowsOf_19 : decode cL_rowsOf 19 = .ok (.iconst 2, 1) := by decide +kernel
theorem dL_rowsOf_20 : decode cL_rowsOf 20 = .ok (.ireturn, 1) := by decide +kernel
theorem dL_rowsOf_21 : decode cL_rowsOf 21 = .ok (.astore 4, 2) := by decide +kernel
theorem dL_rowsOf_23 : decode cL_rowsOf 23 = .ok (.iconst 3, 1) := by decide +kernel
theorem dL_rowsOf_24 : decode cL_rowsOf 24 = .ok (.ireturn, 1) := by decide +kernel
theorem dL_rowsOf_25 : decode cL_rowsOf 25 = .ok (.iconst 0, 1) := by decide +kernel
theorem dL_rowsOf_26 : decode cL_rowsOf 26 = .ok (.ireturn, 1) := by decide +kernel
set_option maxRecDepth 20000 in
theorem ggL_productByRows_X5_productByRows : GoodIn wsL_productByRows wsX5_productByRows := goodIn_ca (goodIn_ca (goodIn_ca (goodIn_r _ [8, 9, 10, 11, 12, 7, 13, 14, 15, 16, 17, 18, 19, 20, 21, 22, 23, 24, 25, 26, 27, 28, 29, 30, 31, 32, 33, 34, 35, 36, 37, 38, 39, 40, 41, 42, 43, 44, 45, 46, 47, 48, 49, 50, 51, 52, 53, 54, 55, 56, 57, 58, 59, 60, 61] rfl (by decide +kernel)) (goodIn_sub (fun _ h => List.mem_cons_of_mem _ (List.mem_append_left _ (List.mem_append_left _ (List.mem_append_right _ h)))) (by decide +kernel))) (goodIn_sub (fun _ h => List.mem_cons_of_mem _ (List.mem_append_left _ (List.mem_append_right _ h))) (by decide +kernel))) (goodIn_sub (fun _ h => List.mem_cons_of_mem _ (List.mem_append_right _ h)) (by decide +kernel))
set_option maxRecDepth 20000 in
theorem gL_productByRows_X5_productByRows : GoodIn wsL_productByRows (wsV RL 65 RX5 yX5_productByRows wsX5_productByRows) := goodIn_app (goodIn_of _ (by decide +kernel)) ggL_productByRows_X5_productByRows
theorem dL_productByRows_0 : decode cL_productByRows 0 = .ok (.aload 4, 2) := by decide +kernel
theorem dL_productByRows_2 : decode cL_productByRows 2 = .ok (.iconst 0, 1) := by decide +kernel
theorem dL_productByRows_3 : decode cL_productByRows 3 = .ok (.aload_n 0, 1) := by decide +kernel
theorem dL_productByRows_4 : decode cL_productByRows 4 = .ok (.iload_n 1, 1) := by decide +kernel
theorem dL_productByRows_5 : decode cL_productByRows 5 = .ok (.iload_n 2, 1) := by decide +kernel
theorem dL_productByRows_6 : decode cL_productByRows 6 = .ok (.iload_n 3, 1) := by decide +kernel
theorem dL_productByRows_7 : decode cL_productByRows 7 = .ok (.invokevirtual 65, 3) := by decide +kernel
theorem dL_productByRows_10 : decode cL_productByRows 10 = .ok (.i2l, 1) := by decide +kernel
theorem dL_productByRows_11 : decode cL_productByRows 11 = .ok (.lastore, 1) := by decide +kernel
theorem dL_productByRows_12 : decode cL_productByRows 12 = .ok (.goto 15, 3) := by decide +kernel
theorem dL_productByRows_15 : decode cL_productByRows 15 = .ok (.astore 5, 2) := by decide +kernel
theorem dL_productByRows_17 : decode cL_productByRows 17 = .ok (.iconst 1, 1) := by decide +kernel
theorem dL_productByRows_18 : decode cL_productByRows 18 = .ok (.ireturn, 1) := by decide +kernel
theorem dL_productByRows_19 : decode cL_productByRows 19 = .ok (.astore 5, 2) := by decide +kernel
theorem dL_productByRows_21 : decode cL_productByRows 21 = .ok (.iconst 2, 1) := by decide +kernel
theorem dL_productByRows_22 : decode cL_productByRows 22 = .ok (.ireturn, 1) := by decide +kernel
theorem dL_productByRows_23 : decode cL_productByRows 23 = .ok (.astore 5, 2) := by decide +kernel
theorem dL_productByRows_25 : decode cL_productByRows 25 = .ok (.iconst 3, 1) := by decide +kernel
theorem dL_productByRows_26 : decode cL_productByRows 26 = .ok (.ireturn, 1) := by decide +kernel
theorem dL_productByRows_27 : decode cL_productByRows 27 = .ok (.iconst 0, 1) := by decide +kernel
theorem dL_productByRows_28 : decode cL_productByRows 28 = .ok (.ireturn, 1) := by decide +kernel
set_option maxRecDepth 20000 in
theorem ggL_productByBits_X5_productByBits : GoodIn wsL_productByBits wsX5_productByBits := goodIn_ca (goodIn_r _ [6, 7, 8, 9, 10, 5, 11, 12, 13, 14, 15, 16, 17, 18, 19, 20, 21, 22, 23, 24, 25, 26, 27, 28, 29, 30, 31, 32, 33, 34, 35, 36] rfl (by decide +kernel)) (goodIn_sub (fun _ h => List.mem_cons_of_mem _ (List.mem_append_right _ h)) (by decide +kernel))
set_option maxRecDepth 20000 in
theorem gL_productByBits_X5_productByBits : GoodIn wsL_productByBits (wsV RL 68 RX5 yX5_productByBits wsX5_productByBits) := goodIn_app (goodIn_of _ (by decide +kernel)) ggL_productByBits_X5_productByBits
theorem dL_productByBits_0 : decode cL_productByBits 0 = .ok (.aload_n 3, 1) := by decide +kernel
theorem dL_productByBits_1 : decode cL_productByBits 1 = .ok (.iconst 0, 1) := by decide +kernel
theorem dL_productByBits_2 : decode cL_productByBits 2 = .ok (.aload_n 0, 1) := by decide +kernel
theorem dL_productByBits_3 : decode cL_productByBits 3 = .ok (.iload_n 1, 1) := by decide +kernel
theorem dL_productByBits_4 : decode cL_productByBits 4 = .ok (.iload_n 2, 1) := by decide +kernel
theorem dL_productByBits_5 : decode cL_productByBits 5 = .ok (.invokevirtual 68, 3) := by decide +kernel
theorem dL_productByBits_8 : decode cL_productByBits 8 = .ok (.i2l, 1) := by decide +kernel
theorem dL_productByBits_9 : decode cL_productByBits 9 = .ok (.lastore, 1) := by decide +kernel
theorem dL_productByBits_10 : decode cL_productByBits 10 = .ok (.goto 7, 3) := by decide +kernel
theorem dL_productByBits_13 : decode cL_productByBits 13 = .ok (.astore 4, 2) := by decide +kernel
theorem dL_productByBits_15 : decode cL_productByBits 15 = .ok (.iconst 1, 1) := by decide +kernel
theorem dL_productByBits_16 : decode cL_productByBits 16 = .ok (.ireturn, 1) := by decide +kernel
theorem dL_productByBits_17 : decode cL_productByBits 17 = .ok (.iconst 0, 1) := by decide +kernel
theorem dL_productByBits_18 : decode cL_productByBits 18 = .ok (.ireturn, 1) := by decide +kernel
set_option maxRecDepth 20000 in
theorem ggL_fits_X5_fits : GoodIn wsL_fits wsX5_fits := goodIn_ca (goodIn_r _ [6, 7, 8, 9, 5, 10, 11, 12, 13, 14, 15, 16, 17, 18, 19, 20, 21, 22, 23, 24, 25, 26, 27, 28, 29, 30, 31, 32, 33, 34, 35, 36, 37, 38, 39, 40, 41] rfl (by decide +kernel)) (goodIn_sub (fun _ h => List.mem_cons_of_mem _ (List.mem_append_right _ h)) (by decide +kernel))
set_option maxRecDepth 20000 in
theorem gL_fits_X5_fits : GoodIn wsL_fits (wsV RL 71 RX5 yX5_fits wsX5_fits) := goodIn_app (goodIn_of _ (by decide +kernel)) ggL_fits_X5_fits
theorem dL_fits_0 : decode cL_fits 0 = .ok (.aload_n 3, 1) := by decide +kernel
theorem dL_fits_1 : decode cL_fits 1 = .ok (.iconst 0, 1) := by decide +kernel
theorem dL_fits_2 : decode cL_fits 2 = .ok (.aload_n 0, 1) := by decide +kernel
theorem dL_fits_3 : decode cL_fits 3 = .ok (.iload_n 1, 1) := by decide +kernel
theorem dL_fits_4 : decode cL_fits 4 = .ok (.iload_n 2, 1) := by decide +kernel
theorem dL_fits_5 : decode cL_fits 5 = .ok (.invokevirtual 71, 3) := by decide +kernel
theorem dL_fits_8 : decode cL_fits 8 = .ok (.ifCond .eq 7, 3) := by decide +kernel
theorem dL_fits_11 : decode cL_fits 11 = .ok (.lconst 1, 1) := by decide +kernel
theorem dL_fits_12 : decode cL_fits 12 = .ok (.goto 4, 3) := by decide +kernel
theorem dL_fits_15 : decode cL_fits 15 = .ok (.lconst 0, 1) := by decide +kernel
theorem dL_fits_16 : decode cL_fits 16 = .ok (.lastore, 1) := by decide +kernel
theorem dL_fits_17 : decode cL_fits 17 = .ok (.goto 7, 3) := by decide +kernel
theorem dL_fits_20 : decode cL_fits 20 = .ok (.astore 4, 2) := by decide +kernel
theorem dL_fits_22 : decode cL_fits 22 = .ok (.iconst 1, 1) := by decide +kernel
theorem dL_fits_23 : decode cL_fits 23 = .ok (.ireturn, 1) := by decide +kernel
theorem dL_fits_24 : decode cL_fits 24 = .ok (.iconst 0, 1) := by decide +kernel
theorem dL_fits_25 : decode cL_fits 25 = .ok (.ireturn, 1) := by decide +kernel
set_option maxRecDepth 20000 in
theorem ggL_highPart_X5_highPart : GoodIn wsL_highPart wsX5_highPart := goodIn_ca (goodIn_r _ [6, 7, 8, 9, 10, 11, 12, 5, 13, 14, 15, 16, 17, 18, 19, 20, 21, 22, 23, 24, 25, 26, 27, 28, 29, 30, 31, 32, 33, 34] rfl (by decide +kernel)) (goodIn_sub (fun _ h => List.mem_cons_of_mem _ (List.mem_append_right _ h)) (by decide +kernel))
set_option maxRecDepth 20000 in
theorem gL_highPart_X5_highPart : GoodIn wsL_highPart (wsV RL 75 RX5 yX5_highPart wsX5_highPart) := goodIn_app (goodIn_of _ (by decide +kernel)) ggL_highPart_X5_highPart
theorem dL_highPart_0 : decode cL_highPart 0 = .ok (.aload_n 1, 1) := by decide +kernel
theorem dL_highPart_1 : decode cL_highPart 1 = .ok (.iconst 0, 1) := by decide +kernel
theorem dL_highPart_2 : decode cL_highPart 2 = .ok (.aload_n 0, 1) := by decide +kernel
theorem dL_highPart_3 : decode cL_highPart 3 = .ok (.invokevirtual 75, 3) := by decide +kernel
theorem dL_highPart_6 : decode cL_highPart 6 = .ok (.i2l, 1) := by decide +kernel
theorem dL_highPart_7 : decode cL_highPart 7 = .ok (.lastore, 1) := by decide +kernel
theorem dL_highPart_8 : decode cL_highPart 8 = .ok (.goto 6, 3) := by decide +kernel
theorem dL_highPart_11 : decode cL_highPart 11 = .ok (.astore_n 2, 1) := by decide +kernel
theorem dL_highPart_12 : decode cL_highPart 12 = .ok (.iconst 1, 1) := by decide +kernel
theorem dL_highPart_13 : decode cL_highPart 13 = .ok (.ireturn, 1) := by decide +kernel
theorem dL_highPart_14 : decode cL_highPart 14 = .ok (.iconst 0, 1) := by decide +kernel
theorem dL_highPart_15 : decode cL_highPart 15 = .ok (.ireturn, 1) := by decide +kernel
set_option maxRecDepth 20000 in
theorem ggL_lowPart_X5_lowPart : GoodIn wsL_lowPart wsX5_lowPart := goodIn_ca (goodIn_r _ [6, 7, 8, 9, 10, 11, 12, 5, 13, 14, 15, 16, 17, 18, 19, 20, 21, 22, 23, 24, 25, 26, 27, 28, 29, 30, 31, 32, 33, 34] rfl (by decide +kernel)) (goodIn_sub (fun _ h => List.mem_cons_of_mem _ (List.mem_append_right _ h)) (by decide +kernel))
set_option maxRecDepth 20000 in
theorem gL_lowPart_X5_lowPart : GoodIn wsL_lowPart (wsV RL 78 RX5 yX5_lowPart wsX5_lowPart) := goodIn_app (goodIn_of _ (by decide +kernel)) ggL_lowPart_X5_lowPart
theorem dL_lowPart_0 : decode cL_lowPart 0 = .ok (.aload_n 1, 1) := by decide +kernel
theorem dL_lowPart_1 : decode cL_lowPart 1 = .ok (.iconst 0, 1) := by decide +kernel
theorem dL_lowPart_2 : decode cL_lowPart 2 = .ok (.aload_n 0, 1) := by decide +kernel
theorem dL_lowPart_3 : decode cL_lowPart 3 = .ok (.invokevirtual 78, 3) := by decide +kernel
theorem dL_lowPart_6 : decode cL_lowPart 6 = .ok (.i2l, 1) := by decide +kernel
theorem dL_lowPart_7 : decode cL_lowPart 7 = .ok (.lastore, 1) := by decide +kernel
theorem dL_lowPart_8 : decode cL_lowPart 8 = .ok (.goto 6, 3) := by decide +kernel
theorem dL_lowPart_11 : decode cL_lowPart 11 = .ok (.astore_n 2, 1) := by decide +kernel
theorem dL_lowPart_12 : decode cL_lowPart 12 = .ok (.iconst 1, 1) := by decide +kernel
theorem dL_lowPart_13 : decode cL_lowPart 13 = .ok (.ireturn, 1) := by decide +kernel
theorem dL_lowPart_14 : decode cL_lowPart 14 = .ok (.iconst 0, 1) := by decide +kernel
theorem dL_lowPart_15 : decode cL_lowPart 15 = .ok (.ireturn, 1) := by decide +kernel
set_option maxRecDepth 20000 in
theorem ggL_extraBit_X5_extraBit : GoodIn wsL_extraBit wsX5_extraBit := goodIn_ca (goodIn_r _ [6, 7, 8, 9, 10, 11, 12, 5, 13, 14, 15, 16, 17, 18, 19, 20, 21, 22, 23, 24, 25, 26, 27, 28, 29, 30, 31, 32, 33, 34] rfl (by decide +kernel)) (goodIn_sub (fun _ h => List.mem_cons_of_mem _ (List.mem_append_right _ h)) (by decide +kernel))
set_option maxRecDepth 20000 in
theorem gL_extraBit_X5_extraBit : GoodIn wsL_extraBit (wsV RL 81 RX5 yX5_extraBit wsX5_extraBit) := goodIn_app (goodIn_of _ (by decide +kernel)) ggL_extraBit_X5_extraBit
theorem dL_extraBit_0 : decode cL_extraBit 0 = .ok (.aload_n 1, 1) := by decide +kernel
theorem dL_extraBit_1 : decode cL_extraBit 1 = .ok (.iconst 0, 1) := by decide +kernel
theorem dL_extraBit_2 : decode cL_extraBit 2 = .ok (.aload_n 0, 1) := by decide +kernel
theorem dL_extraBit_3 : decode cL_extraBit 3 = .ok (.invokevirtual 81, 3) := by decide +kernel
theorem dL_extraBit_6 : decode cL_extraBit 6 = .ok (.i2l, 1) := by decide +kernel
theorem dL_extraBit_7 : decode cL_extraBit 7 = .ok (.lastore, 1) := by decide +kernel
theorem dL_extraBit_8 : decode cL_extraBit 8 = .ok (.goto 6, 3) := by decide +kernel
theorem dL_extraBit_11 : decode cL_extraBit 11 = .ok (.astore_n 2, 1) := by decide +kernel
theorem dL_extraBit_12 : decode cL_extraBit 12 = .ok (.iconst 1, 1) := by decide +kernel
theorem dL_extraBit_13 : decode cL_extraBit 13 = .ok (.ireturn, 1) := by decide +kernel
theorem dL_extraBit_14 : decode cL_extraBit 14 = .ok (.iconst 0, 1) := by decide +kernel
theorem dL_extraBit_15 : decode cL_extraBit 15 = .ok (.ireturn, 1) := by decide +kernel
set_option maxRecDepth 20000 in
theorem ggL_carries_X5_carries : GoodIn wsL_carries wsX5_carries := goodIn_ca (goodIn_r _ [6, 7, 8, 9, 5, 10, 11, 12, 13, 14, 15, 16, 17, 18, 19, 20, 21, 22, 23, 24, 25, 26, 27, 28, 29, 30, 31, 32, 33, 34, 35, 36, 37, 38, 39, 40, 41, 42, 43, 44, 45, 46, 47] rfl (by decide +kernel)) (goodIn_sub (fun _ h => List.mem_cons_of_mem _ (List.mem_append_right _ h)) (by decide +kernel))
set_option maxRecDepth 20000 in
theorem gL_carries_X5_carries : GoodIn wsL_carries (wsV RL 84 RX5 yX5_carries wsX5_carries) := goodIn_app (goodIn_of _ (by decide +kernel)) ggL_carries_X5_carries
theorem dL_carries_0 : decode cL_carries 0 = .ok (.aload_n 3, 1) := by decide +kernel
theorem dL_carries_1 : decode cL_carries 1 = .ok (.iconst 0, 1) := by decide +kernel
theorem dL_carries_2 : decode cL_carries 2 = .ok (.aload_n 0, 1) := by decide +kernel
theorem dL_carries_3 : decode cL_carries 3 = .ok (.iload_n 1, 1) := by decide +kernel
theorem dL_carries_4 : decode cL_carries 4 = .ok (.iload_n 2, 1) := by decide +kernel
theorem dL_carries_5 : decode cL_carries 5 = .ok (.invokevirtual 84, 3) := by decide +kernel
theorem dL_carries_8 : decode cL_carries 8 = .ok (.i2l, 1) := by decide +kernel
theorem dL_carries_9 : decode cL_carries 9 = .ok (.lastore, 1) := by decide +kernel
theorem dL_carries_10 : decode cL_carries 10 = .ok (.goto 7, 3) := by decide +kernel
theorem dL_carries_13 : decode cL_carries 13 = .ok (.astore 4, 2) := by decide +kernel
theorem dL_carries_15 : decode cL_carries 15 = .ok (.iconst 1, 1) := by decide +kernel
theorem dL_carries_16 : decode cL_carries 16 = .ok (.ireturn, 1) := by decide +kernel
theorem dL_carries_17 : decode cL_carries 17 = .ok (.iconst 0, 1) := by decide +kernel
theorem dL_carries_18 : decode cL_carries 18 = .ok (.ireturn, 1) := by decide +kernel
set_option maxRecDepth 20000 in
theorem ggL_longestRun_X5_longestRun : GoodIn wsL_longestRun wsX5_longestRun := goodIn_ca (goodIn_r _ [6, 7, 8, 9, 10, 11, 12, 13, 14, 5, 15, 16, 17, 18, 19, 20, 21, 22, 23, 24, 25, 26, 27, 28, 29, 30, 31, 32, 33, 34, 35, 36, 37, 38, 39, 40, 41, 42, 43, 44, 45, 46, 47, 48] rfl (by decide +kernel)) (goodIn_sub (fun _ h => List.mem_cons_of_mem _ (List.mem_append_right _ h)) (by decide +kernel))
set_option maxRecDepth 20000 in
theorem gL_longestRun_X5_longestRun : GoodIn wsL_longestRun (wsV RL 87 RX5 yX5_longestRun wsX5_longestRun) := goodIn_app (goodIn_of _ (by decide +kernel)) ggL_longestRun_X5_longestRun
theorem dL_longestRun_0 : decode cL_longestRun 0 = .ok (.aload_n 3, 1) := by decide +kernel
theorem dL_longestRun_1 : decode cL_longestRun 1 = .ok (.iconst 0, 1) := by decide +kernel
theorem dL_longestRun_2 : decode cL_longestRun 2 = .ok (.aload_n 0, 1) := by decide +kernel
theorem dL_longestRun_3 : decode cL_longestRun 3 = .ok (.iload_n 1, 1) := by decide +kernel
theorem dL_longestRun_4 : decode cL_longestRun 4 = .ok (.iload_n 2, 1) := by decide +kernel
theorem dL_longestRun_5 : decode cL_longestRun 5 = .ok (.invokevirtual 87, 3) := by decide +kernel
theorem dL_longestRun_8 : decode cL_longestRun 8 = .ok (.i2l, 1) := by decide +kernel
theorem dL_longestRun_9 : decode cL_longestRun 9 = .ok (.lastore, 1) := by decide +kernel
theorem dL_longestRun_10 : decode cL_longestRun 10 = .ok (.goto 7, 3) := by decide +kernel
theorem dL_longestRun_13 : decode cL_longestRun 13 = .ok (.astore 4, 2) := by decide +kernel
theorem dL_longestRun_15 : decode cL_longestRun 15 = .ok (.iconst 1, 1) := by decide +kernel
theorem dL_longestRun_16 : decode cL_longestRun 16 = .ok (.ireturn, 1) := by decide +kernel
theorem dL_longestRun_17 : decode cL_longestRun 17 = .ok (.iconst 0, 1) := by decide +kernel
theorem dL_longestRun_18 : decode cL_longestRun 18 = .ok (.ireturn, 1) := by decide +kernel

