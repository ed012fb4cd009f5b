theorem dX10_isRead_0 : decode cX10_isRead 0 = .ok (.aload_n 0, 1) := by decide +kernel
theorem dX10_isRead_1 : decode cX10_isRead 1 = .ok (.iconst 0, 1) := by decide +kernel
theorem dX10_isRead_2 : decode cX10_isRead 2 = .ok (.putfield 97, 3) := by decide +kernel
theorem dX10_isRead_5 : decode cX10_isRead 5 = .ok (.aload_n 0, 1) := by decide +kernel
theorem dX10_isRead_6 : decode cX10_isRead 6 = .ok (.iconst 0, 1) := by decide +kernel
theorem dX10_isRead_7 : decode cX10_isRead 7 = .ok (.putfield 185, 3) := by decide +kernel
theorem dX10_isRead_10 : decode cX10_isRead 10 = .ok (.aload_n 0, 1) := by decide +kernel
theorem dX10_isRead_11 : decode cX10_isRead 11 = .ok (.aload_n 0, 1) := by decide +kernel
theorem dX10_isRead_12 : decode cX10_isRead 12 = .ok (.getfield 7, 3) := by decide +kernel
theorem dX10_isRead_15 : decode cX10_isRead 15 = .ok (.putfield 135, 3) := by decide +kernel
theorem dX10_isRead_18 : decode cX10_isRead 18 = .ok (.aload_n 0, 1) := by decide +kernel
theorem dX10_isRead_19 : decode cX10_isRead 19 = .ok (.aload_n 0, 1) := by decide +kernel
theorem dX10_isRead_20 : decode cX10_isRead 20 = .ok (.getfield 77, 3) := by decide +kernel
theorem dX10_isRead_23 : decode cX10_isRead 23 = .ok (.putfield 141, 3) := by decide +kernel
theorem dX10_isRead_26 : decode cX10_isRead 26 = .ok (.iconst 1, 1) := by decide +kernel
theorem dX10_isRead_27 : decode cX10_isRead 27 = .ok (.istore_n 1, 1) := by decide +kernel
theorem dX10_isRead_28 : decode cX10_isRead 28 = .ok (.iload_n 1, 1) := by decide +kernel
theorem dX10_isRead_29 : decode cX10_isRead 29 = .ok (.ifCond .eq 61, 3) := by decide +kernel
theorem dX10_isRead_32 : decode cX10_isRead 32 = .ok (.aload_n 0, 1) := by decide +kernel
theorem dX10_isRead_33 : decode cX10_isRead 33 = .ok (.iconst 5, 1) := by decide +kernel
theorem dX10_isRead_34 : decode cX10_isRead 34 = .ok (.aload_n 0, 1) := by decide +kernel
theorem dX10_isRead_35 : decode cX10_isRead 35 = .ok (.getfield 185, 3) := by decide +kernel
theorem dX10_isRead_38 : decode cX10_isRead 38 = .ok (.imul, 1) := by decide +kernel
theorem dX10_isRead_39 : decode cX10_isRead 39 = .ok (.invokevirtual 188, 3) := by decide +kernel
theorem dX10_isRead_42 : decode cX10_isRead 42 = .ok (.ifCond .ne 5, 3) := by decide +kernel
theorem dX10_isRead_45 : decode cX10_isRead 45 = .ok (.iconst 0, 1) := by decide +kernel
theorem dX10_isRead_46 : decode cX10_isRead 46 = .ok (.ireturn, 1) := by decide +kernel
theorem dX10_isRead_47 : decode cX10_isRead 47 = .ok (.aload_n 0, 1) := by decide +kernel
theorem dX10_isRead_48 : decode cX10_isRead 48 = .ok (.dup, 1) := by decide +kernel
theorem dX10_isRead_49 : decode cX10_isRead 49 = .ok (.getfield 185, 3) := by decide +kernel
theorem dX10_isRead_52 : decode cX10_isRead 52 = .ok (.iconst 1, 1) := by decide +kernel
theorem dX10_isRead_53 : decode cX10_isRead 53 = .ok (.iadd, 1) := by decide +kernel
theorem dX10_isRead_54 : decode cX10_isRead 54 = .ok (.putfield 185, 3) := by decide +kernel
theorem dX10_isRead_57 : decode cX10_isRead 57 = .ok (.aload_n 0, 1) := by decide +kernel
theorem dX10_isRead_58 : decode cX10_isRead 58 = .ok (.invokevirtual 128, 3) := by decide +kernel
theorem dX10_isRead_61 : decode cX10_isRead 61 = .ok (.aload_n 0, 1) := by decide +kernel
theorem dX10_isRead_62 : decode cX10_isRead 62 = .ok (.getfield 111, 3) := by decide +kernel
theorem dX10_isRead_65 : decode cX10_isRead 65 = .ok (.ldc2_w 123, 3) := by decide +kernel
theorem dX10_isRead_68 : decode cX10_isRead 68 = .ok (.lcmp, 1) := by decide +kernel
theorem dX10_isRead_69 : decode cX10_isRead 69 = .ok (.ifCond .ne 16, 3) := by decide +kernel
theorem dX10_isRead_72 : decode cX10_isRead 72 = .ok (.aload_n 0, 1) := by decide +kernel
theorem dX10_isRead_73 : decode cX10_isRead 73 = .ok (.getfield 185, 3) := by decide +kernel
theorem dX10_isRead_76 : decode cX10_isRead 76 = .ok (.bipush 10, 2) := by decide +kernel
theorem dX10_isRead_78 : decode cX10_isRead 78 = .ok (.if_icmp .ge 7, 3) := by decide +kernel
theorem dX10_isRead_81 : decode cX10_isRead 81 = .ok (.iconst 1, 1) := by decide +kernel
theorem dX10_isRead_82 : decode cX10_isRead 82 = .ok (.goto 4, 3) := by decide +kernel
theorem dX10_isRead_85 : decode cX10_isRead 85 = .ok (.iconst 0, 1) := by decide +kernel
theorem dX10_isRead_86 : decode cX10_isRead 86 = .ok (.istore_n 1, 1) := by decide +kernel
theorem dX10_isRead_87 : decode cX10_isRead 87 = .ok (.goto (-59), 3) := by decide +kernel
theorem dX10_isRead_90 : decode cX10_isRead 90 = .ok (.aload_n 0, 1) := by decide +kernel
theorem dX10_isRead_91 : decode cX10_isRead 91 = .ok (.getfield 111, 3) := by decide +kernel
theorem dX10_isRead_94 : decode cX10_isRead 94 = .ok (.ldc2_w 109, 3) := by decide +kernel
theorem dX10_isRead_97 : decode cX10_isRead 97 = .ok (.lcmp, 1) := by decide +kernel
theorem dX10_isRead_98 : decode cX10_isRead 98 = .ok (.ifCond .eq 10, 3) := by decide +kernel
theorem dX10_isRead_101 : decode cX10_isRead 101 = .ok (.aload_n 0, 1) := by decide +kernel
theorem dX10_isRead_102 : decode cX10_isRead 102 = .ok (.invokevirtual 131, 3) := by decide +kernel
theorem dX10_isRead_105 : decode cX10_isRead 105 = .ok (.ifCond .eq 7, 3) := by decide +kernel
theorem dX10_isRead_108 : decode cX10_isRead 108 = .ok (.iconst 1, 1) := by decide +kernel
theorem dX10_isRead_109 : decode cX10_isRead 109 = .ok (.goto 4, 3) := by decide +kernel
theorem dX10_isRead_112 : decode cX10_isRead 112 = .ok (.iconst 0, 1) := by decide +kernel
theorem dX10_isRead_113 : decode cX10_isRead 113 = .ok (.ireturn, 1) := by decide +kernel
theorem dX10_fault_0 : decode cX10_fault 0 = .ok (.aload_n 0, 1) := by decide +kernel
theorem dX10_fault_1 : decode cX10_fault 1 = .ok (.invokevirtual 191, 3) := by decide +kernel
theorem dX10_fault_4 : decode cX10_fault 4 = .ok (.ifCond .eq 7, 3) := by decide +kernel
theorem dX10_fault_7 : decode cX10_fault 7 = .ok (.iconst (-1), 1) := by decide +kernel
theorem dX10_fault_8 : decode cX10_fault 8 = .ok (.goto 7, 3) := by decide +kernel
theorem dX10_fault_11 : decode cX10_fault 11 = .ok (.aload_n 0, 1) := by decide +kernel
theorem dX10_fault_12 : decode cX10_fault 12 = .ok (.getfield 125, 3) := by decide +kernel
theorem dX10_fault_15 : decode cX10_fault 15 = .ok (.ireturn, 1) := by decide +kernel
theorem dX10_doLine_0 : decode cX10_doLine 0 = .ok (.aload_n 0, 1) := by decide +kernel
theorem dX10_doLine_1 : decode cX10_doLine 1 = .ok (.getfield 26, 3) := by decide +kernel
theorem dX10_doLine_4 : decode cX10_doLine 4 = .ok (.iload_n 1, 1) := by decide +kernel
theorem dX10_doLine_5 : decode cX10_doLine 5 = .ok (.iconst 1, 1) := by decide +kernel
theorem dX10_doLine_6 : decode cX10_doLine 6 = .ok (.iadd, 1) := by decide +kernel
theorem dX10_doLine_7 : decode cX10_doLine 7 = .ok (.iaload, 1) := by decide +kernel
theorem dX10_doLine_8 : decode cX10_doLine 8 = .ok (.istore_n 2, 1) := by decide +kernel
theorem dX10_doLine_9 : decode cX10_doLine 9 = .ok (.aload_n 0, 1) := by decide +kernel
theorem dX10_doLine_10 : decode cX10_doLine 10 = .ok (.getfield 26, 3) := by decide +kernel
theorem dX10_doLine_13 : decode cX10_doLine 13 = .ok (.iload_n 1, 1) := by decide +kernel
theorem dX10_doLine_14 : decode cX10_doLine 14 = .ok (.iaload, 1) := by decide +kernel
theorem dX10_doLine_15 : decode cX10_doLine 15 = .ok (.tableswitch 235 0 13 #[69, 69, 69, 69, 235, 235, 235, 235, 133, 141, 177, 198, 219, 227], 69) := by decide +kernel
theorem dX10_doLine_84 : decode cX10_doLine 84 = .ok (.aload_n 0, 1) := by decide +kernel
theorem dX10_doLine_85 : decode cX10_doLine 85 = .ok (.getfield 17, 3) := by decide +kernel
theorem dX10_doLine_88 : decode cX10_doLine 88 = .ok (.aload_n 0, 1) := by decide +kernel
theorem dX10_doLine_89 : decode cX10_doLine 89 = .ok (.getfield 77, 3) := by decide +kernel
theorem dX10_doLine_92 : decode cX10_doLine 92 = .ok (.aload_n 0, 1) := by decide +kernel
theorem dX10_doLine_93 : decode cX10_doLine 93 = .ok (.getfield 26, 3) := by decide +kernel
theorem dX10_doLine_96 : decode cX10_doLine 96 = .ok (.iload_n 1, 1) := by decide +kernel
theorem dX10_doLine_97 : decode cX10_doLine 97 = .ok (.iaload, 1) := by decide +kernel
theorem dX10_doLine_98 : decode cX10_doLine 98 = .ok (.iastore, 1) := by decide +kernel
theorem dX10_doLine_99 : decode cX10_doLine 99 = .ok (.iconst 0, 1) := by decide +kernel
theorem dX10_doLine_100 : decode cX10_doLine 100 = .ok (.istore_n 3, 1) := by decide +kernel
theorem dX10_doLine_101 : decode cX10_doLine 101 = .ok (.iload_n 3, 1) := by decide +kernel
theorem dX10_doLine_102 : decode cX10_doLine 102 = .ok (.iconst 4, 1) := by decide +kernel
theorem dX10_doLine_103 : decode cX10_doLine 103 = .ok (.if_icmp .ge 32, 3) := by decide +kernel
theorem dX10_doLine_106 : decode cX10_doLine 106 = .ok (.aload_n 0, 1) := by decide +kernel
theorem dX10_doLine_107 : decode cX10_doLine 107 = .ok (.getfield 20, 3) := by decide +kernel
theorem dX10_doLine_110 : decode cX10_doLine 110 = .ok (.iconst 4, 1) := by decide +kernel
theorem dX10_doLine_111 : decode cX10_doLine 111 = .ok (.aload_n 0, 1) := by decide +kernel
theorem dX10_doLine_112 : decode cX10_doLine 112 = .ok (.getfield 77, 3) := by decide +kernel
theorem dX10_doLine_115 : decode cX10_doLine 115 = .ok (.imul, 1) := by decide +kernel
theorem dX10_doLine_116 : decode cX10_doLine 116 = .ok (.iload_n 3, 1) := by decide +kernel
theorem dX10_doLine_117 : decode cX10_doLine 117 = .ok (.iadd, 1) := by decide +kernel
theorem dX10_doLine_118 : decode cX10_doLine 118 = .ok (.aload_n 0, 1) := by decide +kernel
theorem dX10_doLine_119 : decode cX10_doLine 119 = .ok (.getfield 26, 3) := by decide +kernel
theorem dX10_doLine_122 : decode cX10_doLine 122 = .ok (.iload_n 1, 1) := by decide +kernel
theorem dX10_doLine_123 : decode cX10_doLine 123 = .ok (.iconst 1, 1) := by decide +kernel
theorem dX10_doLine_124 : decode cX10_doLine 124 = .ok (.iadd, 1) := by decide +kernel
theorem dX10_doLine_125 : decode cX10_doLine 125 = .ok (.iload_n 3, 1) := by decide +kernel
theorem dX10_doLine_126 : decode cX10_doLine 126 = .ok (.iadd, 1) := by decide +kernel
theorem dX10_doLine_127 : decode cX10_doLine 127 = .ok (.iaload, 1) := by decide +kernel
theorem dX10_doLine_128 : decode cX10_doLine 128 = .ok (.iastore, 1) := by decide +kernel
theorem dX10_doLine_129 : decode cX10_doLine 129 = .ok (.iinc 3 1, 3) := by decide +kernel
theorem dX10_doLine_132 : decode cX10_doLine 132 = .ok (.goto (-31), 3) := by decide +kernel
theorem dX10_doLine_135 : decode cX10_doLine 135 = .ok (.aload_n 0, 1) := by decide +kernel
theorem dX10_doLine_136 : decode cX10_doLine 136 = .ok (.dup, 1) := by decide +kernel
theorem dX10_doLine_137 : decode cX10_doLine 137 = .ok (.getfield 77, 3) := by decide +kernel
theorem dX10_doLine_140 : decode cX10_doLine 140 = .ok (.iconst 1, 1) := by decide +kernel
theorem dX10_doLine_141 : decode cX10_doLine 141 = .ok (.iadd, 1) := by decide +kernel
theorem dX10_doLine_142 : decode cX10_doLine 142 = .ok (.putfield 77, 3) := by decide +kernel
theorem dX10_doLine_145 : decode cX10_doLine 145 = .ok (.goto 117, 3) := by decide +kernel
theorem dX10_doLine_148 : decode cX10_doLine 148 = .ok (.aload_n 0, 1) := by decide +kernel
theorem dX10_doLine_149 : decode cX10_doLine 149 = .ok (.iload_n 2, 1) := by decide +kernel
theorem dX10_doLine_150 : decode cX10_doLine 150 = .ok (.invokevirtual 66, 3) := by decide +kernel
theorem dX10_doLine_153 : decode cX10_doLine 153 = .ok (.goto 109, 3) := by decide +kernel
theorem dX10_doLine_156 : decode cX10_doLine 156 = .ok (.iconst 0, 1) := by decide +kernel
theorem dX10_doLine_157 : decode cX10_doLine 157 = .ok (.istore_n 3, 1) := by decide +kernel
theorem dX10_doLine_158 : decode cX10_doLine 158 = .ok (.iload_n 3, 1) := by decide +kernel
theorem dX10_doLine_159 : decode cX10_doLine 159 = .ok (.iconst 3, 1) := by decide +kernel
theorem dX10_doLine_160 : decode cX10_doLine 160 = .ok (.if_icmp .ge 29, 3) := by decide +kernel
theorem dX10_doLine_163 : decode cX10_doLine 163 = .ok (.aload_n 0, 1) := by decide +kernel
theorem dX10_doLine_164 : decode cX10_doLine 164 = .ok (.getfield 13, 3) := by decide +kernel
theorem dX10_doLine_167 : decode cX10_doLine 167 = .ok (.iconst 5, 1) := by decide +kernel
theorem dX10_doLine_168 : decode cX10_doLine 168 = .ok (.iload_n 2, 1) := by decide +kernel
theorem dX10_doLine_169 : decode cX10_doLine 169 = .ok (.imul, 1) := by decide +kernel
theorem dX10_doLine_170 : decode cX10_doLine 170 = .ok (.iload_n 3, 1) := by decide +kernel
theorem dX10_doLine_171 : decode cX10_doLine 171 = .ok (.iadd, 1) := by decide +kernel
theorem dX10_doLine_172 : decode cX10_doLine 172 = .ok (.aload_n 0, 1) := by decide +kernel
theorem dX10_doLine_173 : decode cX10_doLine 173 = .ok (.getfield 26, 3) := by decide +kernel
theorem dX10_doLine_176 : decode cX10_doLine 176 = .ok (.iload_n 1, 1) := by decide +kernel
theorem dX10_doLine_177 : decode cX10_doLine 177 = .ok (.iconst 2, 1) := by decide +kernel
theorem dX10_doLine_178 : decode cX10_doLine 178 = .ok (.iadd, 1) := by decide +kernel
theorem dX10_doLine_179 : decode cX10_doLine 179 = .ok (.iload_n 3, 1) := by decide +kernel
theorem dX10_doLine_180 : decode cX10_doLine 180 = .ok (.iadd, 1) := by decide +kernel
theorem dX10_doLine_181 : decode cX10_doLine 181 = .ok (.iaload, 1) := by decide +kernel
theorem dX10_doLine_182 : decode cX10_doLine 182 = .ok (.iastore, 1) := by decide +kernel
theorem dX10_doLine_183 : decode cX10_doLine 183 = .ok (.iinc 3 1, 3) := by decide +kernel
theorem dX10_doLine_186 : decode cX10_doLine 186 = .ok (.goto (-28), 3) := by decide +kernel
theorem dX10_doLine_189 : decode cX10_doLine 189 = .ok (.goto 73, 3) := by decide +kernel
theorem dX10_doLine_192 : decode cX10_doLine 192 = .ok (.aload_n 0, 1) := by decide +kernel
theorem dX10_doLine_193 : decode cX10_doLine 193 = .ok (.getfield 13, 3) := by decide +kernel
theorem dX10_doLine_196 : decode cX10_doLine 196 = .ok (.iconst 5, 1) := by decide +kernel
theorem dX10_doLine_197 : decode cX10_doLine 197 = .ok (.iload_n 2, 1) := by decide +kernel
theorem dX10_doLine_198 : decode cX10_doLine 198 = .ok (.imul, 1) := by decide +kernel
theorem dX10_doLine_199 : decode cX10_doLine 199 = .ok (.iconst 3, 1) := by decide +kernel
theorem dX10_doLine_200 : decode cX10_doLine 200 = .ok (.iadd, 1) := by decide +kernel
theorem dX10_doLine_201 : decode cX10_doLine 201 = .ok (.aload_n 0, 1) := by decide +kernel
theorem dX10_doLine_202 : decode cX10_doLine 202 = .ok (.getfield 26, 3) := by decide +kernel
theorem dX10_doLine_205 : decode cX10_doLine 205 = .ok (.iload_n 1, 1) := by decide +kernel
theorem dX10_doLine_206 : decode cX10_doLine 206 = .ok (.iconst 2, 1) := by decide +kernel
theorem dX10_doLine_207 : decode cX10_doLine 207 = .ok (.iadd, 1) := by decide +kernel
theorem dX10_doLine_208 : decode cX10_doLine 208 = .ok (.iaload, 1) := by decide +kernel
theorem dX10_doLine_209 : decode cX10_doLine 209 = .ok (.iastore, 1) := by decide +kernel
theorem dX10_doLine_210 : decode cX10_doLine 210 = .ok (.goto 52, 3) := by decide +kernel
theorem dX10_doLine_213 : decode cX10_doLine 213 = .ok (.aload_n 0, 1) := by decide +kernel
theorem dX10_doLine_214 : decode cX10_doLine 214 = .ok (.getfield 13, 3) := by decide +kernel
theorem dX10_doLine_217 : decode cX10_doLine 217 = .ok (.iconst 5, 1) := by decide +kernel
theorem dX10_doLine_218 : decode cX10_doLine 218 = .ok (.iload_n 2, 1) := by decide +kernel
theorem dX10_doLine_219 : decode cX10_doLine 219 = .ok (.imul, 1) := by decide +kernel
theorem dX10_doLine_220 : decode cX10_doLine 220 = .ok (.iconst 4, 1) := by decide +kernel
theorem dX10_doLine_221 : decode cX10_doLine 221 = .ok (.iadd, 1) := by decide +kernel
theorem dX10_doLine_222 : decode cX10_doLine 222 = .ok (.aload_n 0, 1) := by decide +kernel
theorem dX10_doLine_223 : decode cX10_doLine 223 = .ok (.getfield 26, 3) := by decide +kernel
theorem dX10_doLine_226 : decode cX10_doLine 226 = .ok (.iload_n 1, 1) := by decide +kernel
theorem dX10_doLine_227 : decode cX10_doLine 227 = .ok (.iconst 2, 1) := by decide +kernel
theorem dX10_doLine_228 : decode cX10_doLine 228 = .ok (.iadd, 1) := by decide +kernel
theorem dX10_doLine_229 : decode cX10_doLine 229 = .ok (.iaload, 1) := by decide +kernel
theorem dX10_doLine_230 : decode cX10_doLine 230 = .ok (.iastore, 1) := by decide +kernel
theorem dX10_doLine_231 : decode cX10_doLine 231 = .ok (.goto 31, 3) := by decide +kernel
theorem dX10_doLine_234 : decode cX10_doLine 234 = .ok (.aload_n 0, 1) := by decide +kernel
theorem dX10_doLine_235 : decode cX10_doLine 235 = .ok (.iload_n 2, 1) := by decide +kernel
theorem dX10_doLine_236 : decode cX10_doLine 236 = .ok (.putfield 83, 3) := by decide +kernel
theorem dX10_doLine_239 : decode cX10_doLine 239 = .ok (.goto 23, 3) := by decide +kernel
theorem dX10_doLine_242 : decode cX10_doLine 242 = .ok (.aload_n 0, 1) := by decide +kernel
theorem dX10_doLine_243 : decode cX10_doLine 243 = .ok (.iconst 0, 1) := by decide +kernel
theorem dX10_doLine_244 : decode cX10_doLine 244 = .ok (.putfield 77, 3) := by decide +kernel
theorem dX10_doLine_247 : decode cX10_doLine 247 = .ok (.goto 15, 3) := by decide +kernel
theorem dX10_doLine_250 : decode cX10_doLine 250 = .ok (.aload_n 0, 1) := by decide +kernel
theorem dX10_doLine_251 : decode cX10_doLine 251 = .ok (.aload_n 0, 1) := by decide +kernel
theorem dX10_doLine_252 : decode cX10_doLine 252 = .ok (.getfield 26, 3) := by decide +kernel
theorem dX10_doLine_255 : decode cX10_doLine 255 = .ok (.iload_n 1, 1) := by decide +kernel
theorem dX10_doLine_256 : decode cX10_doLine 256 = .ok (.iaload, 1) := by decide +kernel
theorem dX10_doLine_257 : decode cX10_doLine 257 = .ok (.iconst 4, 1) := by decide +kernel
theorem dX10_doLine_258 : decode cX10_doLine 258 = .ok (.isub, 1) := by decide +kernel
theorem dX10_doLine_259 : decode cX10_doLine 259 = .ok (.putfield 80, 3) := by decide +kernel
theorem dX10_doLine_262 : decode cX10_doLine 262 = .ok (.return_, 1) := by decide +kernel
theorem dX10_league_0 : decode cX10_league 0 = .ok (.aload_n 0, 1) := by decide +kernel
theorem dX10_league_1 : decode cX10_league 1 = .ok (.invokevirtual 191, 3) := by decide +kernel
theorem dX10_league_4 : decode cX10_league 4 = .ok (.ifCond .ne 6, 3) := by decide +kernel
theorem dX10_league_7 : decode cX10_league 7 = .ok (.bipush (-4), 2) := by decide +kernel
theorem dX10_league_9 : decode cX10_league 9 = .ok (.ireturn, 1) := by decide +kernel
theorem dX10_league_10 : decode cX10_league 10 = .ok (.iconst 0, 1) := by decide +kernel
theorem dX10_league_11 : decode cX10_league 11 = .ok (.istore_n 1, 1) := by decide +kernel
theorem dX10_league_12 : decode cX10_league 12 = .ok (.iload_n 1, 1) := by decide +kernel
theorem dX10_league_13 : decode cX10_league 13 = .ok (.aload_n 0, 1) := by decide +kernel
theorem dX10_league_14 : decode cX10_league 14 = .ok (.getfield 185, 3) := by decide +kernel
theorem dX10_league_17 : decode cX10_league 17 = .ok (.if_icmp .ge 16, 3) := by decide +kernel
theorem dX10_league_20 : decode cX10_league 20 = .ok (.aload_n 0, 1) := by decide +kernel
theorem dX10_league_21 : decode cX10_league 21 = .ok (.iconst 5, 1) := by decide +kernel
theorem dX10_league_22 : decode cX10_league 22 = .ok (.iload_n 1, 1) := by decide +kernel
theorem dX10_league_23 : decode cX10_league 23 = .ok (.imul, 1) := by decide +kernel
theorem dX10_league_24 : decode cX10_league 24 = .ok (.invokevirtual 194, 3) := by decide +kernel
theorem dX10_league_27 : decode cX10_league 27 = .ok (.iinc 1 1, 3) := by decide +kernel
theorem dX10_league_30 : decode cX10_league 30 = .ok (.goto (-18), 3) := by decide +kernel
theorem dX10_league_33 : decode cX10_league 33 = .ok (.aload_n 0, 1) := by decide +kernel
theorem dX10_league_34 : decode cX10_league 34 = .ok (.iconst 0, 1) := by decide +kernel
theorem dX10_league_35 : decode cX10_league 35 = .ok (.putfield 92, 3) := by decide +kernel
theorem dX10_league_38 : decode cX10_league 38 = .ok (.aload_n 0, 1) := by decide +kernel
theorem dX10_league_39 : decode cX10_league 39 = .ok (.invokevirtual 70, 3) := by decide +kernel
theorem dX10_league_42 : decode cX10_league 42 = .ok (.aload_n 0, 1) := by decide +kernel
theorem dX10_league_43 : decode cX10_league 43 = .ok (.iconst 0, 1) := by decide +kernel
theorem dX10_league_44 : decode cX10_league 44 = .ok (.putfield 197, 3) := by decide +kernel
theorem dX10_league_47 : decode cX10_league 47 = .ok (.aload_n 0, 1) := by decide +kernel
theorem dX10_league_48 : decode cX10_league 48 = .ok (.iconst 0, 1) := by decide +kernel
theorem dX10_league_49 : decode cX10_league 49 = .ok (.putfield 200, 3) := by decide +kernel
theorem dX10_league_52 : decode cX10_league 52 = .ok (.aload_n 0, 1) := by decide +kernel
theorem dX10_league_53 : decode cX10_league 53 = .ok (.getfield 38, 3) := by decide +kernel
theorem dX10_league_56 : decode cX10_league 56 = .ok (.iconst 0, 1) := by decide +kernel
theorem dX10_league_57 : decode cX10_league 57 = .ok (.iconst 0, 1) := by decide +kernel
theorem dX10_league_58 : decode cX10_league 58 = .ok (.bastore, 1) := by decide +kernel
theorem dX10_league_59 : decode cX10_league 59 = .ok (.aload_n 0, 1) := by decide +kernel
theorem dX10_league_60 : decode cX10_league 60 = .ok (.getfield 38, 3) := by decide +kernel
theorem dX10_league_63 : decode cX10_league 63 = .ok (.iconst 1, 1) := by decide +kernel
theorem dX10_league_64 : decode cX10_league 64 = .ok (.iconst 0, 1) := by decide +kernel
theorem dX10_league_65 : decode cX10_league 65 = .ok (.bastore, 1) := by decide +kernel
theorem dX10_league_66 : decode cX10_league 66 = .ok (.aload_n 0, 1) := by decide +kernel
theorem dX10_league_67 : decode cX10_league 67 = .ok (.getfield 185, 3) := by decide +kernel
theorem dX10_league_70 : decode cX10_league 70 = .ok (.ireturn, 1) := by decide +kernel
theorem dX10_town_0 : decode cX10_town 0 = .ok (.aload_n 0, 1) := by decide +kernel
theorem dX10_town_1 : decode cX10_town 1 = .ok (.iload_n 1, 1) := by decide +kernel
theorem dX10_town_2 : decode cX10_town 2 = .ok (.invokevirtual 203, 3) := by decide +kernel
theorem dX10_town_5 : decode cX10_town 5 = .ok (.ifCond .ne 6, 3) := by decide +kernel
theorem dX10_town_8 : decode cX10_town 8 = .ok (.bipush (-2), 2) := by decide +kernel
theorem dX10_town_10 : decode cX10_town 10 = .ok (.ireturn, 1) := by decide +kernel
theorem dX10_town_11 : decode cX10_town 11 = .ok (.iload_n 2, 1) := by decide +kernel
theorem dX10_town_12 : decode cX10_town 12 = .ok (.iconst 0, 1) := by decide +kernel
theorem dX10_town_13 : decode cX10_town 13 = .ok (.iconst 4, 1) := by decide +kernel
theorem dX10_town_14 : decode cX10_town 14 = .ok (.invokestatic 73, 3) := by decide +kernel
theorem dX10_town_17 : decode cX10_town 17 = .ok (.ifCond .eq 14, 3) := by decide +kernel
theorem dX10_town_20 : decode cX10_town 20 = .ok (.aload_n 0, 1) := by decide +kernel
theorem dX10_town_21 : decode cX10_town 21 = .ok (.getfield 13, 3) := by decide +kernel
theorem dX10_town_24 : decode cX10_town 24 = .ok (.iconst 5, 1) := by decide +kernel
theorem dX10_town_25 : decode cX10_town 25 = .ok (.iload_n 1, 1) := by decide +kernel
theorem dX10_town_26 : decode cX10_town 26 = .ok (.imul, 1) := by decide +kernel
theorem dX10_town_27 : decode cX10_town 27 = .ok (.iload_n 2, 1) := by decide +kernel
theorem dX10_town_28 : decode cX10_town 28 = .ok (.iadd, 1) := by decide +kernel
theorem dX10_town_29 : decode cX10_town 29 = .ok (.iaload, 1) := by decide +kernel
theorem dX10_town_30 : decode cX10_town 30 = .ok (.ireturn, 1) := by decide +kernel
theorem dX10_town_31 : decode cX10_town 31 = .ok (.iconst 0, 1) := by decide +kernel
theorem dX10_town_32 : decode cX10_town 32 = .ok (.istore_n 3, 1) := by decide +kernel
theorem dX10_town_33 : decode cX10_town 33 = .ok (.iconst 0, 1) := by decide +kernel
theorem dX10_town_34 : decode cX10_town 34 = .ok (.istore 4, 2) := by decide +kernel
theorem dX10_town_36 : decode cX10_town 36 = .ok (.iload 4, 2) := by decide +kernel
theorem dX10_town_38 : decode cX10_town 38 = .ok (.aload_n 0, 1) := by decide +kernel
theorem dX10_town_39 : decode cX10_town 39 = .ok (.getfield 77, 3) := by decide +kernel
theorem dX10_town_42 : decode cX10_town 42 = .ok (.if_icmp .ge 28, 3) := by decide +kernel
theorem dX10_town_45 : decode cX10_town 45 = .ok (.iload_n 3, 1) := by decide +kernel
theorem dX10_town_46 : decode cX10_town 46 = .ok (.aload_n 0, 1) := by decide +kernel
theorem dX10_town_47 : decode cX10_town 47 = .ok (.getfield 29, 3) := by decide +kernel
theorem dX10_town_50 : decode cX10_town 50 = .ok (.iload 4, 2) := by decide +kernel
theorem dX10_town_52 : decode cX10_town 52 = .ok (.iaload, 1) := by decide +kernel
theorem dX10_town_53 : decode cX10_town 53 = .ok (.iload_n 1, 1) := by decide +kernel
theorem dX10_town_54 : decode cX10_town 54 = .ok (.if_icmp .ne 7, 3) := by decide +kernel
theorem dX10_town_57 : decode cX10_town 57 = .ok (.iconst 1, 1) := by decide +kernel
theorem dX10_town_58 : decode cX10_town 58 = .ok (.goto 4, 3) := by decide +kernel
theorem dX10_town_61 : decode cX10_town 61 = .ok (.iconst 0, 1) := by decide +kernel
theorem dX10_town_62 : decode cX10_town 62 = .ok (.iadd, 1) := by decide +kernel
theorem dX10_town_63 : decode cX10_town 63 = .ok (.istore_n 3, 1) := by decide +kernel
theorem dX10_town_64 : decode cX10_town 64 = .ok (.iinc 4 1, 3) := by decide +kernel
theorem dX10_town_67 : decode cX10_town 67 = .ok (.goto (-31), 3) := by decide +kernel
theorem dX10_town_70 : decode cX10_town 70 = .ok (.iload_n 2, 1) := by decide +kernel
theorem dX10_town_71 : decode cX10_town 71 = .ok (.iconst 5, 1) := by decide +kernel
theorem dX10_town_72 : decode cX10_town 72 = .ok (.if_icmp .ne 18, 3) := by decide +kernel
theorem dX10_town_75 : decode cX10_town 75 = .ok (.aload_n 0, 1) := by decide +kernel
theorem dX10_town_76 : decode cX10_town 76 = .ok (.getfield 29, 3) := by decide +kernel
theorem dX10_town_79 : decode cX10_town 79 = .ok (.bipush 40, 2) := by decide +kernel
theorem dX10_town_81 : decode cX10_town 81 = .ok (.iload_n 1, 1) := by decide +kernel
theorem dX10_town_82 : decode cX10_town 82 = .ok (.iadd, 1) := by decide +kernel
theorem dX10_town_83 : decode cX10_town 83 = .ok (.iaload, 1) := by decide +kernel
theorem dX10_town_84 : decode cX10_town 84 = .ok (.ldc 206, 2) := by decide +kernel
theorem dX10_town_86 : decode cX10_town 86 = .ok (.iadd, 1) := by decide +kernel
theorem dX10_town_87 : decode cX10_town 87 = .ok (.goto 15, 3) := by decide +kernel
theorem dX10_town_90 : decode cX10_town 90 = .ok (.iload_n 2, 1) := by decide +kernel
theorem dX10_town_91 : decode cX10_town 91 = .ok (.bipush 6, 2) := by decide +kernel
theorem dX10_town_93 : decode cX10_town 93 = .ok (.if_icmp .ne 7, 3) := by decide +kernel
theorem dX10_town_96 : decode cX10_town 96 = .ok (.iload_n 3, 1) := by decide +kernel
theorem dX10_town_97 : decode cX10_town 97 = .ok (.goto 5, 3) := by decide +kernel
theorem dX10_town_100 : decode cX10_town 100 = .ok (.bipush (-3), 2) := by decide +kernel
theorem dX10_town_102 : decode cX10_town 102 = .ok (.ireturn, 1) := by decide +kernel
theorem dX10_poundsOf_0 : decode cX10_poundsOf 0 = .ok (.aload_n 0, 1) := by decide +kernel
theorem dX10_poundsOf_1 : decode cX10_poundsOf 1 = .ok (.getfield 17, 3) := by decide +kernel
theorem dX10_poundsOf_4 : decode cX10_poundsOf 4 = .ok (.iload_n 1, 1) := by decide +kernel
theorem dX10_poundsOf_5 : decode cX10_poundsOf 5 = .ok (.iaload, 1) := by decide +kernel
theorem dX10_poundsOf_6 : decode cX10_poundsOf 6 = .ok (.iconst 2, 1) := by decide +kernel
theorem dX10_poundsOf_7 : decode cX10_poundsOf 7 = .ok (.if_icmp .ne 9, 3) := by decide +kernel
theorem dX10_poundsOf_10 : decode cX10_poundsOf 10 = .ok (.iload_n 2, 1) := by decide +kernel
theorem dX10_poundsOf_11 : decode cX10_poundsOf 11 = .ok (.iconst 2, 1) := by decide +kernel
theorem dX10_poundsOf_12 : decode cX10_poundsOf 12 = .ok (.idiv, 1) := by decide +kernel
theorem dX10_poundsOf_13 : decode cX10_poundsOf 13 = .ok (.goto 4, 3) := by decide +kernel
theorem dX10_poundsOf_16 : decode cX10_poundsOf 16 = .ok (.iload_n 2, 1) := by decide +kernel
theorem dX10_poundsOf_17 : decode cX10_poundsOf 17 = .ok (.ireturn, 1) := by decide +kernel
theorem dX10_worthOf_0 : decode cX10_worthOf 0 = .ok (.aload_n 0, 1) := by decide +kernel
theorem dX10_worthOf_1 : decode cX10_worthOf 1 = .ok (.iload_n 1, 1) := by decide +kernel
theorem dX10_worthOf_2 : decode cX10_worthOf 2 = .ok (.aload_n 0, 1) := by decide +kernel
theorem dX10_worthOf_3 : decode cX10_worthOf 3 = .ok (.getfield 29, 3) := by decide +kernel
theorem dX10_worthOf_6 : decode cX10_worthOf 6 = .ok (.bipush 10, 2) := by decide +kernel
theorem dX10_worthOf_8 : decode cX10_worthOf 8 = .ok (.iload_n 1, 1) := by decide +kernel
theorem dX10_worthOf_9 : decode cX10_worthOf 9 = .ok (.iadd, 1) := by decide +kernel
theorem dX10_worthOf_10 : decode cX10_worthOf 10 = .ok (.iaload, 1) := by decide +kernel
theorem dX10_worthOf_11 : decode cX10_worthOf 11 = .ok (.invokevirtual 207, 3) := by decide +kernel
theorem dX10_worthOf_14 : decode cX10_worthOf 14 = .ok (.aload_n 0, 1) := by decide +kernel
theorem dX10_worthOf_15 : decode cX10_worthOf 15 = .ok (.getfield 13, 3) := by decide +kernel
theorem dX10_worthOf_18 : decode cX10_worthOf 18 = .ok (.iconst 5, 1) := by decide +kernel
theorem dX10_worthOf_19 : decode cX10_worthOf 19 = .ok (.aload_n 0, 1) := by decide +kernel
theorem dX10_worthOf_20 : decode cX10_worthOf 20 = .ok (.getfield 29, 3) := by decide +kernel
theorem dX10_worthOf_23 : decode cX10_worthOf 23 = .ok (.iload_n 1, 1) := by decide +kernel
theorem dX10_worthOf_24 : decode cX10_worthOf 24 = .ok (.iaload, 1) := by decide +kernel
theorem dX10_worthOf_25 : decode cX10_worthOf 25 = .ok (.imul, 1) := by decide +kernel
theorem dX10_worthOf_26 : decode cX10_worthOf 26 = .ok (.iconst 1, 1) := by decide +kernel
theorem dX10_worthOf_27 : decode cX10_worthOf 27 = .ok (.iadd, 1) := by decide +kernel
theorem dX10_worthOf_28 : decode cX10_worthOf 28 = .ok (.iaload, 1) := by decide +kernel
theorem dX10_worthOf_29 : decode cX10_worthOf 29 = .ok (.imul, 1) := by decide +kernel
theorem dX10_worthOf_30 : decode cX10_worthOf 30 = .ok (.ireturn, 1) := by decide +kernel
theorem dX10_boy_0 : decode cX10_boy 0 = .ok (.aload_n 0, 1) := by decide +kernel
theorem dX10_boy_1 : decode cX10_boy 1 = .ok (.iload_n 1, 1) := by decide +kernel
theorem dX10_boy_2 : decode cX10_boy 2 = .ok (.invokevirtual 211, 3) := by decide +kernel
theorem dX10_boy_5 : decode cX10_boy 5 = .ok (.ifCond .ne 6, 3) := by decide +kernel
theorem dX10_boy_8 : decode cX10_boy 8 = .ok (.bipush (-2), 2) := by decide +kernel
theorem dX10_boy_10 : decode cX10_boy 10 = .ok (.ireturn, 1) := by decide +kernel
theorem dX10_boy_11 : decode cX10_boy 11 = .ok (.iload_n 2, 1) := by decide +kernel
theorem dX10_boy_12 : decode cX10_boy 12 = .ok (.ifCond .ne 12, 3) := by decide +kernel
theorem dX10_boy_15 : decode cX10_boy 15 = .ok (.aload_n 0, 1) := by decide +kernel
theorem dX10_boy_16 : decode cX10_boy 16 = .ok (.getfield 17, 3) := by decide +kernel
theorem dX10_boy_19 : decode cX10_boy 19 = .ok (.iload_n 1, 1) := by decide +kernel
theorem dX10_boy_20 : decode cX10_boy 20 = .ok (.iaload, 1) := by decide +kernel
theorem dX10_boy_21 : decode cX10_boy 21 = .ok (.goto 43, 3) := by decide +kernel
theorem dX10_boy_24 : decode cX10_boy 24 = .ok (.iload_n 2, 1) := by decide +kernel
theorem dX10_boy_25 : decode cX10_boy 25 = .ok (.iconst 1, 1) := by decide +kernel
theorem dX10_boy_26 : decode cX10_boy 26 = .ok (.iconst 4, 1) := by decide +kernel
theorem dX10_boy_27 : decode cX10_boy 27 = .ok (.invokestatic 73, 3) := by decide +kernel
theorem dX10_boy_30 : decode cX10_boy 30 = .ok (.ifCond .eq 19, 3) := by decide +kernel
theorem dX10_boy_33 : decode cX10_boy 33 = .ok (.aload_n 0, 1) := by decide +kernel
theorem dX10_boy_34 : decode cX10_boy 34 = .ok (.getfield 29, 3) := by decide +kernel
theorem dX10_boy_37 : decode cX10_boy 37 = .ok (.bipush 10, 2) := by decide +kernel
theorem dX10_boy_39 : decode cX10_boy 39 = .ok (.iload_n 2, 1) := by decide +kernel
theorem dX10_boy_40 : decode cX10_boy 40 = .ok (.iconst 1, 1) := by decide +kernel
theorem dX10_boy_41 : decode cX10_boy 41 = .ok (.isub, 1) := by decide +kernel
theorem dX10_boy_42 : decode cX10_boy 42 = .ok (.imul, 1) := by decide +kernel
theorem dX10_boy_43 : decode cX10_boy 43 = .ok (.iload_n 1, 1) := by decide +kernel
theorem dX10_boy_44 : decode cX10_boy 44 = .ok (.iadd, 1) := by decide +kernel
theorem dX10_boy_45 : decode cX10_boy 45 = .ok (.iaload, 1) := by decide +kernel
theorem dX10_boy_46 : decode cX10_boy 46 = .ok (.goto 18, 3) := by decide +kernel
theorem dX10_boy_49 : decode cX10_boy 49 = .ok (.iload_n 2, 1) := by decide +kernel
theorem dX10_boy_50 : decode cX10_boy 50 = .ok (.iconst 5, 1) := by decide +kernel
theorem dX10_boy_51 : decode cX10_boy 51 = .ok (.if_icmp .ne 11, 3) := by decide +kernel
theorem dX10_boy_54 : decode cX10_boy 54 = .ok (.aload_n 0, 1) := by decide +kernel
theorem dX10_boy_55 : decode cX10_boy 55 = .ok (.iload_n 1, 1) := by decide +kernel
theorem dX10_boy_56 : decode cX10_boy 56 = .ok (.invokevirtual 214, 3) := by decide +kernel
theorem dX10_boy_59 : decode cX10_boy 59 = .ok (.goto 5, 3) := by decide +kernel
theorem dX10_boy_62 : decode cX10_boy 62 = .ok (.bipush (-3), 2) := by decide +kernel
theorem dX10_boy_64 : decode cX10_boy 64 = .ok (.ireturn, 1) := by decide +kernel
theorem dX10_as_0 : decode cX10_as 0 = .ok (.aload_n 0, 1) := by decide +kernel
theorem dX10_as_1 : decode cX10_as 1 = .ok (.iload_n 1, 1) := by decide +kernel
theorem dX10_as_2 : decode cX10_as 2 = .ok (.invokevirtual 211, 3) := by decide +kernel
theorem dX10_as_5 : decode cX10_as 5 = .ok (.ifCond .ne 6, 3) := by decide +kernel
theorem dX10_as_8 : decode cX10_as 8 = .ok (.bipush (-2), 2) := by decide +kernel
theorem dX10_as_10 : decode cX10_as 10 = .ok (.ireturn, 1) := by decide +kernel
theorem dX10_as_11 : decode cX10_as 11 = .ok (.iload_n 2, 1) := by decide +kernel
theorem dX10_as_12 : decode cX10_as 12 = .ok (.iconst 0, 1) := by decide +kernel
theorem dX10_as_13 : decode cX10_as 13 = .ok (.iconst 4, 1) := by decide +kernel
theorem dX10_as_14 : decode cX10_as 14 = .ok (.invokestatic 73, 3) := by decide +kernel
theorem dX10_as_17 : decode cX10_as 17 = .ok (.ifCond .ne 6, 3) := by decide +kernel
theorem dX10_as_20 : decode cX10_as 20 = .ok (.bipush (-3), 2) := by decide +kernel
theorem dX10_as_22 : decode cX10_as 22 = .ok (.ireturn, 1) := by decide +kernel
theorem dX10_as_23 : decode cX10_as 23 = .ok (.iload_n 2, 1) := by decide +kernel
theorem dX10_as_24 : decode cX10_as 24 = .ok (.ifCond .eq 67, 3) := by decide +kernel
theorem dX10_as_27 : decode cX10_as 27 = .ok (.iload_n 2, 1) := by decide +kernel
theorem dX10_as_28 : decode cX10_as 28 = .ok (.iconst 1, 1) := by decide +kernel
theorem dX10_as_29 : decode cX10_as 29 = .ok (.if_icmp .ne 16, 3) := by decide +kernel
theorem dX10_as_32 : decode cX10_as 32 = .ok (.aload_n 0, 1) := by decide +kernel
theorem dX10_as_33 : decode cX10_as 33 = .ok (.getfield 17, 3) := by decide +kernel
theorem dX10_as_36 : decode cX10_as 36 = .ok (.iload_n 1, 1) := by decide +kernel
theorem dX10_as_37 : decode cX10_as 37 = .ok (.iaload, 1) := by decide +kernel
theorem dX10_as_38 : decode cX10_as 38 = .ok (.iconst 3, 1) := by decide +kernel
theorem dX10_as_39 : decode cX10_as 39 = .ok (.if_icmp .ge 56, 3) := by decide +kernel
theorem dX10_as_42 : decode cX10_as 42 = .ok (.goto 49, 3) := by decide +kernel
theorem dX10_as_45 : decode cX10_as 45 = .ok (.iload_n 2, 1) := by decide +kernel
theorem dX10_as_46 : decode cX10_as 46 = .ok (.iconst 2, 1) := by decide +kernel
theorem dX10_as_47 : decode cX10_as 47 = .ok (.if_icmp .ne 16, 3) := by decide +kernel
theorem dX10_as_50 : decode cX10_as 50 = .ok (.aload_n 0, 1) := by decide +kernel
theorem dX10_as_51 : decode cX10_as 51 = .ok (.getfield 17, 3) := by decide +kernel
theorem dX10_as_54 : decode cX10_as 54 = .ok (.iload_n 1, 1) := by decide +kernel
theorem dX10_as_55 : decode cX10_as 55 = .ok (.iaload, 1) := by decide +kernel
theorem dX10_as_56 : decode cX10_as 56 = .ok (.iconst 1, 1) := by decide +kernel
theorem dX10_as_57 : decode cX10_as 57 = .ok (.if_icmp .ne 38, 3) := by decide +kernel
theorem dX10_as_60 : decode cX10_as 60 = .ok (.goto 31, 3) := by decide +kernel
theorem dX10_as_63 : decode cX10_as 63 = .ok (.iload_n 2, 1) := by decide +kernel
theorem dX10_as_64 : decode cX10_as 64 = .ok (.iconst 3, 1) := by decide +kernel
theorem dX10_as_65 : decode cX10_as 65 = .ok (.if_icmp .ne 16, 3) := by decide +kernel
theorem dX10_as_68 : decode cX10_as 68 = .ok (.aload_n 0, 1) := by decide +kernel
theorem dX10_as_69 : decode cX10_as 69 = .ok (.getfield 17, 3) := by decide +kernel
theorem dX10_as_72 : decode cX10_as 72 = .ok (.iload_n 1, 1) := by decide +kernel
theorem dX10_as_73 : decode cX10_as 73 = .ok (.iaload, 1) := by decide +kernel
theorem dX10_as_74 : decode cX10_as 74 = .ok (.iconst 2, 1) := by decide +kernel
theorem dX10_as_75 : decode cX10_as 75 = .ok (.if_icmp .ne 20, 3) := by decide +kernel
theorem dX10_as_78 : decode cX10_as 78 = .ok (.goto 13, 3) := by decide +kernel
theorem dX10_as_81 : decode cX10_as 81 = .ok (.aload_n 0, 1) := by decide +kernel
theorem dX10_as_82 : decode cX10_as 82 = .ok (.getfield 17, 3) := by decide +kernel
theorem dX10_as_85 : decode cX10_as 85 = .ok (.iload_n 1, 1) := by decide +kernel
theorem dX10_as_86 : decode cX10_as 86 = .ok (.iaload, 1) := by decide +kernel
theorem dX10_as_87 : decode cX10_as 87 = .ok (.iconst 3, 1) := by decide +kernel
theorem dX10_as_88 : decode cX10_as 88 = .ok (.if_icmp .ne 7, 3) := by decide +kernel
theorem dX10_as_91 : decode cX10_as 91 = .ok (.iconst 1, 1) := by decide +kernel
theorem dX10_as_92 : decode cX10_as 92 = .ok (.goto 4, 3) := by decide +kernel
theorem dX10_as_95 : decode cX10_as 95 = .ok (.iconst 0, 1) := by decide +kernel
theorem dX10_as_96 : decode cX10_as 96 = .ok (.istore_n 3, 1) := by decide +kernel
theorem dX10_as_97 : decode cX10_as 97 = .ok (.iload_n 3, 1) := by decide +kernel
theorem dX10_as_98 : decode cX10_as 98 = .ok (.ifCond .eq 20, 3) := by decide +kernel
theorem dX10_as_101 : decode cX10_as 101 = .ok (.aload_n 0, 1) := by decide +kernel
theorem dX10_as_102 : decode cX10_as 102 = .ok (.iload_n 1, 1) := by decide +kernel
theorem dX10_as_103 : decode cX10_as 103 = .ok (.aload_n 0, 1) := by decide +kernel
theorem dX10_as_104 : decode cX10_as 104 = .ok (.getfield 29, 3) := by decide +kernel
theorem dX10_as_107 : decode cX10_as 107 = .ok (.bipush 10, 2) := by decide +kernel
theorem dX10_as_109 : decode cX10_as 109 = .ok (.iload_n 1, 1) := by decide +kernel
theorem dX10_as_110 : decode cX10_as 110 = .ok (.iadd, 1) := by decide +kernel
theorem dX10_as_111 : decode cX10_as 111 = .ok (.iaload, 1) := by decide +kernel
theorem dX10_as_112 : decode cX10_as 112 = .ok (.invokevirtual 207, 3) := by decide +kernel
theorem dX10_as_115 : decode cX10_as 115 = .ok (.goto 5, 3) := by decide +kernel
theorem dX10_as_118 : decode cX10_as 118 = .ok (.bipush (-4), 2) := by decide +kernel
theorem dX10_as_120 : decode cX10_as 120 = .ok (.ireturn, 1) := by decide +kernel
theorem dX10_give_0 : decode cX10_give 0 = .ok (.aload_n 0, 1) := by decide +kernel
theorem dX10_give_1 : decode cX10_give 1 = .ok (.iload_n 1, 1) := by decide +kernel
theorem dX10_give_2 : decode cX10_give 2 = .ok (.invokevirtual 211, 3) := by decide +kernel
theorem dX10_give_5 : decode cX10_give 5 = .ok (.ifCond .eq 11, 3) := by decide +kernel
theorem dX10_give_8 : decode cX10_give 8 = .ok (.aload_n 0, 1) := by decide +kernel
theorem dX10_give_9 : decode cX10_give 9 = .ok (.iload_n 2, 1) := by decide +kernel
theorem dX10_give_10 : decode cX10_give 10 = .ok (.invokevirtual 203, 3) := by decide +kernel
theorem dX10_give_13 : decode cX10_give 13 = .ok (.ifCond .ne 6, 3) := by decide +kernel
theorem dX10_give_16 : decode cX10_give 16 = .ok (.bipush (-2), 2) := by decide +kernel
theorem dX10_give_18 : decode cX10_give 18 = .ok (.ireturn, 1) := by decide +kernel
theorem dX10_give_19 : decode cX10_give 19 = .ok (.aload_n 0, 1) := by decide +kernel
theorem dX10_give_20 : decode cX10_give 20 = .ok (.getfield 29, 3) := by decide +kernel
theorem dX10_give_23 : decode cX10_give 23 = .ok (.iload_n 1, 1) := by decide +kernel
theorem dX10_give_24 : decode cX10_give 24 = .ok (.iaload, 1) := by decide +kernel
theorem dX10_give_25 : decode cX10_give 25 = .ok (.iload_n 2, 1) := by decide +kernel
theorem dX10_give_26 : decode cX10_give 26 = .ok (.if_icmp .ne 6, 3) := by decide +kernel
theorem dX10_give_29 : decode cX10_give 29 = .ok (.bipush (-3), 2) := by decide +kernel
theorem dX10_give_31 : decode cX10_give 31 = .ok (.ireturn, 1) := by decide +kernel
theorem dX10_give_32 : decode cX10_give 32 = .ok (.aload_n 0, 1) := by decide +kernel
theorem dX10_give_33 : decode cX10_give 33 = .ok (.getfield 42, 3) := by decide +kernel
theorem dX10_give_36 : decode cX10_give 36 = .ok (.iload_n 1, 1) := by decide +kernel
theorem dX10_give_37 : decode cX10_give 37 = .ok (.iaload, 1) := by decide +kernel
theorem dX10_give_38 : decode cX10_give 38 = .ok (.iconst (-1), 1) := by decide +kernel
theorem dX10_give_39 : decode cX10_give 39 = .ok (.if_icmp .eq 6, 3) := by decide +kernel
theorem dX10_give_42 : decode cX10_give 42 = .ok (.bipush (-4), 2) := by decide +kernel
theorem dX10_give_44 : decode cX10_give 44 = .ok (.ireturn, 1) := by decide +kernel
theorem dX10_give_45 : decode cX10_give 45 = .ok (.aload_n 0, 1) := by decide +kernel
theorem dX10_give_46 : decode cX10_give 46 = .ok (.getfield 86, 3) := by decide +kernel
theorem dX10_give_49 : decode cX10_give 49 = .ok (.bipush 8, 2) := by decide +kernel
theorem dX10_give_51 : decode cX10_give 51 = .ok (.if_icmp .ne 6, 3) := by decide +kernel
theorem dX10_give_54 : decode cX10_give 54 = .ok (.bipush (-5), 2) := by decide +kernel
theorem dX10_give_56 : decode cX10_give 56 = .ok (.ireturn, 1) := by decide +kernel
theorem dX10_give_57 : decode cX10_give 57 = .ok (.aload_n 0, 1) := by decide +kernel
theorem dX10_give_58 : decode cX10_give 58 = .ok (.getfield 42, 3) := by decide +kernel
theorem dX10_give_61 : decode cX10_give 61 = .ok (.iload_n 1, 1) := by decide +kernel
theorem dX10_give_62 : decode cX10_give 62 = .ok (.iload_n 2, 1) := by decide +kernel
theorem dX10_give_63 : decode cX10_give 63 = .ok (.iastore, 1) := by decide +kernel
theorem dX10_give_64 : decode cX10_give 64 = .ok (.aload_n 0, 1) := by decide +kernel
theorem dX10_give_65 : decode cX10_give 65 = .ok (.dup, 1) := by decide +kernel
theorem dX10_give_66 : decode cX10_give 66 = .ok (.getfield 86, 3) := by decide +kernel
theorem dX10_give_69 : decode cX10_give 69 = .ok (.iconst 1, 1) := by decide +kernel
theorem dX10_give_70 : decode cX10_give 70 = .ok (.iadd, 1) := by decide +kernel
theorem dX10_give_71 : decode cX10_give 71 = .ok (.putfield 86, 3) := by decide +kernel
theorem dX10_give_74 : decode cX10_give 74 = .ok (.aload_n 0, 1) := by decide +kernel
theorem dX10_give_75 : decode cX10_give 75 = .ok (.getfield 86, 3) := by decide +kernel
theorem dX10_give_78 : decode cX10_give 78 = .ok (.ireturn, 1) := by decide +kernel
theorem dX10_drop_0 : decode cX10_drop 0 = .ok (.aload_n 0, 1) := by decide +kernel
theorem dX10_drop_1 : decode cX10_drop 1 = .ok (.getfield 86, 3) := by decide +kernel
theorem dX10_drop_4 : decode cX10_drop 4 = .ok (.istore_n 1, 1) := by decide +kernel
theorem dX10_drop_5 : decode cX10_drop 5 = .ok (.aload_n 0, 1) := by decide +kernel
theorem dX10_drop_6 : decode cX10_drop 6 = .ok (.invokevirtual 89, 3) := by decide +kernel
theorem dX10_drop_9 : decode cX10_drop 9 = .ok (.iload_n 1, 1) := by decide +kernel
theorem dX10_drop_10 : decode cX10_drop 10 = .ok (.ireturn, 1) := by decide +kernel
theorem dX10_balanceOf_0 : decode cX10_balanceOf 0 = .ok (.iconst 0, 1) := by decide +kernel
theorem dX10_balanceOf_1 : decode cX10_balanceOf 1 = .ok (.istore_n 2, 1) := by decide +kernel
theorem dX10_balanceOf_2 : decode cX10_balanceOf 2 = .ok (.iconst 0, 1) := by decide +kernel
theorem dX10_balanceOf_3 : decode cX10_balanceOf 3 = .ok (.istore_n 3, 1) := by decide +kernel
theorem dX10_balanceOf_4 : decode cX10_balanceOf 4 = .ok (.iload_n 3, 1) := by decide +kernel
theorem dX10_balanceOf_5 : decode cX10_balanceOf 5 = .ok (.aload_n 0, 1) := by decide +kernel
theorem dX10_balanceOf_6 : decode cX10_balanceOf 6 = .ok (.getfield 77, 3) := by decide +kernel
theorem dX10_balanceOf_9 : decode cX10_balanceOf 9 = .ok (.if_icmp .ge 63, 3) := by decide +kernel
theorem dX10_balanceOf_12 : decode cX10_balanceOf 12 = .ok (.aload_n 0, 1) := by decide +kernel
theorem dX10_balanceOf_13 : decode cX10_balanceOf 13 = .ok (.getfield 42, 3) := by decide +kernel
theorem dX10_balanceOf_16 : decode cX10_balanceOf 16 = .ok (.iload_n 3, 1) := by decide +kernel
theorem dX10_balanceOf_17 : decode cX10_balanceOf 17 = .ok (.iaload, 1) := by decide +kernel
theorem dX10_balanceOf_18 : decode cX10_balanceOf 18 = .ok (.iconst (-1), 1) := by decide +kernel
theorem dX10_balanceOf_19 : decode cX10_balanceOf 19 = .ok (.if_icmp .eq 47, 3) := by decide +kernel
theorem dX10_balanceOf_22 : decode cX10_balanceOf 22 = .ok (.iload_n 2, 1) := by decide +kernel
theorem dX10_balanceOf_23 : decode cX10_balanceOf 23 = .ok (.aload_n 0, 1) := by decide +kernel
theorem dX10_balanceOf_24 : decode cX10_balanceOf 24 = .ok (.getfield 42, 3) := by decide +kernel
theorem dX10_balanceOf_27 : decode cX10_balanceOf 27 = .ok (.iload_n 3, 1) := by decide +kernel
theorem dX10_balanceOf_28 : decode cX10_balanceOf 28 = .ok (.iaload, 1) := by decide +kernel
theorem dX10_balanceOf_29 : decode cX10_balanceOf 29 = .ok (.iload_n 1, 1) := by decide +kernel
theorem dX10_balanceOf_30 : decode cX10_balanceOf 30 = .ok (.if_icmp .ne 11, 3) := by decide +kernel
theorem dX10_balanceOf_33 : decode cX10_balanceOf 33 = .ok (.aload_n 0, 1) := by decide +kernel
theorem dX10_balanceOf_34 : decode cX10_balanceOf 34 = .ok (.iload_n 3, 1) := by decide +kernel
theorem dX10_balanceOf_35 : decode cX10_balanceOf 35 = .ok (.invokevirtual 214, 3) := by decide +kernel
theorem dX10_balanceOf_38 : decode cX10_balanceOf 38 = .ok (.goto 4, 3) := by decide +kernel
theorem dX10_balanceOf_41 : decode cX10_balanceOf 41 = .ok (.iconst 0, 1) := by decide +kernel
theorem dX10_balanceOf_42 : decode cX10_balanceOf 42 = .ok (.iadd, 1) := by decide +kernel
theorem dX10_balanceOf_43 : decode cX10_balanceOf 43 = .ok (.istore_n 2, 1) := by decide +kernel
theorem dX10_balanceOf_44 : decode cX10_balanceOf 44 = .ok (.iload_n 2, 1) := by decide +kernel
theorem dX10_balanceOf_45 : decode cX10_balanceOf 45 = .ok (.aload_n 0, 1) := by decide +kernel
theorem dX10_balanceOf_46 : decode cX10_balanceOf 46 = .ok (.getfield 29, 3) := by decide +kernel
theorem dX10_balanceOf_49 : decode cX10_balanceOf 49 = .ok (.iload_n 3, 1) := by decide +kernel
theorem dX10_balanceOf_50 : decode cX10_balanceOf 50 = .ok (.iaload, 1) := by decide +kernel
theorem dX10_balanceOf_51 : decode cX10_balanceOf 51 = .ok (.iload_n 1, 1) := by decide +kernel
theorem dX10_balanceOf_52 : decode cX10_balanceOf 52 = .ok (.if_icmp .ne 11, 3) := by decide +kernel
theorem dX10_balanceOf_55 : decode cX10_balanceOf 55 = .ok (.aload_n 0, 1) := by decide +kernel
theorem dX10_balanceOf_56 : decode cX10_balanceOf 56 = .ok (.iload_n 3, 1) := by decide +kernel
theorem dX10_balanceOf_57 : decode cX10_balanceOf 57 = .ok (.invokevirtual 214, 3) := by decide +kernel
theorem dX10_balanceOf_60 : decode cX10_balanceOf 60 = .ok (.goto 4, 3) := by decide +kernel
theorem dX10_balanceOf_63 : decode cX10_balanceOf 63 = .ok (.iconst 0, 1) := by decide +kernel
theorem dX10_balanceOf_64 : decode cX10_balanceOf 64 = .ok (.isub, 1) := by decide +kernel
theorem dX10_balanceOf_65 : decode cX10_balanceOf 65 = .ok (.istore_n 2, 1) := by decide +kernel
theorem dX10_balanceOf_66 : decode cX10_balanceOf 66 = .ok (.iinc 3 1, 3) := by decide +kernel
theorem dX10_balanceOf_69 : decode cX10_balanceOf 69 = .ok (.goto (-65), 3) := by decide +kernel
theorem dX10_balanceOf_72 : decode cX10_balanceOf 72 = .ok (.iload_n 2, 1) := by decide +kernel
theorem dX10_balanceOf_73 : decode cX10_balanceOf 73 = .ok (.ireturn, 1) := by decide +kernel
theorem dX10_balance_0 : decode cX10_balance 0 = .ok (.aload_n 0, 1) := by decide +kernel
theorem dX10_balance_1 : decode cX10_balance 1 = .ok (.iload_n 1, 1) := by decide +kernel
theorem dX10_balance_2 : decode cX10_balance 2 = .ok (.invokevirtual 203, 3) := by decide +kernel
theorem dX10_balance_5 : decode cX10_balance 5 = .ok (.ifCond .eq 14, 3) := by decide +kernel
theorem dX10_balance_8 : decode cX10_balance 8 = .ok (.aload_n 0, 1) := by decide +kernel
theorem dX10_balance_9 : decode cX10_balance 9 = .ok (.iload_n 1, 1) := by decide +kernel
theorem dX10_balance_10 : decode cX10_balance 10 = .ok (.invokevirtual 218, 3) := by decide +kernel
theorem dX10_balance_13 : decode cX10_balance 13 = .ok (.ldc 206, 2) := by decide +kernel
theorem dX10_balance_15 : decode cX10_balance 15 = .ok (.iadd, 1) := by decide +kernel
theorem dX10_balance_16 : decode cX10_balance 16 = .ok (.goto 5, 3) := by decide +kernel
theorem dX10_balance_19 : decode cX10_balance 19 = .ok (.bipush (-2), 2) := by decide +kernel
theorem dX10_balance_21 : decode cX10_balance 21 = .ok (.ireturn, 1) := by decide +kernel
theorem dX10_judge_0 : decode cX10_judge 0 = .ok (.iconst 0, 1) := by decide +kernel
theorem dX10_judge_1 : decode cX10_judge 1 = .ok (.istore_n 1, 1) := by decide +kernel
theorem dX10_judge_2 : decode cX10_judge 2 = .ok (.iload_n 1, 1) := by decide +kernel
theorem dX10_judge_3 : decode cX10_judge 3 = .ok (.aload_n 0, 1) := by decide +kernel
theorem dX10_judge_4 : decode cX10_judge 4 = .ok (.getfield 7, 3) := by decide +kernel
theorem dX10_judge_7 : decode cX10_judge 7 = .ok (.if_icmp .ge 99, 3) := by decide +kernel
theorem dX10_judge_10 : decode cX10_judge 10 = .ok (.iconst 0, 1) := by decide +kernel
theorem dX10_judge_11 : decode cX10_judge 11 = .ok (.istore_n 2, 1) := by decide +kernel
theorem dX10_judge_12 : decode cX10_judge 12 = .ok (.iconst 0, 1) := by decide +kernel
theorem dX10_judge_13 : decode cX10_judge 13 = .ok (.istore_n 3, 1) := by decide +kernel
theorem dX10_judge_14 : decode cX10_judge 14 = .ok (.iload_n 3, 1) := by decide +kernel
theorem dX10_judge_15 : decode cX10_judge 15 = .ok (.aload_n 0, 1) := by decide +kernel
theorem dX10_judge_16 : decode cX10_judge 16 = .ok (.getfield 77, 3) := by decide +kernel
theorem dX10_judge_19 : decode cX10_judge 19 = .ok (.if_icmp .ge 55, 3) := by decide +kernel
theorem dX10_judge_22 : decode cX10_judge 22 = .ok (.aload_n 0, 1) := by decide +kernel
theorem dX10_judge_23 : decode cX10_judge 23 = .ok (.getfield 42, 3) := by decide +kernel
theorem dX10_judge_26 : decode cX10_judge 26 = .ok (.iload_n 3, 1) := by decide +kernel
theorem dX10_judge_27 : decode cX10_judge 27 = .ok (.iaload, 1) := by decide +kernel
theorem dX10_judge_28 : decode cX10_judge 28 = .ok (.iconst (-1), 1) := by decide +kernel
theorem dX10_judge_29 : decode cX10_judge 29 = .ok (.if_icmp .eq 39, 3) := by decide +kernel
theorem dX10_judge_32 : decode cX10_judge 32 = .ok (.iload_n 2, 1) := by decide +kernel
theorem dX10_judge_33 : decode cX10_judge 33 = .ok (.aload_n 0, 1) := by decide +kernel
theorem dX10_judge_34 : decode cX10_judge 34 = .ok (.getfield 42, 3) := by decide +kernel
theorem dX10_judge_37 : decode cX10_judge 37 = .ok (.iload_n 3, 1) := by decide +kernel
theorem dX10_judge_38 : decode cX10_judge 38 = .ok (.iaload, 1) := by decide +kernel
theorem dX10_judge_39 : decode cX10_judge 39 = .ok (.iload_n 1, 1) := by decide +kernel
theorem dX10_judge_40 : decode cX10_judge 40 = .ok (.if_icmp .ne 7, 3) := by decide +kernel
theorem dX10_judge_43 : decode cX10_judge 43 = .ok (.iconst 1, 1) := by decide +kernel
theorem dX10_judge_44 : decode cX10_judge 44 = .ok (.goto 4, 3) := by decide +kernel
theorem dX10_judge_47 : decode cX10_judge 47 = .ok (.iconst 0, 1) := by decide +kernel
theorem dX10_judge_48 : decode cX10_judge 48 = .ok (.iadd, 1) := by decide +kernel
theorem dX10_judge_49 : decode cX10_judge 49 = .ok (.istore_n 2, 1) := by decide +kernel
theorem dX10_judge_50 : decode cX10_judge 50 = .ok (.iload_n 2, 1) := by decide +kernel
theorem dX10_judge_51 : decode cX10_judge 51 = .ok (.aload_n 0, 1) := by decide +kernel
theorem dX10_judge_52 : decode cX10_judge 52 = .ok (.getfield 29, 3) := by decide +kernel
theorem dX10_judge_55 : decode cX10_judge 55 = .ok (.iload_n 3, 1) := by decide +kernel
theorem dX10_judge_56 : decode cX10_judge 56 = .ok (.iaload, 1) := by decide +kernel
theorem dX10_judge_57 : decode cX10_judge 57 = .ok (.iload_n 1, 1) := by decide +kernel
theorem dX10_judge_58 : decode cX10_judge 58 = .ok (.if_icmp .ne 7, 3) := by decide +kernel
theorem dX10_judge_61 : decode cX10_judge 61 = .ok (.iconst 1, 1) := by decide +kernel
theorem dX10_judge_62 : decode cX10_judge 62 = .ok (.goto 4, 3) := by decide +kernel
theorem dX10_judge_65 : decode cX10_judge 65 = .ok (.iconst 0, 1) := by decide +kernel
theorem dX10_judge_66 : decode cX10_judge 66 = .ok (.isub, 1) := by decide +kernel
theorem dX10_judge_67 : decode cX10_judge 67 = .ok (.istore_n 2, 1) := by decide +kernel
theorem dX10_judge_68 : decode cX10_judge 68 = .ok (.iinc 3 1, 3) := by decide +kernel
theorem dX10_judge_71 : decode cX10_judge 71 = .ok (.goto (-57), 3) := by decide +kernel
theorem dX10_judge_74 : decode cX10_judge 74 = .ok (.iload_n 2, 1) := by decide +kernel
theorem dX10_judge_75 : decode cX10_judge 75 = .ok (.ifCond .ne 23, 3) := by decide +kernel
theorem dX10_judge_78 : decode cX10_judge 78 = .ok (.aload_n 0, 1) := by decide +kernel
theorem dX10_judge_79 : decode cX10_judge 79 = .ok (.iload_n 1, 1) := by decide +kernel
theorem dX10_judge_80 : decode cX10_judge 80 = .ok (.invokevirtual 218, 3) := by decide +kernel
theorem dX10_judge_83 : decode cX10_judge 83 = .ok (.aload_n 0, 1) := by decide +kernel
theorem dX10_judge_84 : decode cX10_judge 84 = .ok (.getfield 83, 3) := by decide +kernel
theorem dX10_judge_87 : decode cX10_judge 87 = .ok (.ineg, 1) := by decide +kernel
theorem dX10_judge_88 : decode cX10_judge 88 = .ok (.aload_n 0, 1) := by decide +kernel
theorem dX10_judge_89 : decode cX10_judge 89 = .ok (.getfield 83, 3) := by decide +kernel
theorem dX10_judge_92 : decode cX10_judge 92 = .ok (.invokestatic 73, 3) := by decide +kernel
theorem dX10_judge_95 : decode cX10_judge 95 = .ok (.ifCond .ne 5, 3) := by decide +kernel
theorem dX10_judge_98 : decode cX10_judge 98 = .ok (.iload_n 1, 1) := by decide +kernel
theorem dX10_judge_99 : decode cX10_judge 99 = .ok (.ireturn, 1) := by decide +kernel
theorem dX10_judge_100 : decode cX10_judge 100 = .ok (.iinc 1 1, 3) := by decide +kernel
theorem dX10_judge_103 : decode cX10_judge 103 = .ok (.goto (-101), 3) := by decide +kernel
theorem dX10_judge_106 : decode cX10_judge 106 = .ok (.iconst (-1), 1) := by decide +kernel
theorem dX10_judge_107 : decode cX10_judge 107 = .ok (.ireturn, 1) := by decide +kernel
theorem dX10_goAll_0 : decode cX10_goAll 0 = .ok (.iconst 0, 1) := by decide +kernel
theorem dX10_goAll_1 : decode cX10_goAll 1 = .ok (.istore_n 1, 1) := by decide +kernel
theorem dX10_goAll_2 : decode cX10_goAll 2 = .ok (.iload_n 1, 1) := by decide +kernel
theorem dX10_goAll_3 : decode cX10_goAll 3 = .ok (.aload_n 0, 1) := by decide +kernel
theorem dX10_goAll_4 : decode cX10_goAll 4 = .ok (.getfield 7, 3) := by decide +kernel
theorem dX10_goAll_7 : decode cX10_goAll 7 = .ok (.if_icmp .ge 26, 3) := by decide +kernel
theorem dX10_goAll_10 : decode cX10_goAll 10 = .ok (.aload_n 0, 1) := by decide +kernel
theorem dX10_goAll_11 : decode cX10_goAll 11 = .ok (.getfield 29, 3) := by decide +kernel
theorem dX10_goAll_14 : decode cX10_goAll 14 = .ok (.bipush 40, 2) := by decide +kernel
theorem dX10_goAll_16 : decode cX10_goAll 16 = .ok (.iload_n 1, 1) := by decide +kernel
theorem dX10_goAll_17 : decode cX10_goAll 17 = .ok (.iadd, 1) := by decide +kernel
theorem dX10_goAll_18 : decode cX10_goAll 18 = .ok (.dup2, 1) := by decide +kernel
theorem dX10_goAll_19 : decode cX10_goAll 19 = .ok (.iaload, 1) := by decide +kernel
theorem dX10_goAll_20 : decode cX10_goAll 20 = .ok (.aload_n 0, 1) := by decide +kernel
theorem dX10_goAll_21 : decode cX10_goAll 21 = .ok (.iload_n 1, 1) := by decide +kernel
theorem dX10_goAll_22 : decode cX10_goAll 22 = .ok (.invokevirtual 218, 3) := by decide +kernel
theorem dX10_goAll_25 : decode cX10_goAll 25 = .ok (.isub, 1) := by decide +kernel
theorem dX10_goAll_26 : decode cX10_goAll 26 = .ok (.iastore, 1) := by decide +kernel
theorem dX10_goAll_27 : decode cX10_goAll 27 = .ok (.iinc 1 1, 3) := by decide +kernel
theorem dX10_goAll_30 : decode cX10_goAll 30 = .ok (.goto (-28), 3) := by decide +kernel
theorem dX10_goAll_33 : decode cX10_goAll 33 = .ok (.iconst 0, 1) := by decide +kernel
theorem dX10_goAll_34 : decode cX10_goAll 34 = .ok (.istore_n 1, 1) := by decide +kernel
theorem dX10_goAll_35 : decode cX10_goAll 35 = .ok (.iload_n 1, 1) := by decide +kernel
theorem dX10_goAll_36 : decode cX10_goAll 36 = .ok (.aload_n 0, 1) := by decide +kernel
theorem dX10_goAll_37 : decode cX10_goAll 37 = .ok (.getfield 77, 3) := by decide +kernel
theorem dX10_goAll_40 : decode cX10_goAll 40 = .ok (.if_icmp .ge 40, 3) := by decide +kernel
theorem dX10_goAll_43 : decode cX10_goAll 43 = .ok (.aload_n 0, 1) := by decide +kernel
theorem dX10_goAll_44 : decode cX10_goAll 44 = .ok (.getfield 29, 3) := by decide +kernel
theorem dX10_goAll_47 : decode cX10_goAll 47 = .ok (.iload_n 1, 1) := by decide +kernel
theorem dX10_goAll_48 : decode cX10_goAll 48 = .ok (.aload_n 0, 1) := by decide +kernel
theorem dX10_goAll_49 : decode cX10_goAll 49 = .ok (.getfield 42, 3) := by decide +kernel
theorem dX10_goAll_52 : decode cX10_goAll 52 = .ok (.iload_n 1, 1) := by decide +kernel
theorem dX10_goAll_53 : decode cX10_goAll 53 = .ok (.iaload, 1) := by decide +kernel
theorem dX10_goAll_54 : decode cX10_goAll 54 = .ok (.iconst (-1), 1) := by decide +kernel
theorem dX10_goAll_55 : decode cX10_goAll 55 = .ok (.if_icmp .ne 12, 3) := by decide +kernel
theorem dX10_goAll_58 : decode cX10_goAll 58 = .ok (.aload_n 0, 1) := by decide +kernel
theorem dX10_goAll_59 : decode cX10_goAll 59 = .ok (.getfield 29, 3) := by decide +kernel
theorem dX10_goAll_62 : decode cX10_goAll 62 = .ok (.iload_n 1, 1) := by decide +kernel
theorem dX10_goAll_63 : decode cX10_goAll 63 = .ok (.iaload, 1) := by decide +kernel
theorem dX10_goAll_64 : decode cX10_goAll 64 = .ok (.goto 9, 3) := by decide +kernel
theorem dX10_goAll_67 : decode cX10_goAll 67 = .ok (.aload_n 0, 1) := by decide +kernel
theorem dX10_goAll_68 : decode cX10_goAll 68 = .ok (.getfield 42, 3) := by decide +kernel
theorem dX10_goAll_71 : decode cX10_goAll 71 = .ok (.iload_n 1, 1) := by decide +kernel
theorem dX10_goAll_72 : decode cX10_goAll 72 = .ok (.iaload, 1) := by decide +kernel
theorem dX10_goAll_73 : decode cX10_goAll 73 = .ok (.iastore, 1) := by decide +kernel
theorem dX10_goAll_74 : decode cX10_goAll 74 = .ok (.iinc 1 1, 3) := by decide +kernel
theorem dX10_goAll_77 : decode cX10_goAll 77 = .ok (.goto (-42), 3) := by decide +kernel
theorem dX10_goAll_80 : decode cX10_goAll 80 = .ok (.aload_n 0, 1) := by decide +kernel
theorem dX10_goAll_81 : decode cX10_goAll 81 = .ok (.invokevirtual 89, 3) := by decide +kernel
theorem dX10_goAll_84 : decode cX10_goAll 84 = .ok (.return_, 1) := by decide +kernel
theorem dX10_deal_0 : decode cX10_deal 0 = .ok (.aload_n 0, 1) := by decide +kernel
theorem dX10_deal_1 : decode cX10_deal 1 = .ok (.invokevirtual 221, 3) := by decide +kernel
theorem dX10_deal_4 : decode cX10_deal 4 = .ok (.iconst (-1), 1) := by decide +kernel
theorem dX10_deal_5 : decode cX10_deal 5 = .ok (.if_icmp .eq 6, 3) := by decide +kernel
theorem dX10_deal_8 : decode cX10_deal 8 = .ok (.bipush (-4), 2) := by decide +kernel
theorem dX10_deal_10 : decode cX10_deal 10 = .ok (.ireturn, 1) := by decide +kernel
theorem dX10_deal_11 : decode cX10_deal 11 = .ok (.aload_n 0, 1) := by decide +kernel
theorem dX10_deal_12 : decode cX10_deal 12 = .ok (.getfield 86, 3) := by decide +kernel
theorem dX10_deal_15 : decode cX10_deal 15 = .ok (.istore_n 1, 1) := by decide +kernel
theorem dX10_deal_16 : decode cX10_deal 16 = .ok (.aload_n 0, 1) := by decide +kernel
theorem dX10_deal_17 : decode cX10_deal 17 = .ok (.invokevirtual 225, 3) := by decide +kernel
theorem dX10_deal_20 : decode cX10_deal 20 = .ok (.iload_n 1, 1) := by decide +kernel
theorem dX10_deal_21 : decode cX10_deal 21 = .ok (.ireturn, 1) := by decide +kernel
theorem dX10_fitsBehind_0 : decode cX10_fitsBehind 0 = .ok (.aload_n 0, 1) := by decide +kernel
theorem dX10_fitsBehind_1 : decode cX10_fitsBehind 1 = .ok (.getfield 29, 3) := by decide +kernel
theorem dX10_fitsBehind_4 : decode cX10_fitsBehind 4 = .ok (.bipush 20, 2) := by decide +kernel
theorem dX10_fitsBehind_6 : decode cX10_fitsBehind 6 = .ok (.iload_n 1, 1) := by decide +kernel
theorem dX10_fitsBehind_7 : decode cX10_fitsBehind 7 = .ok (.iadd, 1) := by decide +kernel
theorem dX10_fitsBehind_8 : decode cX10_fitsBehind 8 = .ok (.iaload, 1) := by decide +kernel
theorem dX10_fitsBehind_9 : decode cX10_fitsBehind 9 = .ok (.aload_n 0, 1) := by decide +kernel
theorem dX10_fitsBehind_10 : decode cX10_fitsBehind 10 = .ok (.getfield 13, 3) := by decide +kernel
theorem dX10_fitsBehind_13 : decode cX10_fitsBehind 13 = .ok (.iconst 5, 1) := by decide +kernel
theorem dX10_fitsBehind_14 : decode cX10_fitsBehind 14 = .ok (.aload_n 0, 1) := by decide +kernel
theorem dX10_fitsBehind_15 : decode cX10_fitsBehind 15 = .ok (.getfield 29, 3) := by decide +kernel
theorem dX10_fitsBehind_18 : decode cX10_fitsBehind 18 = .ok (.iload_n 2, 1) := by decide +kernel
theorem dX10_fitsBehind_19 : decode cX10_fitsBehind 19 = .ok (.iaload, 1) := by decide +kernel
theorem dX10_fitsBehind_20 : decode cX10_fitsBehind 20 = .ok (.imul, 1) := by decide +kernel
theorem dX10_fitsBehind_21 : decode cX10_fitsBehind 21 = .ok (.iconst 3, 1) := by decide +kernel
theorem dX10_fitsBehind_22 : decode cX10_fitsBehind 22 = .ok (.iadd, 1) := by decide +kernel
theorem dX10_fitsBehind_23 : decode cX10_fitsBehind 23 = .ok (.iaload, 1) := by decide +kernel
theorem dX10_fitsBehind_24 : decode cX10_fitsBehind 24 = .ok (.if_icmp .ne 7, 3) := by decide +kernel
theorem dX10_fitsBehind_27 : decode cX10_fitsBehind 27 = .ok (.iconst 1, 1) := by decide +kernel
theorem dX10_fitsBehind_28 : decode cX10_fitsBehind 28 = .ok (.goto 4, 3) := by decide +kernel
theorem dX10_fitsBehind_31 : decode cX10_fitsBehind 31 = .ok (.iconst 0, 1) := by decide +kernel
theorem dX10_fitsBehind_32 : decode cX10_fitsBehind 32 = .ok (.ireturn, 1) := by decide +kernel
